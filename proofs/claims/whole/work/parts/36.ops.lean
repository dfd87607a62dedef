/-! ===== the reference's calls ===== -/
def zq_m (A B C : Prop) (kI kA kS a : Int32) (S S' : zS) (sh : zm_Sh) (mi : zm_Mi) (mr : zm_Mr) : Option Value → zm_Sh → zm_Mi → zm_Mr → Prop := fun v s i m => ∃ x, v = some (.int x) ∧ ((A ∧ B ∧ C ∧ i 1 30 = nI 0 ∧ x = a ∧ zM S' s i m) ∨ (¬ A ∧ i 1 30 = kI ∧ zM S s i m) ∨ (A ∧ ¬ B ∧ i 1 30 = kA ∧ zM S s i m) ∨ (A ∧ B ∧ ¬ C ∧ i 1 30 = kS ∧ zM S s i m)) ∧ zr_same zr_mout sh mi mr s i m
set_option maxRecDepth 20000 in
theorem m_fails0 (sh : zm_Sh) (mi : zm_Mi) (mr : zm_Mr) (h1 : sh 1 = some (0, 6)) : zz_Con yX6_fails (.code yX6_fails cX6_fails 2 (some Jvm.ClassFile.FieldType.boolean)) 0 0 0 [.ref 1, .int (nI 0)] sh mi mr (zz_q (some (.int (nI 0))) sh (zm_u2 mi 1 30 (nI 0)) mr) zz_none := by
  refine zz_begin RX6 [(0, .ref 1), (1, .int (nI 0))] (by decide) rfl rfl (Nat.le_of_ble_eq_true rfl) rfl ?_
  intro Γ D E ad hX hr hN hT
  refine zz_aload_n hX dX6_fails_0 0 rfl rfl ?_
  refine zz_iload_n hX dX6_fails_1 1 rfl rfl ?_
  refine zz_putI hX zf_F_X6_84 h1 rfl rfl rfl dX6_fails_2 ?_
  refine zz_iload_n hX dX6_fails_5 1 rfl rfl ?_
  refine zz_if_le hX 13 dX6_fails_6 (by decide) (fun _ => ?_) (fun c => absurd c (by decide))
  refine zz_iconst (v := nI 0) hX dX6_fails_13 rfl ?_
  refine zz_iret hX hr rfl (Nat.le_of_ble_eq_true rfl) (Nat.le_of_ble_eq_true rfl) dX6_fails_14 ?_
  exact ⟨rfl, rfl, rfl, rfl⟩

set_option maxRecDepth 20000 in
theorem m_fails1 (sh : zm_Sh) (mi : zm_Mi) (mr : zm_Mr) (h1 : sh 1 = some (0, 6)) : zz_Con yX6_fails (.code yX6_fails cX6_fails 2 (some Jvm.ClassFile.FieldType.boolean)) 0 0 0 [.ref 1, .int (nI 1)] sh mi mr (zz_q (some (.int (nI 1))) sh (zm_u2 mi 1 30 (nI 1)) mr) zz_none := by
  refine zz_begin RX6 [(0, .ref 1), (1, .int (nI 1))] (by decide) rfl rfl (Nat.le_of_ble_eq_true rfl) rfl ?_
  intro Γ D E ad hX hr hN hT
  refine zz_aload_n hX dX6_fails_0 0 rfl rfl ?_
  refine zz_iload_n hX dX6_fails_1 1 rfl rfl ?_
  refine zz_putI hX zf_F_X6_84 h1 rfl rfl rfl dX6_fails_2 ?_
  refine zz_iload_n hX dX6_fails_5 1 rfl rfl ?_
  refine zz_if_le hX 13 dX6_fails_6 (by decide) (fun c => absurd c (by decide)) (fun _ => ?_)
  refine zz_iconst (v := nI 1) hX dX6_fails_9 rfl ?_
  refine zz_goto hX 14 dX6_fails_10 (by decide) ?_
  refine zz_iret hX hr rfl (Nat.le_of_ble_eq_true rfl) (Nat.le_of_ble_eq_true rfl) dX6_fails_14 ?_
  exact ⟨rfl, rfl, rfl, rfl⟩

set_option maxRecDepth 20000 in
theorem m_fails2 (sh : zm_Sh) (mi : zm_Mi) (mr : zm_Mr) (h1 : sh 1 = some (0, 6)) : zz_Con yX6_fails (.code yX6_fails cX6_fails 2 (some Jvm.ClassFile.FieldType.boolean)) 0 0 0 [.ref 1, .int (nI 2)] sh mi mr (zz_q (some (.int (nI 1))) sh (zm_u2 mi 1 30 (nI 2)) mr) zz_none := by
  refine zz_begin RX6 [(0, .ref 1), (1, .int (nI 2))] (by decide) rfl rfl (Nat.le_of_ble_eq_true rfl) rfl ?_
  intro Γ D E ad hX hr hN hT
  refine zz_aload_n hX dX6_fails_0 0 rfl rfl ?_
  refine zz_iload_n hX dX6_fails_1 1 rfl rfl ?_
  refine zz_putI hX zf_F_X6_84 h1 rfl rfl rfl dX6_fails_2 ?_
  refine zz_iload_n hX dX6_fails_5 1 rfl rfl ?_
  refine zz_if_le hX 13 dX6_fails_6 (by decide) (fun c => absurd c (by decide)) (fun _ => ?_)
  refine zz_iconst (v := nI 1) hX dX6_fails_9 rfl ?_
  refine zz_goto hX 14 dX6_fails_10 (by decide) ?_
  refine zz_iret hX hr rfl (Nat.le_of_ble_eq_true rfl) (Nat.le_of_ble_eq_true rfl) dX6_fails_14 ?_
  exact ⟨rfl, rfl, rfl, rfl⟩

set_option maxRecDepth 20000 in
theorem m_fails3 (sh : zm_Sh) (mi : zm_Mi) (mr : zm_Mr) (h1 : sh 1 = some (0, 6)) : zz_Con yX6_fails (.code yX6_fails cX6_fails 2 (some Jvm.ClassFile.FieldType.boolean)) 0 0 0 [.ref 1, .int (nI 3)] sh mi mr (zz_q (some (.int (nI 1))) sh (zm_u2 mi 1 30 (nI 3)) mr) zz_none := by
  refine zz_begin RX6 [(0, .ref 1), (1, .int (nI 3))] (by decide) rfl rfl (Nat.le_of_ble_eq_true rfl) rfl ?_
  intro Γ D E ad hX hr hN hT
  refine zz_aload_n hX dX6_fails_0 0 rfl rfl ?_
  refine zz_iload_n hX dX6_fails_1 1 rfl rfl ?_
  refine zz_putI hX zf_F_X6_84 h1 rfl rfl rfl dX6_fails_2 ?_
  refine zz_iload_n hX dX6_fails_5 1 rfl rfl ?_
  refine zz_if_le hX 13 dX6_fails_6 (by decide) (fun c => absurd c (by decide)) (fun _ => ?_)
  refine zz_iconst (v := nI 1) hX dX6_fails_9 rfl ?_
  refine zz_goto hX 14 dX6_fails_10 (by decide) ?_
  refine zz_iret hX hr rfl (Nat.le_of_ble_eq_true rfl) (Nat.le_of_ble_eq_true rfl) dX6_fails_14 ?_
  exact ⟨rfl, rfl, rfl, rfl⟩

set_option maxRecDepth 20000 in
theorem MP_bars (S : zS) (sh : zm_Sh) (mi : zm_Mi) (mr : zm_Mr) (hW : zW S) (hM : zM S sh mi mr) (s : Int32)  : zz_Con yX6_bars (.code yX6_bars cX6_bars 2 (some Jvm.ClassFile.FieldType.int)) 6 0 0 [.ref 1, .int s] sh mi mr (zq_m ((zs_ix s (zv_ns S))) (True) (True) (nI 1) (nI 0) (nI 0) (nI (zp_bar S (zn s))) S S sh mi mr) zz_none := by
  refine zz_begin RX6 [(0, .ref 1), (1, .int s)] (by decide) rfl rfl (Nat.le_of_ble_eq_true rfl) rfl ?_
  intro Γ D E ad hX hr hN hT
  obtain ⟨hWp, hWv, hWs, hWk, hWr, hWf⟩ := id hW
  obtain ⟨p0, p1, p2, p3, p4, p5⟩ := hWp
  obtain ⟨v0, v1, v2, v3, v4⟩ := hWv
  obtain ⟨s0, s1, s2, s3⟩ := hWs
  obtain ⟨f0, f1, f2, f3⟩ := hWf
  by_cases hA0 : zs_ix s (zv_ns S)
  rotate_left
  · skip
    refine zz_aload_n hX dX6_bars_0 0 rfl rfl ?_
    refine zz_aload_n hX dX6_bars_1 0 rfl rfl ?_
    refine zz_iload_n hX dX6_bars_2 1 rfl rfl ?_
    refine zz_vI (x := zz_bi (zs_ix s (zv_ns S))) hX zf_M_X6_105 (As := [.int s]) (st := [.ref 1]) (M_isShot S sh mi mr hW hM s) hM.1 rfl rfl rfl (by decide) (Nat.le_of_ble_eq_true rfl) (Nat.le_of_ble_eq_true rfl) (Nat.le_of_ble_eq_true rfl) dX6_bars_3 ?_
    refine zz_if_eqB hX 13 dX6_bars_6 (by decide) (fun c6 => ?_) (fun c6 => absurd c6 (show ¬ (zs_ix s (zv_ns S)) from hA0))
    refine zz_iconst (v := nI 1) hX dX6_bars_13 rfl ?_
    refine zz_vI (x := nI 1) hX zf_M_X6_108 (As := [.int (nI 1)]) (st := []) (m_fails1 sh mi mr hM.1) hM.1 rfl rfl rfl (by decide) (Nat.le_of_ble_eq_true rfl) (Nat.le_of_ble_eq_true rfl) (Nat.le_of_ble_eq_true rfl) dX6_bars_14 ?_
    refine zz_if_eq hX 24 dX6_bars_17 (by decide) (fun c => absurd c (by decide)) (fun _ => ?_)
    refine zz_iconst (v := nI 0) hX dX6_bars_20 rfl ?_
    refine zz_goto hX 29 dX6_bars_21 (by decide) ?_
    refine zz_iret hX hr rfl (Nat.le_of_ble_eq_true rfl) (Nat.le_of_ble_eq_true rfl) dX6_bars_29 ?_
    exact ⟨_, rfl, Or.inr (Or.inl ⟨(fun h => hA0 (h)), (zm_u2s), (zM_th hM)⟩), (zr_mf zr_same.rfl' (by unfold zr_mout; omega))⟩
  obtain ⟨i, hi, rfl⟩ := zs_ix_of hA0 (by omega)
  have z_i : zn (nI i) = i := nI_clamp (n := i) (by omega)
  obtain ⟨b1, b2, b3, b4, b5, b6, b7, b8, b9, b10, b11, b12, b13⟩ := s2 i hi
  have hjn9 := (p2 _ b2).2.2
  refine zz_aload_n hX dX6_bars_0 0 rfl rfl ?_
  refine zz_aload_n hX dX6_bars_1 0 rfl rfl ?_
  refine zz_iload_n hX dX6_bars_2 1 rfl rfl ?_
  refine zz_vI (x := zz_bi (zs_ix (nI i) (zv_ns S))) hX zf_M_X6_105 (As := [.int (nI i)]) (st := [.ref 1]) (M_isShot S sh mi mr hW hM (nI i)) hM.1 rfl rfl rfl (by decide) (Nat.le_of_ble_eq_true rfl) (Nat.le_of_ble_eq_true rfl) (Nat.le_of_ble_eq_true rfl) dX6_bars_3 ?_
  refine zz_if_eqB hX 13 dX6_bars_6 (by decide) (fun c6 => absurd (show zs_ix (nI i) (zv_ns S) from hA0) c6) (fun c6 => ?_)
  refine zz_iconst (v := nI 0) hX dX6_bars_9 rfl ?_
  refine zz_goto hX 14 dX6_bars_10 (by decide) ?_
  refine zz_vI (x := nI 0) hX zf_M_X6_108 (As := [.int (nI 0)]) (st := []) (m_fails0 sh mi mr hM.1) hM.1 rfl rfl rfl (by decide) (Nat.le_of_ble_eq_true rfl) (Nat.le_of_ble_eq_true rfl) (Nat.le_of_ble_eq_true rfl) dX6_bars_14 ?_
  refine zz_if_eq hX 24 dX6_bars_17 (by decide) (fun _ => ?_) (fun c => absurd c (by decide))
  refine zz_aload_n hX dX6_bars_24 0 rfl rfl ?_
  refine zz_iload_n hX dX6_bars_25 1 rfl rfl ?_
  refine zz_vI (x := nI (zp_bar S i)) hX zf_M_X6_173 (As := [.int (nI i)]) (st := []) (M_reason S sh (zm_u2 mi 1 30 (nI 0)) mr hW (zM_th hM) i hi) hM.1 rfl rfl rfl (by decide) (Nat.le_of_ble_eq_true rfl) (Nat.le_of_ble_eq_true rfl) (Nat.le_of_ble_eq_true rfl) dX6_bars_26 ?_
  refine zz_iret hX hr rfl (Nat.le_of_ble_eq_true rfl) (Nat.le_of_ble_eq_true rfl) dX6_bars_29 ?_
  exact ⟨_, rfl, Or.inl ⟨hA0, trivial, trivial, (zm_u2s), (by first | rfl | ((try rw [z_i]); (try rfl))), (by (try rw [z_i]); exact (zM_th hM))⟩, (zr_mf zr_same.rfl' (by unfold zr_mout; omega))⟩

set_option maxRecDepth 20000 in
theorem MP_struck (S : zS) (sh : zm_Sh) (mi : zm_Mi) (mr : zm_Mr) (hW : zW S) (hM : zM S sh mi mr) (s : Int32)  : zz_Con yX6_struck (.code yX6_struck cX6_struck 2 (some Jvm.ClassFile.FieldType.int)) 6 0 0 [.ref 1, .int s] sh mi mr (zq_m ((zs_ix s (zv_ns S))) (True) (True) (nI 1) (nI 0) (nI 0) (nI (zv_sk S (zn s))) S S sh mi mr) zz_none := by
  refine zz_begin RX6 [(0, .ref 1), (1, .int s)] (by decide) rfl rfl (Nat.le_of_ble_eq_true rfl) rfl ?_
  intro Γ D E ad hX hr hN hT
  obtain ⟨hWp, hWv, hWs, hWk, hWr, hWf⟩ := id hW
  obtain ⟨p0, p1, p2, p3, p4, p5⟩ := hWp
  obtain ⟨v0, v1, v2, v3, v4⟩ := hWv
  obtain ⟨s0, s1, s2, s3⟩ := hWs
  obtain ⟨f0, f1, f2, f3⟩ := hWf
  by_cases hA0 : zs_ix s (zv_ns S)
  rotate_left
  · skip
    refine zz_aload_n hX dX6_struck_0 0 rfl rfl ?_
    refine zz_aload_n hX dX6_struck_1 0 rfl rfl ?_
    refine zz_iload_n hX dX6_struck_2 1 rfl rfl ?_
    refine zz_vI (x := zz_bi (zs_ix s (zv_ns S))) hX zf_M_X6_105 (As := [.int s]) (st := [.ref 1]) (M_isShot S sh mi mr hW hM s) hM.1 rfl rfl rfl (by decide) (Nat.le_of_ble_eq_true rfl) (Nat.le_of_ble_eq_true rfl) (Nat.le_of_ble_eq_true rfl) dX6_struck_3 ?_
    refine zz_if_eqB hX 13 dX6_struck_6 (by decide) (fun c6 => ?_) (fun c6 => absurd c6 (show ¬ (zs_ix s (zv_ns S)) from hA0))
    refine zz_iconst (v := nI 1) hX dX6_struck_13 rfl ?_
    refine zz_vI (x := nI 1) hX zf_M_X6_108 (As := [.int (nI 1)]) (st := []) (m_fails1 sh mi mr hM.1) hM.1 rfl rfl rfl (by decide) (Nat.le_of_ble_eq_true rfl) (Nat.le_of_ble_eq_true rfl) (Nat.le_of_ble_eq_true rfl) dX6_struck_14 ?_
    refine zz_if_eq hX 24 dX6_struck_17 (by decide) (fun c => absurd c (by decide)) (fun _ => ?_)
    refine zz_iconst (v := nI 0) hX dX6_struck_20 rfl ?_
    refine zz_goto hX 30 dX6_struck_21 (by decide) ?_
    refine zz_iret hX hr rfl (Nat.le_of_ble_eq_true rfl) (Nat.le_of_ble_eq_true rfl) dX6_struck_30 ?_
    exact ⟨_, rfl, Or.inr (Or.inl ⟨(fun h => hA0 (h)), (zm_u2s), (zM_th hM)⟩), (zr_mf zr_same.rfl' (by unfold zr_mout; omega))⟩
  obtain ⟨i, hi, rfl⟩ := zs_ix_of hA0 (by omega)
  have z_i : zn (nI i) = i := nI_clamp (n := i) (by omega)
  obtain ⟨b1, b2, b3, b4, b5, b6, b7, b8, b9, b10, b11, b12, b13⟩ := s2 i hi
  have hjn9 := (p2 _ b2).2.2
  refine zz_aload_n hX dX6_struck_0 0 rfl rfl ?_
  refine zz_aload_n hX dX6_struck_1 0 rfl rfl ?_
  refine zz_iload_n hX dX6_struck_2 1 rfl rfl ?_
  refine zz_vI (x := zz_bi (zs_ix (nI i) (zv_ns S))) hX zf_M_X6_105 (As := [.int (nI i)]) (st := [.ref 1]) (M_isShot S sh mi mr hW hM (nI i)) hM.1 rfl rfl rfl (by decide) (Nat.le_of_ble_eq_true rfl) (Nat.le_of_ble_eq_true rfl) (Nat.le_of_ble_eq_true rfl) dX6_struck_3 ?_
  refine zz_if_eqB hX 13 dX6_struck_6 (by decide) (fun c6 => absurd (show zs_ix (nI i) (zv_ns S) from hA0) c6) (fun c6 => ?_)
  refine zz_iconst (v := nI 0) hX dX6_struck_9 rfl ?_
  refine zz_goto hX 14 dX6_struck_10 (by decide) ?_
  refine zz_vI (x := nI 0) hX zf_M_X6_108 (As := [.int (nI 0)]) (st := []) (m_fails0 sh mi mr hM.1) hM.1 rfl rfl rfl (by decide) (Nat.le_of_ble_eq_true rfl) (Nat.le_of_ble_eq_true rfl) (Nat.le_of_ble_eq_true rfl) dX6_struck_14 ?_
  refine zz_if_eq hX 24 dX6_struck_17 (by decide) (fun _ => ?_) (fun c => absurd c (by decide))
  refine zz_aload_n hX dX6_struck_24 0 rfl rfl ?_
  refine zz_getR (y := 115) hX zf_F_X6_46.r hM.1 rfl (zM_r15 hM).1 dX6_struck_25 ?_
  refine zz_iload_n hX dX6_struck_28 1 rfl rfl ?_
  refine zz_iald (x := nI (zv_sk S i)) hX (zM_r15 hM).2 i rfl (by omega) (by decide) (((zm_u2l (by decide))).trans (((zM_v15 hM (k := i) (by omega)).trans (s2 i hi).2.2.2.2.2.2.2.2.2.2.1))) dX6_struck_29 ?_
  refine zz_iret hX hr rfl (Nat.le_of_ble_eq_true rfl) (Nat.le_of_ble_eq_true rfl) dX6_struck_30 ?_
  exact ⟨_, rfl, Or.inl ⟨hA0, trivial, trivial, (zm_u2s), (by first | rfl | ((try rw [z_i]); (try rfl))), (by (try rw [z_i]); exact (zM_th hM))⟩, (zr_mf zr_same.rfl' (by unfold zr_mout; omega))⟩

set_option maxRecDepth 20000 in
theorem MP_degree (S : zS) (sh : zm_Sh) (mi : zm_Mi) (mr : zm_Mr) (hW : zW S) (hM : zM S sh mi mr) (s jx fx : Int32)  : zz_Con yX6_degree (.code yX6_degree cX6_degree 4 (some Jvm.ClassFile.FieldType.int)) 6 0 0 [.ref 1, .int s, .int jx, .int fx] sh mi mr (zq_m ((zs_ix s (zv_ns S)) ∧ (zs_ix jx (zv_jn S (zv_pu S (zn s)))) ∧ (zs_ix fx (zv_fr S (zn s)))) (True) (True) (nI 1) (nI 0) (nI 0) (zp_deg S (zn s) (zn jx) (zn fx)) S S sh mi mr) zz_none := by
  refine zz_begin RX6 [(0, .ref 1), (1, .int s), (2, .int jx), (3, .int fx)] (by decide) rfl rfl (Nat.le_of_ble_eq_true rfl) rfl ?_
  intro Γ D E ad hX hr hN hT
  obtain ⟨hWp, hWv, hWs, hWk, hWr, hWf⟩ := id hW
  obtain ⟨p0, p1, p2, p3, p4, p5⟩ := hWp
  obtain ⟨v0, v1, v2, v3, v4⟩ := hWv
  obtain ⟨s0, s1, s2, s3⟩ := hWs
  obtain ⟨f0, f1, f2, f3⟩ := hWf
  by_cases hA0 : zs_ix s (zv_ns S)
  rotate_left
  · skip
    refine zz_aload_n hX dX6_degree_0 0 rfl rfl ?_
    refine zz_aload_n hX dX6_degree_1 0 rfl rfl ?_
    refine zz_iload_n hX dX6_degree_2 1 rfl rfl ?_
    refine zz_iload_n hX dX6_degree_3 2 rfl rfl ?_
    refine zz_vI (x := zz_bi (zs_ix s (zv_ns S) ∧ zs_ix jx (zv_jn S (zv_pu S (zn s))))) hX zf_M_X6_138 (As := [.int s, .int jx]) (st := [.ref 1]) (M_isJointOf S sh mi mr hW hM s jx) hM.1 rfl rfl rfl (by decide) (Nat.le_of_ble_eq_true rfl) (Nat.le_of_ble_eq_true rfl) (Nat.le_of_ble_eq_true rfl) dX6_degree_4 ?_
    refine zz_if_eqB hX 23 dX6_degree_7 (by decide) (fun c7 => ?_) (fun c7 => absurd c7 (show ¬ (zs_ix s (zv_ns S) ∧ zs_ix jx (zv_jn S (zv_pu S (zn s)))) from (fun h => hA0 (h.1))))
    refine zz_iconst (v := nI 1) hX dX6_degree_23 rfl ?_
    refine zz_vI (x := nI 1) hX zf_M_X6_108 (As := [.int (nI 1)]) (st := []) (m_fails1 sh mi mr hM.1) hM.1 rfl rfl rfl (by decide) (Nat.le_of_ble_eq_true rfl) (Nat.le_of_ble_eq_true rfl) (Nat.le_of_ble_eq_true rfl) dX6_degree_24 ?_
    refine zz_if_eq hX 34 dX6_degree_27 (by decide) (fun c => absurd c (by decide)) (fun _ => ?_)
    refine zz_iconst (v := nI 0) hX dX6_degree_30 rfl ?_
    refine zz_goto hX 41 dX6_degree_31 (by decide) ?_
    refine zz_iret hX hr rfl (Nat.le_of_ble_eq_true rfl) (Nat.le_of_ble_eq_true rfl) dX6_degree_41 ?_
    exact ⟨_, rfl, Or.inr (Or.inl ⟨(fun h => hA0 (h.1)), (zm_u2s), (zM_th hM)⟩), (zr_mf zr_same.rfl' (by unfold zr_mout; omega))⟩
  obtain ⟨i, hi, rfl⟩ := zs_ix_of hA0 (by omega)
  have z_i : zn (nI i) = i := nI_clamp (n := i) (by omega)
  obtain ⟨b1, b2, b3, b4, b5, b6, b7, b8, b9, b10, b11, b12, b13⟩ := s2 i hi
  have hjn9 := (p2 _ b2).2.2
  by_cases hA1 : zs_ix jx (zv_jn S (zv_pu S (zn (nI i))))
  rotate_left
  · skip
    have hA1n : ¬ (zs_ix jx (zv_jn S (zv_pu S (i)))) := by have q9 := hA1; (try rw [z_i] at q9); exact q9
    refine zz_aload_n hX dX6_degree_0 0 rfl rfl ?_
    refine zz_aload_n hX dX6_degree_1 0 rfl rfl ?_
    refine zz_iload_n hX dX6_degree_2 1 rfl rfl ?_
    refine zz_iload_n hX dX6_degree_3 2 rfl rfl ?_
    refine zz_vI (x := zz_bi (zs_ix (nI i) (zv_ns S) ∧ zs_ix jx (zv_jn S (zv_pu S (zn (nI i)))))) hX zf_M_X6_138 (As := [.int (nI i), .int jx]) (st := [.ref 1]) (M_isJointOf S sh mi mr hW hM (nI i) jx) hM.1 rfl rfl rfl (by decide) (Nat.le_of_ble_eq_true rfl) (Nat.le_of_ble_eq_true rfl) (Nat.le_of_ble_eq_true rfl) dX6_degree_4 ?_
    refine zz_if_eqB hX 23 dX6_degree_7 (by decide) (fun c7 => ?_) (fun c7 => absurd c7 (show ¬ (zs_ix (nI i) (zv_ns S) ∧ zs_ix jx (zv_jn S (zv_pu S (zn (nI i))))) from (fun h => hA1 (h.2))))
    refine zz_iconst (v := nI 1) hX dX6_degree_23 rfl ?_
    refine zz_vI (x := nI 1) hX zf_M_X6_108 (As := [.int (nI 1)]) (st := []) (m_fails1 sh mi mr hM.1) hM.1 rfl rfl rfl (by decide) (Nat.le_of_ble_eq_true rfl) (Nat.le_of_ble_eq_true rfl) (Nat.le_of_ble_eq_true rfl) dX6_degree_24 ?_
    refine zz_if_eq hX 34 dX6_degree_27 (by decide) (fun c => absurd c (by decide)) (fun _ => ?_)
    refine zz_iconst (v := nI 0) hX dX6_degree_30 rfl ?_
    refine zz_goto hX 41 dX6_degree_31 (by decide) ?_
    refine zz_iret hX hr rfl (Nat.le_of_ble_eq_true rfl) (Nat.le_of_ble_eq_true rfl) dX6_degree_41 ?_
    exact ⟨_, rfl, Or.inr (Or.inl ⟨(fun h => hA1 (h.2.1)), (zm_u2s), (zM_th hM)⟩), (zr_mf zr_same.rfl' (by unfold zr_mout; omega))⟩
  have hA1n : zs_ix jx (zv_jn S (zv_pu S (i))) := by have q9 := hA1; (try rw [z_i] at q9); exact q9
  obtain ⟨j, hj, rfl⟩ := zs_ix_of hA1n (by omega)
  have z_j : zn (nI j) = j := nI_clamp (n := j) (by omega)
  by_cases hA2 : zs_ix fx (zv_fr S (zn (nI i)))
  rotate_left
  · skip
    have hA2n : ¬ (zs_ix fx (zv_fr S (i))) := by have q9 := hA2; (try rw [z_i] at q9); (try rw [z_j] at q9); exact q9
    refine zz_aload_n hX dX6_degree_0 0 rfl rfl ?_
    refine zz_aload_n hX dX6_degree_1 0 rfl rfl ?_
    refine zz_iload_n hX dX6_degree_2 1 rfl rfl ?_
    refine zz_iload_n hX dX6_degree_3 2 rfl rfl ?_
    refine zz_vI (x := zz_bi (zs_ix (nI i) (zv_ns S) ∧ zs_ix (nI j) (zv_jn S (zv_pu S (zn (nI i)))))) hX zf_M_X6_138 (As := [.int (nI i), .int (nI j)]) (st := [.ref 1]) (M_isJointOf S sh mi mr hW hM (nI i) (nI j)) hM.1 rfl rfl rfl (by decide) (Nat.le_of_ble_eq_true rfl) (Nat.le_of_ble_eq_true rfl) (Nat.le_of_ble_eq_true rfl) dX6_degree_4 ?_
    refine zz_if_eqB hX 23 dX6_degree_7 (by decide) (fun c7 => absurd (show zs_ix (nI i) (zv_ns S) ∧ zs_ix (nI j) (zv_jn S (zv_pu S (zn (nI i)))) from ⟨hA0, hA1⟩) c7) (fun c7 => ?_)
    refine zz_aload_n hX dX6_degree_10 0 rfl rfl ?_
    refine zz_iload_n hX dX6_degree_11 1 rfl rfl ?_
    refine zz_iload_n hX dX6_degree_12 3 rfl rfl ?_
    refine zz_vI (x := zz_bi (zs_ix (nI i) (zv_ns S) ∧ zs_ix fx (zv_fr S (zn (nI i))))) hX zf_M_X6_141 (As := [.int (nI i), .int fx]) (st := [.ref 1]) (M_isFrame S sh mi mr hW hM (nI i) fx) hM.1 rfl rfl rfl (by decide) (Nat.le_of_ble_eq_true rfl) (Nat.le_of_ble_eq_true rfl) (Nat.le_of_ble_eq_true rfl) dX6_degree_13 ?_
    refine zz_if_eqB hX 23 dX6_degree_16 (by decide) (fun c16 => ?_) (fun c16 => absurd c16 (show ¬ (zs_ix (nI i) (zv_ns S) ∧ zs_ix fx (zv_fr S (zn (nI i)))) from (fun h => hA2 (h.2))))
    refine zz_iconst (v := nI 1) hX dX6_degree_23 rfl ?_
    refine zz_vI (x := nI 1) hX zf_M_X6_108 (As := [.int (nI 1)]) (st := []) (m_fails1 sh mi mr hM.1) hM.1 rfl rfl rfl (by decide) (Nat.le_of_ble_eq_true rfl) (Nat.le_of_ble_eq_true rfl) (Nat.le_of_ble_eq_true rfl) dX6_degree_24 ?_
    refine zz_if_eq hX 34 dX6_degree_27 (by decide) (fun c => absurd c (by decide)) (fun _ => ?_)
    refine zz_iconst (v := nI 0) hX dX6_degree_30 rfl ?_
    refine zz_goto hX 41 dX6_degree_31 (by decide) ?_
    refine zz_iret hX hr rfl (Nat.le_of_ble_eq_true rfl) (Nat.le_of_ble_eq_true rfl) dX6_degree_41 ?_
    exact ⟨_, rfl, Or.inr (Or.inl ⟨(fun h => hA2 (h.2.2)), (zm_u2s), (zM_th hM)⟩), (zr_mf zr_same.rfl' (by unfold zr_mout; omega))⟩
  have hA2n : zs_ix fx (zv_fr S (i)) := by have q9 := hA2; (try rw [z_i] at q9); (try rw [z_j] at q9); exact q9
  obtain ⟨f, hf, rfl⟩ := zs_ix_of hA2n (by omega)
  have z_f : zn (nI f) = f := nI_clamp (n := f) (by omega)
  refine zz_aload_n hX dX6_degree_0 0 rfl rfl ?_
  refine zz_aload_n hX dX6_degree_1 0 rfl rfl ?_
  refine zz_iload_n hX dX6_degree_2 1 rfl rfl ?_
  refine zz_iload_n hX dX6_degree_3 2 rfl rfl ?_
  refine zz_vI (x := zz_bi (zs_ix (nI i) (zv_ns S) ∧ zs_ix (nI j) (zv_jn S (zv_pu S (zn (nI i)))))) hX zf_M_X6_138 (As := [.int (nI i), .int (nI j)]) (st := [.ref 1]) (M_isJointOf S sh mi mr hW hM (nI i) (nI j)) hM.1 rfl rfl rfl (by decide) (Nat.le_of_ble_eq_true rfl) (Nat.le_of_ble_eq_true rfl) (Nat.le_of_ble_eq_true rfl) dX6_degree_4 ?_
  refine zz_if_eqB hX 23 dX6_degree_7 (by decide) (fun c7 => absurd (show zs_ix (nI i) (zv_ns S) ∧ zs_ix (nI j) (zv_jn S (zv_pu S (zn (nI i)))) from ⟨hA0, hA1⟩) c7) (fun c7 => ?_)
  refine zz_aload_n hX dX6_degree_10 0 rfl rfl ?_
  refine zz_iload_n hX dX6_degree_11 1 rfl rfl ?_
  refine zz_iload_n hX dX6_degree_12 3 rfl rfl ?_
  refine zz_vI (x := zz_bi (zs_ix (nI i) (zv_ns S) ∧ zs_ix (nI f) (zv_fr S (zn (nI i))))) hX zf_M_X6_141 (As := [.int (nI i), .int (nI f)]) (st := [.ref 1]) (M_isFrame S sh mi mr hW hM (nI i) (nI f)) hM.1 rfl rfl rfl (by decide) (Nat.le_of_ble_eq_true rfl) (Nat.le_of_ble_eq_true rfl) (Nat.le_of_ble_eq_true rfl) dX6_degree_13 ?_
  refine zz_if_eqB hX 23 dX6_degree_16 (by decide) (fun c16 => absurd (show zs_ix (nI i) (zv_ns S) ∧ zs_ix (nI f) (zv_fr S (zn (nI i))) from ⟨hA0, hA2⟩) c16) (fun c16 => ?_)
  refine zz_iconst (v := nI 0) hX dX6_degree_19 rfl ?_
  refine zz_goto hX 24 dX6_degree_20 (by decide) ?_
  refine zz_vI (x := nI 0) hX zf_M_X6_108 (As := [.int (nI 0)]) (st := []) (m_fails0 sh mi mr hM.1) hM.1 rfl rfl rfl (by decide) (Nat.le_of_ble_eq_true rfl) (Nat.le_of_ble_eq_true rfl) (Nat.le_of_ble_eq_true rfl) dX6_degree_24 ?_
  refine zz_if_eq hX 34 dX6_degree_27 (by decide) (fun _ => ?_) (fun c => absurd c (by decide))
  refine zz_aload_n hX dX6_degree_34 0 rfl rfl ?_
  refine zz_iload_n hX dX6_degree_35 1 rfl rfl ?_
  refine zz_iload_n hX dX6_degree_36 2 rfl rfl ?_
  refine zz_iload_n hX dX6_degree_37 3 rfl rfl ?_
  refine zz_vI (x := zp_deg S i j f) hX zf_M_X6_144 (As := [.int (nI i), .int (nI j), .int (nI f)]) (st := []) (M_degreeAt S sh (zm_u2 mi 1 30 (nI 0)) mr hW (zM_th hM) i hi j (by omega) f (by omega)) hM.1 rfl rfl rfl (by decide) (Nat.le_of_ble_eq_true rfl) (Nat.le_of_ble_eq_true rfl) (Nat.le_of_ble_eq_true rfl) dX6_degree_38 ?_
  refine zz_iret hX hr rfl (Nat.le_of_ble_eq_true rfl) (Nat.le_of_ble_eq_true rfl) dX6_degree_41 ?_
  exact ⟨_, rfl, Or.inl ⟨⟨hA0, hA1, hA2⟩, trivial, trivial, (zm_u2s), (by first | rfl | ((try rw [z_i]); (try rw [z_j]); (try rw [z_f]); (try rfl))), (by (try rw [z_i]); (try rw [z_j]); (try rw [z_f]); exact (zM_th hM))⟩, (zr_mf zr_same.rfl' (by unfold zr_mout; omega))⟩

set_option maxRecDepth 20000 in
theorem MP_mouth (S : zS) (sh : zm_Sh) (mi : zm_Mi) (mr : zm_Mr) (hW : zW S) (hM : zM S sh mi mr) (s fx : Int32)  : zz_Con yX6_mouth (.code yX6_mouth cX6_mouth 3 (some Jvm.ClassFile.FieldType.int)) 6 0 0 [.ref 1, .int s, .int fx] sh mi mr (zq_m ((zs_ix s (zv_ns S)) ∧ (zs_ix fx (zv_fr S (zn s)))) (True) (True) (nI 1) (nI 0) (nI 0) (zp_mouth S (zn s) (zn fx)) S S sh mi mr) zz_none := by
  refine zz_begin RX6 [(0, .ref 1), (1, .int s), (2, .int fx)] (by decide) rfl rfl (Nat.le_of_ble_eq_true rfl) rfl ?_
  intro Γ D E ad hX hr hN hT
  obtain ⟨hWp, hWv, hWs, hWk, hWr, hWf⟩ := id hW
  obtain ⟨p0, p1, p2, p3, p4, p5⟩ := hWp
  obtain ⟨v0, v1, v2, v3, v4⟩ := hWv
  obtain ⟨s0, s1, s2, s3⟩ := hWs
  obtain ⟨f0, f1, f2, f3⟩ := hWf
  by_cases hA0 : zs_ix s (zv_ns S)
  rotate_left
  · skip
    refine zz_aload_n hX dX6_mouth_0 0 rfl rfl ?_
    refine zz_aload_n hX dX6_mouth_1 0 rfl rfl ?_
    refine zz_iload_n hX dX6_mouth_2 1 rfl rfl ?_
    refine zz_iload_n hX dX6_mouth_3 2 rfl rfl ?_
    refine zz_vI (x := zz_bi (zs_ix s (zv_ns S) ∧ zs_ix fx (zv_fr S (zn s)))) hX zf_M_X6_141 (As := [.int s, .int fx]) (st := [.ref 1]) (M_isFrame S sh mi mr hW hM s fx) hM.1 rfl rfl rfl (by decide) (Nat.le_of_ble_eq_true rfl) (Nat.le_of_ble_eq_true rfl) (Nat.le_of_ble_eq_true rfl) dX6_mouth_4 ?_
    refine zz_if_eqB hX 14 dX6_mouth_7 (by decide) (fun c7 => ?_) (fun c7 => absurd c7 (show ¬ (zs_ix s (zv_ns S) ∧ zs_ix fx (zv_fr S (zn s))) from (fun h => hA0 (h.1))))
    refine zz_iconst (v := nI 1) hX dX6_mouth_14 rfl ?_
    refine zz_vI (x := nI 1) hX zf_M_X6_108 (As := [.int (nI 1)]) (st := []) (m_fails1 sh mi mr hM.1) hM.1 rfl rfl rfl (by decide) (Nat.le_of_ble_eq_true rfl) (Nat.le_of_ble_eq_true rfl) (Nat.le_of_ble_eq_true rfl) dX6_mouth_15 ?_
    refine zz_if_eq hX 25 dX6_mouth_18 (by decide) (fun c => absurd c (by decide)) (fun _ => ?_)
    refine zz_iconst (v := nI 0) hX dX6_mouth_21 rfl ?_
    refine zz_goto hX 31 dX6_mouth_22 (by decide) ?_
    refine zz_iret hX hr rfl (Nat.le_of_ble_eq_true rfl) (Nat.le_of_ble_eq_true rfl) dX6_mouth_31 ?_
    exact ⟨_, rfl, Or.inr (Or.inl ⟨(fun h => hA0 (h.1)), (zm_u2s), (zM_th hM)⟩), (zr_mf zr_same.rfl' (by unfold zr_mout; omega))⟩
  obtain ⟨i, hi, rfl⟩ := zs_ix_of hA0 (by omega)
  have z_i : zn (nI i) = i := nI_clamp (n := i) (by omega)
  obtain ⟨b1, b2, b3, b4, b5, b6, b7, b8, b9, b10, b11, b12, b13⟩ := s2 i hi
  have hjn9 := (p2 _ b2).2.2
  by_cases hA1 : zs_ix fx (zv_fr S (zn (nI i)))
  rotate_left
  · skip
    have hA1n : ¬ (zs_ix fx (zv_fr S (i))) := by have q9 := hA1; (try rw [z_i] at q9); exact q9
    refine zz_aload_n hX dX6_mouth_0 0 rfl rfl ?_
    refine zz_aload_n hX dX6_mouth_1 0 rfl rfl ?_
    refine zz_iload_n hX dX6_mouth_2 1 rfl rfl ?_
    refine zz_iload_n hX dX6_mouth_3 2 rfl rfl ?_
    refine zz_vI (x := zz_bi (zs_ix (nI i) (zv_ns S) ∧ zs_ix fx (zv_fr S (zn (nI i))))) hX zf_M_X6_141 (As := [.int (nI i), .int fx]) (st := [.ref 1]) (M_isFrame S sh mi mr hW hM (nI i) fx) hM.1 rfl rfl rfl (by decide) (Nat.le_of_ble_eq_true rfl) (Nat.le_of_ble_eq_true rfl) (Nat.le_of_ble_eq_true rfl) dX6_mouth_4 ?_
    refine zz_if_eqB hX 14 dX6_mouth_7 (by decide) (fun c7 => ?_) (fun c7 => absurd c7 (show ¬ (zs_ix (nI i) (zv_ns S) ∧ zs_ix fx (zv_fr S (zn (nI i)))) from (fun h => hA1 (h.2))))
    refine zz_iconst (v := nI 1) hX dX6_mouth_14 rfl ?_
    refine zz_vI (x := nI 1) hX zf_M_X6_108 (As := [.int (nI 1)]) (st := []) (m_fails1 sh mi mr hM.1) hM.1 rfl rfl rfl (by decide) (Nat.le_of_ble_eq_true rfl) (Nat.le_of_ble_eq_true rfl) (Nat.le_of_ble_eq_true rfl) dX6_mouth_15 ?_
    refine zz_if_eq hX 25 dX6_mouth_18 (by decide) (fun c => absurd c (by decide)) (fun _ => ?_)
    refine zz_iconst (v := nI 0) hX dX6_mouth_21 rfl ?_
    refine zz_goto hX 31 dX6_mouth_22 (by decide) ?_
    refine zz_iret hX hr rfl (Nat.le_of_ble_eq_true rfl) (Nat.le_of_ble_eq_true rfl) dX6_mouth_31 ?_
    exact ⟨_, rfl, Or.inr (Or.inl ⟨(fun h => hA1 (h.2)), (zm_u2s), (zM_th hM)⟩), (zr_mf zr_same.rfl' (by unfold zr_mout; omega))⟩
  have hA1n : zs_ix fx (zv_fr S (i)) := by have q9 := hA1; (try rw [z_i] at q9); exact q9
  obtain ⟨f, hf, rfl⟩ := zs_ix_of hA1n (by omega)
  have z_f : zn (nI f) = f := nI_clamp (n := f) (by omega)
  refine zz_aload_n hX dX6_mouth_0 0 rfl rfl ?_
  refine zz_aload_n hX dX6_mouth_1 0 rfl rfl ?_
  refine zz_iload_n hX dX6_mouth_2 1 rfl rfl ?_
  refine zz_iload_n hX dX6_mouth_3 2 rfl rfl ?_
  refine zz_vI (x := zz_bi (zs_ix (nI i) (zv_ns S) ∧ zs_ix (nI f) (zv_fr S (zn (nI i))))) hX zf_M_X6_141 (As := [.int (nI i), .int (nI f)]) (st := [.ref 1]) (M_isFrame S sh mi mr hW hM (nI i) (nI f)) hM.1 rfl rfl rfl (by decide) (Nat.le_of_ble_eq_true rfl) (Nat.le_of_ble_eq_true rfl) (Nat.le_of_ble_eq_true rfl) dX6_mouth_4 ?_
  refine zz_if_eqB hX 14 dX6_mouth_7 (by decide) (fun c7 => absurd (show zs_ix (nI i) (zv_ns S) ∧ zs_ix (nI f) (zv_fr S (zn (nI i))) from ⟨hA0, hA1⟩) c7) (fun c7 => ?_)
  refine zz_iconst (v := nI 0) hX dX6_mouth_10 rfl ?_
  refine zz_goto hX 15 dX6_mouth_11 (by decide) ?_
  refine zz_vI (x := nI 0) hX zf_M_X6_108 (As := [.int (nI 0)]) (st := []) (m_fails0 sh mi mr hM.1) hM.1 rfl rfl rfl (by decide) (Nat.le_of_ble_eq_true rfl) (Nat.le_of_ble_eq_true rfl) (Nat.le_of_ble_eq_true rfl) dX6_mouth_15 ?_
  refine zz_if_eq hX 25 dX6_mouth_18 (by decide) (fun _ => ?_) (fun c => absurd c (by decide))
  refine zz_aload_n hX dX6_mouth_25 0 rfl rfl ?_
  refine zz_iload_n hX dX6_mouth_26 1 rfl rfl ?_
  refine zz_iload_n hX dX6_mouth_27 2 rfl rfl ?_
  refine zz_vI (x := zp_mouth S i f) hX zf_M_X6_157 (As := [.int (nI i), .int (nI f)]) (st := []) (M_mouthAt S sh (zm_u2 mi 1 30 (nI 0)) mr hW (zM_th hM) i hi f (by omega)) hM.1 rfl rfl rfl (by decide) (Nat.le_of_ble_eq_true rfl) (Nat.le_of_ble_eq_true rfl) (Nat.le_of_ble_eq_true rfl) dX6_mouth_28 ?_
  refine zz_iret hX hr rfl (Nat.le_of_ble_eq_true rfl) (Nat.le_of_ble_eq_true rfl) dX6_mouth_31 ?_
  exact ⟨_, rfl, Or.inl ⟨⟨hA0, hA1⟩, trivial, trivial, (zm_u2s), (by first | rfl | ((try rw [z_i]); (try rw [z_f]); (try rfl))), (by (try rw [z_i]); (try rw [z_f]); exact (zM_th hM))⟩, (zr_mf zr_same.rfl' (by unfold zr_mout; omega))⟩

set_option maxRecDepth 20000 in
theorem MP_place (S : zS) (sh : zm_Sh) (mi : zm_Mi) (mr : zm_Mr) (hW : zW S) (hM : zM S sh mi mr) (s fx : Int32)  : zz_Con yX6_place (.code yX6_place cX6_place 3 (some Jvm.ClassFile.FieldType.int)) 6 0 0 [.ref 1, .int s, .int fx] sh mi mr (zq_m ((zs_ix s (zv_ns S)) ∧ (zs_ix fx (zv_fr S (zn s)))) (True) (True) (nI 1) (nI 0) (nI 0) (zp_place S (zn s) (zn fx)) S S sh mi mr) zz_none := by
  refine zz_begin RX6 [(0, .ref 1), (1, .int s), (2, .int fx)] (by decide) rfl rfl (Nat.le_of_ble_eq_true rfl) rfl ?_
  intro Γ D E ad hX hr hN hT
  obtain ⟨hWp, hWv, hWs, hWk, hWr, hWf⟩ := id hW
  obtain ⟨p0, p1, p2, p3, p4, p5⟩ := hWp
  obtain ⟨v0, v1, v2, v3, v4⟩ := hWv
  obtain ⟨s0, s1, s2, s3⟩ := hWs
  obtain ⟨f0, f1, f2, f3⟩ := hWf
  by_cases hA0 : zs_ix s (zv_ns S)
  rotate_left
  · skip
    refine zz_aload_n hX dX6_place_0 0 rfl rfl ?_
    refine zz_aload_n hX dX6_place_1 0 rfl rfl ?_
    refine zz_iload_n hX dX6_place_2 1 rfl rfl ?_
    refine zz_iload_n hX dX6_place_3 2 rfl rfl ?_
    refine zz_vI (x := zz_bi (zs_ix s (zv_ns S) ∧ zs_ix fx (zv_fr S (zn s)))) hX zf_M_X6_141 (As := [.int s, .int fx]) (st := [.ref 1]) (M_isFrame S sh mi mr hW hM s fx) hM.1 rfl rfl rfl (by decide) (Nat.le_of_ble_eq_true rfl) (Nat.le_of_ble_eq_true rfl) (Nat.le_of_ble_eq_true rfl) dX6_place_4 ?_
    refine zz_if_eqB hX 14 dX6_place_7 (by decide) (fun c7 => ?_) (fun c7 => absurd c7 (show ¬ (zs_ix s (zv_ns S) ∧ zs_ix fx (zv_fr S (zn s))) from (fun h => hA0 (h.1))))
    refine zz_iconst (v := nI 1) hX dX6_place_14 rfl ?_
    refine zz_vI (x := nI 1) hX zf_M_X6_108 (As := [.int (nI 1)]) (st := []) (m_fails1 sh mi mr hM.1) hM.1 rfl rfl rfl (by decide) (Nat.le_of_ble_eq_true rfl) (Nat.le_of_ble_eq_true rfl) (Nat.le_of_ble_eq_true rfl) dX6_place_15 ?_
    refine zz_if_eq hX 25 dX6_place_18 (by decide) (fun c => absurd c (by decide)) (fun _ => ?_)
    refine zz_iconst (v := nI 0) hX dX6_place_21 rfl ?_
    refine zz_goto hX 31 dX6_place_22 (by decide) ?_
    refine zz_iret hX hr rfl (Nat.le_of_ble_eq_true rfl) (Nat.le_of_ble_eq_true rfl) dX6_place_31 ?_
    exact ⟨_, rfl, Or.inr (Or.inl ⟨(fun h => hA0 (h.1)), (zm_u2s), (zM_th hM)⟩), (zr_mf zr_same.rfl' (by unfold zr_mout; omega))⟩
  obtain ⟨i, hi, rfl⟩ := zs_ix_of hA0 (by omega)
  have z_i : zn (nI i) = i := nI_clamp (n := i) (by omega)
  obtain ⟨b1, b2, b3, b4, b5, b6, b7, b8, b9, b10, b11, b12, b13⟩ := s2 i hi
  have hjn9 := (p2 _ b2).2.2
  by_cases hA1 : zs_ix fx (zv_fr S (zn (nI i)))
  rotate_left
  · skip
    have hA1n : ¬ (zs_ix fx (zv_fr S (i))) := by have q9 := hA1; (try rw [z_i] at q9); exact q9
    refine zz_aload_n hX dX6_place_0 0 rfl rfl ?_
    refine zz_aload_n hX dX6_place_1 0 rfl rfl ?_
    refine zz_iload_n hX dX6_place_2 1 rfl rfl ?_
    refine zz_iload_n hX dX6_place_3 2 rfl rfl ?_
    refine zz_vI (x := zz_bi (zs_ix (nI i) (zv_ns S) ∧ zs_ix fx (zv_fr S (zn (nI i))))) hX zf_M_X6_141 (As := [.int (nI i), .int fx]) (st := [.ref 1]) (M_isFrame S sh mi mr hW hM (nI i) fx) hM.1 rfl rfl rfl (by decide) (Nat.le_of_ble_eq_true rfl) (Nat.le_of_ble_eq_true rfl) (Nat.le_of_ble_eq_true rfl) dX6_place_4 ?_
    refine zz_if_eqB hX 14 dX6_place_7 (by decide) (fun c7 => ?_) (fun c7 => absurd c7 (show ¬ (zs_ix (nI i) (zv_ns S) ∧ zs_ix fx (zv_fr S (zn (nI i)))) from (fun h => hA1 (h.2))))
    refine zz_iconst (v := nI 1) hX dX6_place_14 rfl ?_
    refine zz_vI (x := nI 1) hX zf_M_X6_108 (As := [.int (nI 1)]) (st := []) (m_fails1 sh mi mr hM.1) hM.1 rfl rfl rfl (by decide) (Nat.le_of_ble_eq_true rfl) (Nat.le_of_ble_eq_true rfl) (Nat.le_of_ble_eq_true rfl) dX6_place_15 ?_
    refine zz_if_eq hX 25 dX6_place_18 (by decide) (fun c => absurd c (by decide)) (fun _ => ?_)
    refine zz_iconst (v := nI 0) hX dX6_place_21 rfl ?_
    refine zz_goto hX 31 dX6_place_22 (by decide) ?_
    refine zz_iret hX hr rfl (Nat.le_of_ble_eq_true rfl) (Nat.le_of_ble_eq_true rfl) dX6_place_31 ?_
    exact ⟨_, rfl, Or.inr (Or.inl ⟨(fun h => hA1 (h.2)), (zm_u2s), (zM_th hM)⟩), (zr_mf zr_same.rfl' (by unfold zr_mout; omega))⟩
  have hA1n : zs_ix fx (zv_fr S (i)) := by have q9 := hA1; (try rw [z_i] at q9); exact q9
  obtain ⟨f, hf, rfl⟩ := zs_ix_of hA1n (by omega)
  have z_f : zn (nI f) = f := nI_clamp (n := f) (by omega)
  refine zz_aload_n hX dX6_place_0 0 rfl rfl ?_
  refine zz_aload_n hX dX6_place_1 0 rfl rfl ?_
  refine zz_iload_n hX dX6_place_2 1 rfl rfl ?_
  refine zz_iload_n hX dX6_place_3 2 rfl rfl ?_
  refine zz_vI (x := zz_bi (zs_ix (nI i) (zv_ns S) ∧ zs_ix (nI f) (zv_fr S (zn (nI i))))) hX zf_M_X6_141 (As := [.int (nI i), .int (nI f)]) (st := [.ref 1]) (M_isFrame S sh mi mr hW hM (nI i) (nI f)) hM.1 rfl rfl rfl (by decide) (Nat.le_of_ble_eq_true rfl) (Nat.le_of_ble_eq_true rfl) (Nat.le_of_ble_eq_true rfl) dX6_place_4 ?_
  refine zz_if_eqB hX 14 dX6_place_7 (by decide) (fun c7 => absurd (show zs_ix (nI i) (zv_ns S) ∧ zs_ix (nI f) (zv_fr S (zn (nI i))) from ⟨hA0, hA1⟩) c7) (fun c7 => ?_)
  refine zz_iconst (v := nI 0) hX dX6_place_10 rfl ?_
  refine zz_goto hX 15 dX6_place_11 (by decide) ?_
  refine zz_vI (x := nI 0) hX zf_M_X6_108 (As := [.int (nI 0)]) (st := []) (m_fails0 sh mi mr hM.1) hM.1 rfl rfl rfl (by decide) (Nat.le_of_ble_eq_true rfl) (Nat.le_of_ble_eq_true rfl) (Nat.le_of_ble_eq_true rfl) dX6_place_15 ?_
  refine zz_if_eq hX 25 dX6_place_18 (by decide) (fun _ => ?_) (fun c => absurd c (by decide))
  refine zz_aload_n hX dX6_place_25 0 rfl rfl ?_
  refine zz_iload_n hX dX6_place_26 1 rfl rfl ?_
  refine zz_iload_n hX dX6_place_27 2 rfl rfl ?_
  refine zz_vI (x := zp_place S i f) hX zf_M_X6_148 (As := [.int (nI i), .int (nI f)]) (st := []) (M_placeAt S sh (zm_u2 mi 1 30 (nI 0)) mr hW (zM_th hM) i hi f (by omega)) hM.1 rfl rfl rfl (by decide) (Nat.le_of_ble_eq_true rfl) (Nat.le_of_ble_eq_true rfl) (Nat.le_of_ble_eq_true rfl) dX6_place_28 ?_
  refine zz_iret hX hr rfl (Nat.le_of_ble_eq_true rfl) (Nat.le_of_ble_eq_true rfl) dX6_place_31 ?_
  exact ⟨_, rfl, Or.inl ⟨⟨hA0, hA1⟩, trivial, trivial, (zm_u2s), (by first | rfl | ((try rw [z_i]); (try rw [z_f]); (try rfl))), (by (try rw [z_i]); (try rw [z_f]); exact (zM_th hM))⟩, (zr_mf zr_same.rfl' (by unfold zr_mout; omega))⟩

set_option maxRecDepth 20000 in
theorem MP_level (S : zS) (sh : zm_Sh) (mi : zm_Mi) (mr : zm_Mr) (hW : zW S) (hM : zM S sh mi mr) (s : Int32)  : zz_Con yX6_level (.code yX6_level cX6_level 3 (some Jvm.ClassFile.FieldType.int)) 6 0 0 [.ref 1, .int s] sh mi mr (zq_m ((zs_ix s (zv_ns S))) (True) (True) (nI 1) (nI 0) (nI 0) (S 16 (zn s)) S (zm_u2 S 16 (zn s) (0)) sh mi mr) zz_none := by
  refine zz_begin RX6 [(0, .ref 1), (1, .int s)] (by decide) rfl rfl (Nat.le_of_ble_eq_true rfl) rfl ?_
  intro Γ D E ad hX hr hN hT
  obtain ⟨hWp, hWv, hWs, hWk, hWr, hWf⟩ := id hW
  obtain ⟨p0, p1, p2, p3, p4, p5⟩ := hWp
  obtain ⟨v0, v1, v2, v3, v4⟩ := hWv
  obtain ⟨s0, s1, s2, s3⟩ := hWs
  obtain ⟨f0, f1, f2, f3⟩ := hWf
  by_cases hA0 : zs_ix s (zv_ns S)
  rotate_left
  · skip
    refine zz_aload_n hX dX6_level_0 0 rfl rfl ?_
    refine zz_aload_n hX dX6_level_1 0 rfl rfl ?_
    refine zz_iload_n hX dX6_level_2 1 rfl rfl ?_
    refine zz_vI (x := zz_bi (zs_ix s (zv_ns S))) hX zf_M_X6_105 (As := [.int s]) (st := [.ref 1]) (M_isShot S sh mi mr hW hM s) hM.1 rfl rfl rfl (by decide) (Nat.le_of_ble_eq_true rfl) (Nat.le_of_ble_eq_true rfl) (Nat.le_of_ble_eq_true rfl) dX6_level_3 ?_
    refine zz_if_eqB hX 13 dX6_level_6 (by decide) (fun c6 => ?_) (fun c6 => absurd c6 (show ¬ (zs_ix s (zv_ns S)) from hA0))
    refine zz_iconst (v := nI 1) hX dX6_level_13 rfl ?_
    refine zz_vI (x := nI 1) hX zf_M_X6_108 (As := [.int (nI 1)]) (st := []) (m_fails1 sh mi mr hM.1) hM.1 rfl rfl rfl (by decide) (Nat.le_of_ble_eq_true rfl) (Nat.le_of_ble_eq_true rfl) (Nat.le_of_ble_eq_true rfl) dX6_level_14 ?_
    refine zz_if_eq hX 22 dX6_level_17 (by decide) (fun c => absurd c (by decide)) (fun _ => ?_)
    refine zz_iconst (v := nI 0) hX dX6_level_20 rfl ?_
    refine zz_iret hX hr rfl (Nat.le_of_ble_eq_true rfl) (Nat.le_of_ble_eq_true rfl) dX6_level_21 ?_
    exact ⟨_, rfl, Or.inr (Or.inl ⟨(fun h => hA0 (h)), (zm_u2s), (zM_th hM)⟩), (zr_mf zr_same.rfl' (by unfold zr_mout; omega))⟩
  obtain ⟨i, hi, rfl⟩ := zs_ix_of hA0 (by omega)
  have z_i : zn (nI i) = i := nI_clamp (n := i) (by omega)
  obtain ⟨b1, b2, b3, b4, b5, b6, b7, b8, b9, b10, b11, b12, b13⟩ := s2 i hi
  have hjn9 := (p2 _ b2).2.2
  refine zz_aload_n hX dX6_level_0 0 rfl rfl ?_
  refine zz_aload_n hX dX6_level_1 0 rfl rfl ?_
  refine zz_iload_n hX dX6_level_2 1 rfl rfl ?_
  refine zz_vI (x := zz_bi (zs_ix (nI i) (zv_ns S))) hX zf_M_X6_105 (As := [.int (nI i)]) (st := [.ref 1]) (M_isShot S sh mi mr hW hM (nI i)) hM.1 rfl rfl rfl (by decide) (Nat.le_of_ble_eq_true rfl) (Nat.le_of_ble_eq_true rfl) (Nat.le_of_ble_eq_true rfl) dX6_level_3 ?_
  refine zz_if_eqB hX 13 dX6_level_6 (by decide) (fun c6 => absurd (show zs_ix (nI i) (zv_ns S) from hA0) c6) (fun c6 => ?_)
  refine zz_iconst (v := nI 0) hX dX6_level_9 rfl ?_
  refine zz_goto hX 14 dX6_level_10 (by decide) ?_
  refine zz_vI (x := nI 0) hX zf_M_X6_108 (As := [.int (nI 0)]) (st := []) (m_fails0 sh mi mr hM.1) hM.1 rfl rfl rfl (by decide) (Nat.le_of_ble_eq_true rfl) (Nat.le_of_ble_eq_true rfl) (Nat.le_of_ble_eq_true rfl) dX6_level_14 ?_
  refine zz_if_eq hX 22 dX6_level_17 (by decide) (fun _ => ?_) (fun c => absurd c (by decide))
  refine zz_aload_n hX dX6_level_22 0 rfl rfl ?_
  refine zz_getR (y := 116) hX zf_F_X6_49.r hM.1 rfl (zM_r16 hM).1 dX6_level_23 ?_
  refine zz_iload_n hX dX6_level_26 1 rfl rfl ?_
  refine zz_iald (x := S 16 i) hX (zM_r16 hM).2 i rfl (by omega) (by decide) (((zm_u2l (by decide))).trans ((zM_v16 hM (k := i) (by omega)))) dX6_level_27 ?_
  refine zz_istore_n (ls' := [(0, .ref 1), (1, .int (nI i)), (2, .int (S 16 i))]) hX dX6_level_28 rfl (Nat.le_of_ble_eq_true rfl) rfl ?_
  refine zz_aload_n hX dX6_level_29 0 rfl rfl ?_
  refine zz_getR (y := 116) hX zf_F_X6_49.r hM.1 rfl (zM_r16 hM).1 dX6_level_30 ?_
  refine zz_iload_n hX dX6_level_33 1 rfl rfl ?_
  refine zz_iconst (v := nI 0) hX dX6_level_34 rfl ?_
  refine zz_iast hX (zM_r16 hM).2 i rfl (by omega) (by decide) dX6_level_35 ?_
  refine zz_iload_n hX dX6_level_36 2 rfl rfl ?_
  refine zz_iret hX hr rfl (Nat.le_of_ble_eq_true rfl) (Nat.le_of_ble_eq_true rfl) dX6_level_37 ?_
  exact ⟨_, rfl, Or.inl ⟨hA0, trivial, trivial, (((zm_u2l (by decide))).trans (zm_u2s)), (by first | rfl | ((try rw [z_i]); (try rfl))), (by (try rw [z_i]); exact (zM_set (r := 16) (zM_th hM) (by decide)))⟩, (zr_mf (zr_mf zr_same.rfl' (by unfold zr_mout; omega)) (by unfold zr_mout; omega))⟩

set_option maxRecDepth 20000 in
theorem MP_play (S : zS) (sh : zm_Sh) (mi : zm_Mi) (mr : zm_Mr) (hW : zW S) (hM : zM S sh mi mr) (u : Int32)  : zz_Con yX6_play (.code yX6_play cX6_play 3 (some Jvm.ClassFile.FieldType.int)) 6 0 0 [.ref 1, .int u] sh mi mr (zq_m (True) ((nI 0 ≤ u ∧ u ≤ nI 20)) (True) (nI 0) (nI 1) (nI 0) (S 20 0) S (zm_u2 S 20 (0) (u)) sh mi mr) zz_none := by
  refine zz_begin RX6 [(0, .ref 1), (1, .int u)] (by decide) rfl rfl (Nat.le_of_ble_eq_true rfl) rfl ?_
  intro Γ D E ad hX hr hN hT
  obtain ⟨hWp, hWv, hWs, hWk, hWr, hWf⟩ := id hW
  obtain ⟨p0, p1, p2, p3, p4, p5⟩ := hWp
  obtain ⟨v0, v1, v2, v3, v4⟩ := hWv
  obtain ⟨s0, s1, s2, s3⟩ := hWs
  obtain ⟨f0, f1, f2, f3⟩ := hWf
  by_cases hB0 : nI 0 ≤ u ∧ u ≤ nI 20
  rotate_left
  · skip
    refine zz_aload_n hX dX6_play_0 0 rfl rfl ?_
    refine zz_iload_n hX dX6_play_1 1 rfl rfl ?_
    refine zz_iconst (v := nI 0) hX dX6_play_2 rfl ?_
    refine zz_bipush (v := nI 20) hX dX6_play_3 rfl ?_
    refine zz_sI (x := zz_bi (nI 0 ≤ u ∧ u ≤ nI 20)) hX zf_M_X6_91 (As := [.int u, .int (nI 0), .int (nI 20)]) (st := [.ref 1]) (m_isIn u (nI 0) (nI 20) sh mi mr) rfl rfl (by decide) (Nat.le_of_ble_eq_true rfl) (Nat.le_of_ble_eq_true rfl) (Nat.le_of_ble_eq_true rfl) dX6_play_5 ?_
    refine zz_if_eqB hX 15 dX6_play_8 (by decide) (fun c8 => ?_) (fun c8 => absurd c8 (show ¬ (nI 0 ≤ u ∧ u ≤ nI 20) from hB0))
    refine zz_iconst (v := nI 1) hX dX6_play_15 rfl ?_
    refine zz_vI (x := nI 1) hX zf_M_X6_108 (As := [.int (nI 1)]) (st := []) (m_fails1 sh mi mr hM.1) hM.1 rfl rfl rfl (by decide) (Nat.le_of_ble_eq_true rfl) (Nat.le_of_ble_eq_true rfl) (Nat.le_of_ble_eq_true rfl) dX6_play_16 ?_
    refine zz_if_eq hX 24 dX6_play_19 (by decide) (fun c => absurd c (by decide)) (fun _ => ?_)
    refine zz_iconst (v := nI 0) hX dX6_play_22 rfl ?_
    refine zz_iret hX hr rfl (Nat.le_of_ble_eq_true rfl) (Nat.le_of_ble_eq_true rfl) dX6_play_23 ?_
    exact ⟨_, rfl, Or.inr (Or.inr (Or.inl ⟨trivial, (fun h => hB0 (h)), (zm_u2s), (zM_th hM)⟩)), (zr_mf zr_same.rfl' (by unfold zr_mout; omega))⟩
  refine zz_aload_n hX dX6_play_0 0 rfl rfl ?_
  refine zz_iload_n hX dX6_play_1 1 rfl rfl ?_
  refine zz_iconst (v := nI 0) hX dX6_play_2 rfl ?_
  refine zz_bipush (v := nI 20) hX dX6_play_3 rfl ?_
  refine zz_sI (x := zz_bi (nI 0 ≤ u ∧ u ≤ nI 20)) hX zf_M_X6_91 (As := [.int u, .int (nI 0), .int (nI 20)]) (st := [.ref 1]) (m_isIn u (nI 0) (nI 20) sh mi mr) rfl rfl (by decide) (Nat.le_of_ble_eq_true rfl) (Nat.le_of_ble_eq_true rfl) (Nat.le_of_ble_eq_true rfl) dX6_play_5 ?_
  refine zz_if_eqB hX 15 dX6_play_8 (by decide) (fun c8 => absurd (show nI 0 ≤ u ∧ u ≤ nI 20 from hB0) c8) (fun c8 => ?_)
  refine zz_iconst (v := nI 0) hX dX6_play_11 rfl ?_
  refine zz_goto hX 16 dX6_play_12 (by decide) ?_
  refine zz_vI (x := nI 0) hX zf_M_X6_108 (As := [.int (nI 0)]) (st := []) (m_fails0 sh mi mr hM.1) hM.1 rfl rfl rfl (by decide) (Nat.le_of_ble_eq_true rfl) (Nat.le_of_ble_eq_true rfl) (Nat.le_of_ble_eq_true rfl) dX6_play_16 ?_
  refine zz_if_eq hX 24 dX6_play_19 (by decide) (fun _ => ?_) (fun c => absurd c (by decide))
  refine zz_aload_n hX dX6_play_24 0 rfl rfl ?_
  refine zz_getI (x := S 20 0) hX zf_F_X6_151.r hM.1 rfl (((zm_u2k (by decide))).trans ((zM_c20 hM))) dX6_play_25 ?_
  refine zz_istore_n (ls' := [(0, .ref 1), (1, .int u), (2, .int (S 20 0))]) hX dX6_play_28 rfl (Nat.le_of_ble_eq_true rfl) rfl ?_
  refine zz_aload_n hX dX6_play_29 0 rfl rfl ?_
  refine zz_iload_n hX dX6_play_30 1 rfl rfl ?_
  refine zz_putI hX zf_F_X6_151 hM.1 rfl rfl rfl dX6_play_31 ?_
  refine zz_iload_n hX dX6_play_34 2 rfl rfl ?_
  refine zz_iret hX hr rfl (Nat.le_of_ble_eq_true rfl) (Nat.le_of_ble_eq_true rfl) dX6_play_35 ?_
  exact ⟨_, rfl, Or.inl ⟨trivial, hB0, trivial, (((zm_u2k (by decide))).trans (zm_u2s)), (by first | rfl | ((try rfl))), (by exact (zM_sc (r := 20) (zM_th hM) (by decide)))⟩, (zr_mf (zr_mf zr_same.rfl' (by unfold zr_mout; omega)) (by unfold zr_mout; omega))⟩

set_option maxRecDepth 20000 in
theorem MP_dub (S : zS) (sh : zm_Sh) (mi : zm_Mi) (mr : zm_Mr) (hW : zW S) (hM : zM S sh mi mr) (s v : Int32)  : zz_Con yX6_dub (.code yX6_dub cX6_dub 4 (some Jvm.ClassFile.FieldType.int)) 6 0 0 [.ref 1, .int s, .int v] sh mi mr (zq_m ((zs_ix s (zv_ns S)) ∧ (v = -1 ∨ zs_ix v (zv_nv S))) (True) (True) (nI 1) (nI 0) (nI 0) (S 13 (zn s)) S (zm_u2 S 13 (zn s) (v)) sh mi mr) zz_none := by
  refine zz_begin RX6 [(0, .ref 1), (1, .int s), (2, .int v)] (by decide) rfl rfl (Nat.le_of_ble_eq_true rfl) rfl ?_
  intro Γ D E ad hX hr hN hT
  obtain ⟨hWp, hWv, hWs, hWk, hWr, hWf⟩ := id hW
  obtain ⟨p0, p1, p2, p3, p4, p5⟩ := hWp
  obtain ⟨v0, v1, v2, v3, v4⟩ := hWv
  obtain ⟨s0, s1, s2, s3⟩ := hWs
  obtain ⟨f0, f1, f2, f3⟩ := hWf
  by_cases hA0 : zs_ix s (zv_ns S)
  rotate_left
  · skip
    refine zz_aload_n hX dX6_dub_0 0 rfl rfl ?_
    refine zz_aload_n hX dX6_dub_1 0 rfl rfl ?_
    refine zz_iload_n hX dX6_dub_2 1 rfl rfl ?_
    refine zz_vI (x := zz_bi (zs_ix s (zv_ns S))) hX zf_M_X6_105 (As := [.int s]) (st := [.ref 1]) (M_isShot S sh mi mr hW hM s) hM.1 rfl rfl rfl (by decide) (Nat.le_of_ble_eq_true rfl) (Nat.le_of_ble_eq_true rfl) (Nat.le_of_ble_eq_true rfl) dX6_dub_3 ?_
    refine zz_if_eqB hX 21 dX6_dub_6 (by decide) (fun c6 => ?_) (fun c6 => absurd c6 (show ¬ (zs_ix s (zv_ns S)) from hA0))
    refine zz_iconst (v := nI 1) hX dX6_dub_21 rfl ?_
    refine zz_vI (x := nI 1) hX zf_M_X6_108 (As := [.int (nI 1)]) (st := []) (m_fails1 sh mi mr hM.1) hM.1 rfl rfl rfl (by decide) (Nat.le_of_ble_eq_true rfl) (Nat.le_of_ble_eq_true rfl) (Nat.le_of_ble_eq_true rfl) dX6_dub_22 ?_
    refine zz_if_eq hX 30 dX6_dub_25 (by decide) (fun c => absurd c (by decide)) (fun _ => ?_)
    refine zz_iconst (v := nI 0) hX dX6_dub_28 rfl ?_
    refine zz_iret hX hr rfl (Nat.le_of_ble_eq_true rfl) (Nat.le_of_ble_eq_true rfl) dX6_dub_29 ?_
    exact ⟨_, rfl, Or.inr (Or.inl ⟨(fun h => hA0 (h.1)), (zm_u2s), (zM_th hM)⟩), (zr_mf zr_same.rfl' (by unfold zr_mout; omega))⟩
  obtain ⟨i, hi, rfl⟩ := zs_ix_of hA0 (by omega)
  have z_i : zn (nI i) = i := nI_clamp (n := i) (by omega)
  obtain ⟨b1, b2, b3, b4, b5, b6, b7, b8, b9, b10, b11, b12, b13⟩ := s2 i hi
  have hjn9 := (p2 _ b2).2.2
  by_cases hA1 : v = -1 ∨ zs_ix v (zv_nv S)
  rotate_left
  · skip
    refine zz_aload_n hX dX6_dub_0 0 rfl rfl ?_
    refine zz_aload_n hX dX6_dub_1 0 rfl rfl ?_
    refine zz_iload_n hX dX6_dub_2 1 rfl rfl ?_
    refine zz_vI (x := zz_bi (zs_ix (nI i) (zv_ns S))) hX zf_M_X6_105 (As := [.int (nI i)]) (st := [.ref 1]) (M_isShot S sh mi mr hW hM (nI i)) hM.1 rfl rfl rfl (by decide) (Nat.le_of_ble_eq_true rfl) (Nat.le_of_ble_eq_true rfl) (Nat.le_of_ble_eq_true rfl) dX6_dub_3 ?_
    refine zz_if_eqB hX 21 dX6_dub_6 (by decide) (fun c6 => absurd (show zs_ix (nI i) (zv_ns S) from hA0) c6) (fun c6 => ?_)
    refine zz_aload_n hX dX6_dub_9 0 rfl rfl ?_
    refine zz_iload_n hX dX6_dub_10 2 rfl rfl ?_
    refine zz_vI (x := zz_bi (v = -1 ∨ zs_ix v (zv_nv S))) hX zf_M_X6_114 (As := [.int v]) (st := [.ref 1]) (M_isVoice S sh mi mr hW hM v) hM.1 rfl rfl rfl (by decide) (Nat.le_of_ble_eq_true rfl) (Nat.le_of_ble_eq_true rfl) (Nat.le_of_ble_eq_true rfl) dX6_dub_11 ?_
    refine zz_if_eqB hX 21 dX6_dub_14 (by decide) (fun c14 => ?_) (fun c14 => absurd c14 (show ¬ (v = -1 ∨ zs_ix v (zv_nv S)) from hA1))
    refine zz_iconst (v := nI 1) hX dX6_dub_21 rfl ?_
    refine zz_vI (x := nI 1) hX zf_M_X6_108 (As := [.int (nI 1)]) (st := []) (m_fails1 sh mi mr hM.1) hM.1 rfl rfl rfl (by decide) (Nat.le_of_ble_eq_true rfl) (Nat.le_of_ble_eq_true rfl) (Nat.le_of_ble_eq_true rfl) dX6_dub_22 ?_
    refine zz_if_eq hX 30 dX6_dub_25 (by decide) (fun c => absurd c (by decide)) (fun _ => ?_)
    refine zz_iconst (v := nI 0) hX dX6_dub_28 rfl ?_
    refine zz_iret hX hr rfl (Nat.le_of_ble_eq_true rfl) (Nat.le_of_ble_eq_true rfl) dX6_dub_29 ?_
    exact ⟨_, rfl, Or.inr (Or.inl ⟨(fun h => hA1 (h.2)), (zm_u2s), (zM_th hM)⟩), (zr_mf zr_same.rfl' (by unfold zr_mout; omega))⟩
  refine zz_aload_n hX dX6_dub_0 0 rfl rfl ?_
  refine zz_aload_n hX dX6_dub_1 0 rfl rfl ?_
  refine zz_iload_n hX dX6_dub_2 1 rfl rfl ?_
  refine zz_vI (x := zz_bi (zs_ix (nI i) (zv_ns S))) hX zf_M_X6_105 (As := [.int (nI i)]) (st := [.ref 1]) (M_isShot S sh mi mr hW hM (nI i)) hM.1 rfl rfl rfl (by decide) (Nat.le_of_ble_eq_true rfl) (Nat.le_of_ble_eq_true rfl) (Nat.le_of_ble_eq_true rfl) dX6_dub_3 ?_
  refine zz_if_eqB hX 21 dX6_dub_6 (by decide) (fun c6 => absurd (show zs_ix (nI i) (zv_ns S) from hA0) c6) (fun c6 => ?_)
  refine zz_aload_n hX dX6_dub_9 0 rfl rfl ?_
  refine zz_iload_n hX dX6_dub_10 2 rfl rfl ?_
  refine zz_vI (x := zz_bi (v = -1 ∨ zs_ix v (zv_nv S))) hX zf_M_X6_114 (As := [.int v]) (st := [.ref 1]) (M_isVoice S sh mi mr hW hM v) hM.1 rfl rfl rfl (by decide) (Nat.le_of_ble_eq_true rfl) (Nat.le_of_ble_eq_true rfl) (Nat.le_of_ble_eq_true rfl) dX6_dub_11 ?_
  refine zz_if_eqB hX 21 dX6_dub_14 (by decide) (fun c14 => absurd (show v = -1 ∨ zs_ix v (zv_nv S) from hA1) c14) (fun c14 => ?_)
  refine zz_iconst (v := nI 0) hX dX6_dub_17 rfl ?_
  refine zz_goto hX 22 dX6_dub_18 (by decide) ?_
  refine zz_vI (x := nI 0) hX zf_M_X6_108 (As := [.int (nI 0)]) (st := []) (m_fails0 sh mi mr hM.1) hM.1 rfl rfl rfl (by decide) (Nat.le_of_ble_eq_true rfl) (Nat.le_of_ble_eq_true rfl) (Nat.le_of_ble_eq_true rfl) dX6_dub_22 ?_
  refine zz_if_eq hX 30 dX6_dub_25 (by decide) (fun _ => ?_) (fun c => absurd c (by decide))
  refine zz_aload_n hX dX6_dub_30 0 rfl rfl ?_
  refine zz_getR (y := 113) hX zf_F_X6_40.r hM.1 rfl (zM_r13 hM).1 dX6_dub_31 ?_
  refine zz_iload_n hX dX6_dub_34 1 rfl rfl ?_
  refine zz_iald (x := S 13 i) hX (zM_r13 hM).2 i rfl (by omega) (by decide) (((zm_u2l (by decide))).trans ((zM_v13 hM (k := i) (by omega)))) dX6_dub_35 ?_
  refine zz_istore_n (ls' := [(0, .ref 1), (1, .int (nI i)), (2, .int v), (3, .int (S 13 i))]) hX dX6_dub_36 rfl (Nat.le_of_ble_eq_true rfl) rfl ?_
  refine zz_aload_n hX dX6_dub_37 0 rfl rfl ?_
  refine zz_getR (y := 113) hX zf_F_X6_40.r hM.1 rfl (zM_r13 hM).1 dX6_dub_38 ?_
  refine zz_iload_n hX dX6_dub_41 1 rfl rfl ?_
  refine zz_iload_n hX dX6_dub_42 2 rfl rfl ?_
  refine zz_iast hX (zM_r13 hM).2 i rfl (by omega) (by decide) dX6_dub_43 ?_
  refine zz_iload_n hX dX6_dub_44 3 rfl rfl ?_
  refine zz_iret hX hr rfl (Nat.le_of_ble_eq_true rfl) (Nat.le_of_ble_eq_true rfl) dX6_dub_45 ?_
  exact ⟨_, rfl, Or.inl ⟨⟨hA0, hA1⟩, trivial, trivial, (((zm_u2l (by decide))).trans (zm_u2s)), (by first | rfl | ((try rw [z_i]); (try rfl))), (by (try rw [z_i]); exact (zM_set (r := 13) (zM_th hM) (by decide)))⟩, (zr_mf (zr_mf zr_same.rfl' (by unfold zr_mout; omega)) (by unfold zr_mout; omega))⟩

set_option maxRecDepth 20000 in
theorem MP_mend (S : zS) (sh : zm_Sh) (mi : zm_Mi) (mr : zm_Mr) (hW : zW S) (hM : zM S sh mi mr) (px jx : Int32)  : zz_Con yX6_mend (.code yX6_mend cX6_mend 4 (some Jvm.ClassFile.FieldType.int)) 6 0 0 [.ref 1, .int px, .int jx] sh mi mr (zq_m ((zs_ix px (zv_np S)) ∧ (zs_ix jx (zv_jn S (zn px)))) (True) (True) (nI 1) (nI 0) (nI 0) (S 3 (6 * zn px + zn jx)) S (zm_u2 S 3 (6 * zn px + zn jx) (0)) sh mi mr) zz_none := by
  refine zz_begin RX6 [(0, .ref 1), (1, .int px), (2, .int jx)] (by decide) rfl rfl (Nat.le_of_ble_eq_true rfl) rfl ?_
  intro Γ D E ad hX hr hN hT
  obtain ⟨hWp, hWv, hWs, hWk, hWr, hWf⟩ := id hW
  obtain ⟨p0, p1, p2, p3, p4, p5⟩ := hWp
  obtain ⟨v0, v1, v2, v3, v4⟩ := hWv
  obtain ⟨s0, s1, s2, s3⟩ := hWs
  obtain ⟨f0, f1, f2, f3⟩ := hWf
  by_cases hA0 : zs_ix px (zv_np S)
  rotate_left
  · skip
    refine zz_aload_n hX dX6_mend_0 0 rfl rfl ?_
    refine zz_aload_n hX dX6_mend_1 0 rfl rfl ?_
    refine zz_iload_n hX dX6_mend_2 1 rfl rfl ?_
    refine zz_iload_n hX dX6_mend_3 2 rfl rfl ?_
    refine zz_vI (x := zz_bi (zs_ix px (zv_np S) ∧ zs_ix jx (zv_jn S (zn px)))) hX zf_M_X6_135 (As := [.int px, .int jx]) (st := [.ref 1]) (M_isJoint S sh mi mr hW hM px jx) hM.1 rfl rfl rfl (by decide) (Nat.le_of_ble_eq_true rfl) (Nat.le_of_ble_eq_true rfl) (Nat.le_of_ble_eq_true rfl) dX6_mend_4 ?_
    refine zz_if_eqB hX 14 dX6_mend_7 (by decide) (fun c7 => ?_) (fun c7 => absurd c7 (show ¬ (zs_ix px (zv_np S) ∧ zs_ix jx (zv_jn S (zn px))) from (fun h => hA0 (h.1))))
    refine zz_iconst (v := nI 1) hX dX6_mend_14 rfl ?_
    refine zz_vI (x := nI 1) hX zf_M_X6_108 (As := [.int (nI 1)]) (st := []) (m_fails1 sh mi mr hM.1) hM.1 rfl rfl rfl (by decide) (Nat.le_of_ble_eq_true rfl) (Nat.le_of_ble_eq_true rfl) (Nat.le_of_ble_eq_true rfl) dX6_mend_15 ?_
    refine zz_if_eq hX 23 dX6_mend_18 (by decide) (fun c => absurd c (by decide)) (fun _ => ?_)
    refine zz_iconst (v := nI 0) hX dX6_mend_21 rfl ?_
    refine zz_iret hX hr rfl (Nat.le_of_ble_eq_true rfl) (Nat.le_of_ble_eq_true rfl) dX6_mend_22 ?_
    exact ⟨_, rfl, Or.inr (Or.inl ⟨(fun h => hA0 (h.1)), (zm_u2s), (zM_th hM)⟩), (zr_mf zr_same.rfl' (by unfold zr_mout; omega))⟩
  obtain ⟨p, hp, rfl⟩ := zs_ix_of hA0 (by omega)
  have z_p : zn (nI p) = p := nI_clamp (n := p) (by omega)
  have hjn9 := (p2 p hp).2.2
  by_cases hA1 : zs_ix jx (zv_jn S (zn (nI p)))
  rotate_left
  · skip
    have hA1n : ¬ (zs_ix jx (zv_jn S (p))) := by have q9 := hA1; (try rw [z_p] at q9); exact q9
    refine zz_aload_n hX dX6_mend_0 0 rfl rfl ?_
    refine zz_aload_n hX dX6_mend_1 0 rfl rfl ?_
    refine zz_iload_n hX dX6_mend_2 1 rfl rfl ?_
    refine zz_iload_n hX dX6_mend_3 2 rfl rfl ?_
    refine zz_vI (x := zz_bi (zs_ix (nI p) (zv_np S) ∧ zs_ix jx (zv_jn S (zn (nI p))))) hX zf_M_X6_135 (As := [.int (nI p), .int jx]) (st := [.ref 1]) (M_isJoint S sh mi mr hW hM (nI p) jx) hM.1 rfl rfl rfl (by decide) (Nat.le_of_ble_eq_true rfl) (Nat.le_of_ble_eq_true rfl) (Nat.le_of_ble_eq_true rfl) dX6_mend_4 ?_
    refine zz_if_eqB hX 14 dX6_mend_7 (by decide) (fun c7 => ?_) (fun c7 => absurd c7 (show ¬ (zs_ix (nI p) (zv_np S) ∧ zs_ix jx (zv_jn S (zn (nI p)))) from (fun h => hA1 (h.2))))
    refine zz_iconst (v := nI 1) hX dX6_mend_14 rfl ?_
    refine zz_vI (x := nI 1) hX zf_M_X6_108 (As := [.int (nI 1)]) (st := []) (m_fails1 sh mi mr hM.1) hM.1 rfl rfl rfl (by decide) (Nat.le_of_ble_eq_true rfl) (Nat.le_of_ble_eq_true rfl) (Nat.le_of_ble_eq_true rfl) dX6_mend_15 ?_
    refine zz_if_eq hX 23 dX6_mend_18 (by decide) (fun c => absurd c (by decide)) (fun _ => ?_)
    refine zz_iconst (v := nI 0) hX dX6_mend_21 rfl ?_
    refine zz_iret hX hr rfl (Nat.le_of_ble_eq_true rfl) (Nat.le_of_ble_eq_true rfl) dX6_mend_22 ?_
    exact ⟨_, rfl, Or.inr (Or.inl ⟨(fun h => hA1 (h.2)), (zm_u2s), (zM_th hM)⟩), (zr_mf zr_same.rfl' (by unfold zr_mout; omega))⟩
  have hA1n : zs_ix jx (zv_jn S (p)) := by have q9 := hA1; (try rw [z_p] at q9); exact q9
  obtain ⟨j, hj, rfl⟩ := zs_ix_of hA1n (by omega)
  have z_j : zn (nI j) = j := nI_clamp (n := j) (by omega)
  refine zz_aload_n hX dX6_mend_0 0 rfl rfl ?_
  refine zz_aload_n hX dX6_mend_1 0 rfl rfl ?_
  refine zz_iload_n hX dX6_mend_2 1 rfl rfl ?_
  refine zz_iload_n hX dX6_mend_3 2 rfl rfl ?_
  refine zz_vI (x := zz_bi (zs_ix (nI p) (zv_np S) ∧ zs_ix (nI j) (zv_jn S (zn (nI p))))) hX zf_M_X6_135 (As := [.int (nI p), .int (nI j)]) (st := [.ref 1]) (M_isJoint S sh mi mr hW hM (nI p) (nI j)) hM.1 rfl rfl rfl (by decide) (Nat.le_of_ble_eq_true rfl) (Nat.le_of_ble_eq_true rfl) (Nat.le_of_ble_eq_true rfl) dX6_mend_4 ?_
  refine zz_if_eqB hX 14 dX6_mend_7 (by decide) (fun c7 => absurd (show zs_ix (nI p) (zv_np S) ∧ zs_ix (nI j) (zv_jn S (zn (nI p))) from ⟨hA0, hA1⟩) c7) (fun c7 => ?_)
  refine zz_iconst (v := nI 0) hX dX6_mend_10 rfl ?_
  refine zz_goto hX 15 dX6_mend_11 (by decide) ?_
  refine zz_vI (x := nI 0) hX zf_M_X6_108 (As := [.int (nI 0)]) (st := []) (m_fails0 sh mi mr hM.1) hM.1 rfl rfl rfl (by decide) (Nat.le_of_ble_eq_true rfl) (Nat.le_of_ble_eq_true rfl) (Nat.le_of_ble_eq_true rfl) dX6_mend_15 ?_
  refine zz_if_eq hX 23 dX6_mend_18 (by decide) (fun _ => ?_) (fun c => absurd c (by decide))
  refine zz_aload_n hX dX6_mend_23 0 rfl rfl ?_
  refine zz_getR (y := 103) hX zf_F_X6_16.r hM.1 rfl (zM_r3 hM).1 dX6_mend_24 ?_
  refine zz_bipush (v := nI 6) hX dX6_mend_27 rfl ?_
  refine zz_iload_n hX dX6_mend_29 1 rfl rfl ?_
  refine zz_imul (z := nI (6 * p)) hX dX6_mend_30 (pk_mul _ _) ?_
  refine zz_iload_n hX dX6_mend_31 2 rfl rfl ?_
  refine zz_iadd (z := nI (6 * p + j)) hX dX6_mend_32 (nI_add _ _) ?_
  refine zz_iald (x := S 3 (6 * p + j)) hX (zM_r3 hM).2 (6 * p + j) rfl (by omega) (by decide) (((zm_u2l (by decide))).trans ((zM_v3 hM (k := 6 * p + j) (by omega)))) dX6_mend_33 ?_
  refine zz_istore_n (ls' := [(0, .ref 1), (1, .int (nI p)), (2, .int (nI j)), (3, .int (S 3 (6 * p + j)))]) hX dX6_mend_34 rfl (Nat.le_of_ble_eq_true rfl) rfl ?_
  refine zz_aload_n hX dX6_mend_35 0 rfl rfl ?_
  refine zz_getR (y := 103) hX zf_F_X6_16.r hM.1 rfl (zM_r3 hM).1 dX6_mend_36 ?_
  refine zz_bipush (v := nI 6) hX dX6_mend_39 rfl ?_
  refine zz_iload_n hX dX6_mend_41 1 rfl rfl ?_
  refine zz_imul (z := nI (6 * p)) hX dX6_mend_42 (pk_mul _ _) ?_
  refine zz_iload_n hX dX6_mend_43 2 rfl rfl ?_
  refine zz_iadd (z := nI (6 * p + j)) hX dX6_mend_44 (nI_add _ _) ?_
  refine zz_iconst (v := nI 0) hX dX6_mend_45 rfl ?_
  refine zz_iast hX (zM_r3 hM).2 (6 * p + j) rfl (by omega) (by decide) dX6_mend_46 ?_
  refine zz_iload_n hX dX6_mend_47 3 rfl rfl ?_
  refine zz_iret hX hr rfl (Nat.le_of_ble_eq_true rfl) (Nat.le_of_ble_eq_true rfl) dX6_mend_48 ?_
  exact ⟨_, rfl, Or.inl ⟨⟨hA0, hA1⟩, trivial, trivial, (((zm_u2l (by decide))).trans (zm_u2s)), (by first | rfl | ((try rw [z_p]); (try rw [z_j]); (try rfl))), (by (try rw [z_p]); (try rw [z_j]); exact (zM_set (r := 3) (zM_th hM) (by decide)))⟩, (zr_mf (zr_mf zr_same.rfl' (by unfold zr_mout; omega)) (by unfold zr_mout; omega))⟩

set_option maxRecDepth 20000 in
theorem MP_left (S : zS) (sh : zm_Sh) (mi : zm_Mi) (mr : zm_Mr) (hW : zW S) (hM : zM S sh mi mr) (px s : Int32)  : zz_Con yX6_left (.code yX6_left cX6_left 3 (some Jvm.ClassFile.FieldType.int)) 6 0 0 [.ref 1, .int px, .int s] sh mi mr (zq_m ((zs_ix px (zv_np S))) ((nI 0 ≤ s ∧ s ≤ nI 9)) (True) (nI 1) (nI 2) (nI 0) (S 4 (10 * zn px + zn s)) S S sh mi mr) zz_none := by
  refine zz_begin RX6 [(0, .ref 1), (1, .int px), (2, .int s)] (by decide) rfl rfl (Nat.le_of_ble_eq_true rfl) rfl ?_
  intro Γ D E ad hX hr hN hT
  obtain ⟨hWp, hWv, hWs, hWk, hWr, hWf⟩ := id hW
  obtain ⟨p0, p1, p2, p3, p4, p5⟩ := hWp
  obtain ⟨v0, v1, v2, v3, v4⟩ := hWv
  obtain ⟨s0, s1, s2, s3⟩ := hWs
  obtain ⟨f0, f1, f2, f3⟩ := hWf
  by_cases hA0 : zs_ix px (zv_np S)
  rotate_left
  · skip
    refine zz_aload_n hX dX6_left_0 0 rfl rfl ?_
    refine zz_aload_n hX dX6_left_1 0 rfl rfl ?_
    refine zz_iload_n hX dX6_left_2 1 rfl rfl ?_
    refine zz_vI (x := zz_bi (zs_ix px (zv_np S))) hX zf_M_X6_95 (As := [.int px]) (st := [.ref 1]) (M_isPuppet S sh mi mr hW hM px) hM.1 rfl rfl rfl (by decide) (Nat.le_of_ble_eq_true rfl) (Nat.le_of_ble_eq_true rfl) (Nat.le_of_ble_eq_true rfl) dX6_left_3 ?_
    refine zz_if_neB hX 13 dX6_left_6 (by decide) (fun c6 => absurd c6 (show ¬ (zs_ix px (zv_np S)) from hA0)) (fun c6 => ?_)
    refine zz_iconst (v := nI 1) hX dX6_left_9 rfl ?_
    refine zz_goto hX 25 dX6_left_10 (by decide) ?_
    refine zz_vI (x := nI 1) hX zf_M_X6_108 (As := [.int (nI 1)]) (st := []) (m_fails1 sh mi mr hM.1) hM.1 rfl rfl rfl (by decide) (Nat.le_of_ble_eq_true rfl) (Nat.le_of_ble_eq_true rfl) (Nat.le_of_ble_eq_true rfl) dX6_left_25 ?_
    refine zz_if_eq hX 35 dX6_left_28 (by decide) (fun c => absurd c (by decide)) (fun _ => ?_)
    refine zz_iconst (v := nI 0) hX dX6_left_31 rfl ?_
    refine zz_goto hX 46 dX6_left_32 (by decide) ?_
    refine zz_iret hX hr rfl (Nat.le_of_ble_eq_true rfl) (Nat.le_of_ble_eq_true rfl) dX6_left_46 ?_
    exact ⟨_, rfl, Or.inr (Or.inl ⟨(fun h => hA0 (h)), (zm_u2s), (zM_th hM)⟩), (zr_mf zr_same.rfl' (by unfold zr_mout; omega))⟩
  obtain ⟨p, hp, rfl⟩ := zs_ix_of hA0 (by omega)
  have z_p : zn (nI p) = p := nI_clamp (n := p) (by omega)
  have hjn9 := (p2 p hp).2.2
  by_cases hB0 : nI 0 ≤ s ∧ s ≤ nI 9
  rotate_left
  · skip
    refine zz_aload_n hX dX6_left_0 0 rfl rfl ?_
    refine zz_aload_n hX dX6_left_1 0 rfl rfl ?_
    refine zz_iload_n hX dX6_left_2 1 rfl rfl ?_
    refine zz_vI (x := zz_bi (zs_ix (nI p) (zv_np S))) hX zf_M_X6_95 (As := [.int (nI p)]) (st := [.ref 1]) (M_isPuppet S sh mi mr hW hM (nI p)) hM.1 rfl rfl rfl (by decide) (Nat.le_of_ble_eq_true rfl) (Nat.le_of_ble_eq_true rfl) (Nat.le_of_ble_eq_true rfl) dX6_left_3 ?_
    refine zz_if_neB hX 13 dX6_left_6 (by decide) (fun c6 => ?_) (fun c6 => absurd (show zs_ix (nI p) (zv_np S) from hA0) c6)
    refine zz_iload_n hX dX6_left_13 2 rfl rfl ?_
    refine zz_sI (x := zz_bi (nI 0 ≤ s ∧ s ≤ nI 9)) hX zf_M_X6_111 (As := [.int s]) (st := [.ref 1]) (m_isSound s sh mi mr) rfl rfl (by decide) (Nat.le_of_ble_eq_true rfl) (Nat.le_of_ble_eq_true rfl) (Nat.le_of_ble_eq_true rfl) dX6_left_14 ?_
    refine zz_if_eqB hX 24 dX6_left_17 (by decide) (fun c17 => ?_) (fun c17 => absurd c17 (show ¬ (nI 0 ≤ s ∧ s ≤ nI 9) from hB0))
    refine zz_iconst (v := nI 2) hX dX6_left_24 rfl ?_
    refine zz_vI (x := nI 1) hX zf_M_X6_108 (As := [.int (nI 2)]) (st := []) (m_fails2 sh mi mr hM.1) hM.1 rfl rfl rfl (by decide) (Nat.le_of_ble_eq_true rfl) (Nat.le_of_ble_eq_true rfl) (Nat.le_of_ble_eq_true rfl) dX6_left_25 ?_
    refine zz_if_eq hX 35 dX6_left_28 (by decide) (fun c => absurd c (by decide)) (fun _ => ?_)
    refine zz_iconst (v := nI 0) hX dX6_left_31 rfl ?_
    refine zz_goto hX 46 dX6_left_32 (by decide) ?_
    refine zz_iret hX hr rfl (Nat.le_of_ble_eq_true rfl) (Nat.le_of_ble_eq_true rfl) dX6_left_46 ?_
    exact ⟨_, rfl, Or.inr (Or.inr (Or.inl ⟨hA0, (fun h => hB0 (h)), (zm_u2s), (zM_th hM)⟩)), (zr_mf zr_same.rfl' (by unfold zr_mout; omega))⟩
  obtain ⟨s9, hs9, rfl⟩ := zs_rng1 (a := 0) (n := 9) hB0 (by decide) (by decide)
  have z_s9 : zn (nI s9) = s9 := nI_clamp (n := s9) (by omega)
  refine zz_aload_n hX dX6_left_0 0 rfl rfl ?_
  refine zz_aload_n hX dX6_left_1 0 rfl rfl ?_
  refine zz_iload_n hX dX6_left_2 1 rfl rfl ?_
  refine zz_vI (x := zz_bi (zs_ix (nI p) (zv_np S))) hX zf_M_X6_95 (As := [.int (nI p)]) (st := [.ref 1]) (M_isPuppet S sh mi mr hW hM (nI p)) hM.1 rfl rfl rfl (by decide) (Nat.le_of_ble_eq_true rfl) (Nat.le_of_ble_eq_true rfl) (Nat.le_of_ble_eq_true rfl) dX6_left_3 ?_
  refine zz_if_neB hX 13 dX6_left_6 (by decide) (fun c6 => ?_) (fun c6 => absurd (show zs_ix (nI p) (zv_np S) from hA0) c6)
  refine zz_iload_n hX dX6_left_13 2 rfl rfl ?_
  refine zz_sI (x := zz_bi (nI 0 ≤ nI s9 ∧ nI s9 ≤ nI 9)) hX zf_M_X6_111 (As := [.int (nI s9)]) (st := [.ref 1]) (m_isSound (nI s9) sh mi mr) rfl rfl (by decide) (Nat.le_of_ble_eq_true rfl) (Nat.le_of_ble_eq_true rfl) (Nat.le_of_ble_eq_true rfl) dX6_left_14 ?_
  refine zz_if_eqB hX 24 dX6_left_17 (by decide) (fun c17 => absurd (show nI 0 ≤ nI s9 ∧ nI s9 ≤ nI 9 from hB0) c17) (fun c17 => ?_)
  refine zz_iconst (v := nI 0) hX dX6_left_20 rfl ?_
  refine zz_goto hX 25 dX6_left_21 (by decide) ?_
  refine zz_vI (x := nI 0) hX zf_M_X6_108 (As := [.int (nI 0)]) (st := []) (m_fails0 sh mi mr hM.1) hM.1 rfl rfl rfl (by decide) (Nat.le_of_ble_eq_true rfl) (Nat.le_of_ble_eq_true rfl) (Nat.le_of_ble_eq_true rfl) dX6_left_25 ?_
  refine zz_if_eq hX 35 dX6_left_28 (by decide) (fun _ => ?_) (fun c => absurd c (by decide))
  refine zz_aload_n hX dX6_left_35 0 rfl rfl ?_
  refine zz_getR (y := 104) hX zf_F_X6_19.r hM.1 rfl (zM_r4 hM).1 dX6_left_36 ?_
  refine zz_bipush (v := nI 10) hX dX6_left_39 rfl ?_
  refine zz_iload_n hX dX6_left_41 1 rfl rfl ?_
  refine zz_imul (z := nI (10 * p)) hX dX6_left_42 (pk_mul _ _) ?_
  refine zz_iload_n hX dX6_left_43 2 rfl rfl ?_
  refine zz_iadd (z := nI (10 * p + s9)) hX dX6_left_44 (nI_add _ _) ?_
  refine zz_iald (x := S 4 (10 * p + s9)) hX (zM_r4 hM).2 (10 * p + s9) rfl (by omega) (by decide) (((zm_u2l (by decide))).trans ((zM_v4 hM (k := 10 * p + s9) (by omega)))) dX6_left_45 ?_
  refine zz_iret hX hr rfl (Nat.le_of_ble_eq_true rfl) (Nat.le_of_ble_eq_true rfl) dX6_left_46 ?_
  exact ⟨_, rfl, Or.inl ⟨hA0, hB0, trivial, (zm_u2s), (by first | rfl | ((try rw [z_p]); (try rw [z_s9]); (try rfl))), (by (try rw [z_p]); (try rw [z_s9]); exact (zM_th hM))⟩, (zr_mf zr_same.rfl' (by unfold zr_mout; omega))⟩

set_option maxRecDepth 20000 in
theorem MP_pose (S : zS) (sh : zm_Sh) (mi : zm_Mi) (mr : zm_Mr) (hW : zW S) (hM : zM S sh mi mr) (s jx fx : Int32)  : zz_Con yX6_pose (.code yX6_pose cX6_pose 4 (some Jvm.ClassFile.FieldType.int)) 6 0 0 [.ref 1, .int s, .int jx, .int fx] sh mi mr (zq_m ((zs_ix s (zv_ns S)) ∧ (zs_ix jx (zv_jn S (zv_pu S (zn s)))) ∧ (zs_ix fx (zv_sk S (zn s)))) (True) (True) (nI 1) (nI 0) (nI 0) (S 22 (48 * (6 * zn s + zn jx) + zn fx)) S S sh mi mr) zz_none := by
  refine zz_begin RX6 [(0, .ref 1), (1, .int s), (2, .int jx), (3, .int fx)] (by decide) rfl rfl (Nat.le_of_ble_eq_true rfl) rfl ?_
  intro Γ D E ad hX hr hN hT
  obtain ⟨hWp, hWv, hWs, hWk, hWr, hWf⟩ := id hW
  obtain ⟨p0, p1, p2, p3, p4, p5⟩ := hWp
  obtain ⟨v0, v1, v2, v3, v4⟩ := hWv
  obtain ⟨s0, s1, s2, s3⟩ := hWs
  obtain ⟨f0, f1, f2, f3⟩ := hWf
  by_cases hA0 : zs_ix s (zv_ns S)
  rotate_left
  · skip
    refine zz_aload_n hX dX6_pose_0 0 rfl rfl ?_
    refine zz_aload_n hX dX6_pose_1 0 rfl rfl ?_
    refine zz_iload_n hX dX6_pose_2 1 rfl rfl ?_
    refine zz_iload_n hX dX6_pose_3 2 rfl rfl ?_
    refine zz_vI (x := zz_bi (zs_ix s (zv_ns S) ∧ zs_ix jx (zv_jn S (zv_pu S (zn s))))) hX zf_M_X6_138 (As := [.int s, .int jx]) (st := [.ref 1]) (M_isJointOf S sh mi mr hW hM s jx) hM.1 rfl rfl rfl (by decide) (Nat.le_of_ble_eq_true rfl) (Nat.le_of_ble_eq_true rfl) (Nat.le_of_ble_eq_true rfl) dX6_pose_4 ?_
    refine zz_if_eqB hX 23 dX6_pose_7 (by decide) (fun c7 => ?_) (fun c7 => absurd c7 (show ¬ (zs_ix s (zv_ns S) ∧ zs_ix jx (zv_jn S (zv_pu S (zn s)))) from (fun h => hA0 (h.1))))
    refine zz_iconst (v := nI 1) hX dX6_pose_23 rfl ?_
    refine zz_vI (x := nI 1) hX zf_M_X6_108 (As := [.int (nI 1)]) (st := []) (m_fails1 sh mi mr hM.1) hM.1 rfl rfl rfl (by decide) (Nat.le_of_ble_eq_true rfl) (Nat.le_of_ble_eq_true rfl) (Nat.le_of_ble_eq_true rfl) dX6_pose_24 ?_
    refine zz_if_eq hX 34 dX6_pose_27 (by decide) (fun c => absurd c (by decide)) (fun _ => ?_)
    refine zz_iconst (v := nI 0) hX dX6_pose_30 rfl ?_
    refine zz_goto hX 47 dX6_pose_31 (by decide) ?_
    refine zz_iret hX hr rfl (Nat.le_of_ble_eq_true rfl) (Nat.le_of_ble_eq_true rfl) dX6_pose_47 ?_
    exact ⟨_, rfl, Or.inr (Or.inl ⟨(fun h => hA0 (h.1)), (zm_u2s), (zM_th hM)⟩), (zr_mf zr_same.rfl' (by unfold zr_mout; omega))⟩
  obtain ⟨i, hi, rfl⟩ := zs_ix_of hA0 (by omega)
  have z_i : zn (nI i) = i := nI_clamp (n := i) (by omega)
  obtain ⟨b1, b2, b3, b4, b5, b6, b7, b8, b9, b10, b11, b12, b13⟩ := s2 i hi
  have hjn9 := (p2 _ b2).2.2
  by_cases hA1 : zs_ix jx (zv_jn S (zv_pu S (zn (nI i))))
  rotate_left
  · skip
    have hA1n : ¬ (zs_ix jx (zv_jn S (zv_pu S (i)))) := by have q9 := hA1; (try rw [z_i] at q9); exact q9
    refine zz_aload_n hX dX6_pose_0 0 rfl rfl ?_
    refine zz_aload_n hX dX6_pose_1 0 rfl rfl ?_
    refine zz_iload_n hX dX6_pose_2 1 rfl rfl ?_
    refine zz_iload_n hX dX6_pose_3 2 rfl rfl ?_
    refine zz_vI (x := zz_bi (zs_ix (nI i) (zv_ns S) ∧ zs_ix jx (zv_jn S (zv_pu S (zn (nI i)))))) hX zf_M_X6_138 (As := [.int (nI i), .int jx]) (st := [.ref 1]) (M_isJointOf S sh mi mr hW hM (nI i) jx) hM.1 rfl rfl rfl (by decide) (Nat.le_of_ble_eq_true rfl) (Nat.le_of_ble_eq_true rfl) (Nat.le_of_ble_eq_true rfl) dX6_pose_4 ?_
    refine zz_if_eqB hX 23 dX6_pose_7 (by decide) (fun c7 => ?_) (fun c7 => absurd c7 (show ¬ (zs_ix (nI i) (zv_ns S) ∧ zs_ix jx (zv_jn S (zv_pu S (zn (nI i))))) from (fun h => hA1 (h.2))))
    refine zz_iconst (v := nI 1) hX dX6_pose_23 rfl ?_
    refine zz_vI (x := nI 1) hX zf_M_X6_108 (As := [.int (nI 1)]) (st := []) (m_fails1 sh mi mr hM.1) hM.1 rfl rfl rfl (by decide) (Nat.le_of_ble_eq_true rfl) (Nat.le_of_ble_eq_true rfl) (Nat.le_of_ble_eq_true rfl) dX6_pose_24 ?_
    refine zz_if_eq hX 34 dX6_pose_27 (by decide) (fun c => absurd c (by decide)) (fun _ => ?_)
    refine zz_iconst (v := nI 0) hX dX6_pose_30 rfl ?_
    refine zz_goto hX 47 dX6_pose_31 (by decide) ?_
    refine zz_iret hX hr rfl (Nat.le_of_ble_eq_true rfl) (Nat.le_of_ble_eq_true rfl) dX6_pose_47 ?_
    exact ⟨_, rfl, Or.inr (Or.inl ⟨(fun h => hA1 (h.2.1)), (zm_u2s), (zM_th hM)⟩), (zr_mf zr_same.rfl' (by unfold zr_mout; omega))⟩
  have hA1n : zs_ix jx (zv_jn S (zv_pu S (i))) := by have q9 := hA1; (try rw [z_i] at q9); exact q9
  obtain ⟨j, hj, rfl⟩ := zs_ix_of hA1n (by omega)
  have z_j : zn (nI j) = j := nI_clamp (n := j) (by omega)
  by_cases hA2 : zs_ix fx (zv_sk S (zn (nI i)))
  rotate_left
  · skip
    have hA2n : ¬ (zs_ix fx (zv_sk S (i))) := by have q9 := hA2; (try rw [z_i] at q9); (try rw [z_j] at q9); exact q9
    refine zz_aload_n hX dX6_pose_0 0 rfl rfl ?_
    refine zz_aload_n hX dX6_pose_1 0 rfl rfl ?_
    refine zz_iload_n hX dX6_pose_2 1 rfl rfl ?_
    refine zz_iload_n hX dX6_pose_3 2 rfl rfl ?_
    refine zz_vI (x := zz_bi (zs_ix (nI i) (zv_ns S) ∧ zs_ix (nI j) (zv_jn S (zv_pu S (zn (nI i)))))) hX zf_M_X6_138 (As := [.int (nI i), .int (nI j)]) (st := [.ref 1]) (M_isJointOf S sh mi mr hW hM (nI i) (nI j)) hM.1 rfl rfl rfl (by decide) (Nat.le_of_ble_eq_true rfl) (Nat.le_of_ble_eq_true rfl) (Nat.le_of_ble_eq_true rfl) dX6_pose_4 ?_
    refine zz_if_eqB hX 23 dX6_pose_7 (by decide) (fun c7 => absurd (show zs_ix (nI i) (zv_ns S) ∧ zs_ix (nI j) (zv_jn S (zv_pu S (zn (nI i)))) from ⟨hA0, hA1⟩) c7) (fun c7 => ?_)
    refine zz_aload_n hX dX6_pose_10 0 rfl rfl ?_
    refine zz_iload_n hX dX6_pose_11 1 rfl rfl ?_
    refine zz_iload_n hX dX6_pose_12 3 rfl rfl ?_
    refine zz_vI (x := zz_bi (zs_ix (nI i) (zv_ns S) ∧ zs_ix fx (zv_sk S (zn (nI i))))) hX zf_M_X6_193 (As := [.int (nI i), .int fx]) (st := [.ref 1]) (M_isStruck S sh mi mr hW hM (nI i) fx) hM.1 rfl rfl rfl (by decide) (Nat.le_of_ble_eq_true rfl) (Nat.le_of_ble_eq_true rfl) (Nat.le_of_ble_eq_true rfl) dX6_pose_13 ?_
    refine zz_if_eqB hX 23 dX6_pose_16 (by decide) (fun c16 => ?_) (fun c16 => absurd c16 (show ¬ (zs_ix (nI i) (zv_ns S) ∧ zs_ix fx (zv_sk S (zn (nI i)))) from (fun h => hA2 (h.2))))
    refine zz_iconst (v := nI 1) hX dX6_pose_23 rfl ?_
    refine zz_vI (x := nI 1) hX zf_M_X6_108 (As := [.int (nI 1)]) (st := []) (m_fails1 sh mi mr hM.1) hM.1 rfl rfl rfl (by decide) (Nat.le_of_ble_eq_true rfl) (Nat.le_of_ble_eq_true rfl) (Nat.le_of_ble_eq_true rfl) dX6_pose_24 ?_
    refine zz_if_eq hX 34 dX6_pose_27 (by decide) (fun c => absurd c (by decide)) (fun _ => ?_)
    refine zz_iconst (v := nI 0) hX dX6_pose_30 rfl ?_
    refine zz_goto hX 47 dX6_pose_31 (by decide) ?_
    refine zz_iret hX hr rfl (Nat.le_of_ble_eq_true rfl) (Nat.le_of_ble_eq_true rfl) dX6_pose_47 ?_
    exact ⟨_, rfl, Or.inr (Or.inl ⟨(fun h => hA2 (h.2.2)), (zm_u2s), (zM_th hM)⟩), (zr_mf zr_same.rfl' (by unfold zr_mout; omega))⟩
  have hA2n : zs_ix fx (zv_sk S (i)) := by have q9 := hA2; (try rw [z_i] at q9); (try rw [z_j] at q9); exact q9
  obtain ⟨f, hf, rfl⟩ := zs_ix_of hA2n (by omega)
  have z_f : zn (nI f) = f := nI_clamp (n := f) (by omega)
  refine zz_aload_n hX dX6_pose_0 0 rfl rfl ?_
  refine zz_aload_n hX dX6_pose_1 0 rfl rfl ?_
  refine zz_iload_n hX dX6_pose_2 1 rfl rfl ?_
  refine zz_iload_n hX dX6_pose_3 2 rfl rfl ?_
  refine zz_vI (x := zz_bi (zs_ix (nI i) (zv_ns S) ∧ zs_ix (nI j) (zv_jn S (zv_pu S (zn (nI i)))))) hX zf_M_X6_138 (As := [.int (nI i), .int (nI j)]) (st := [.ref 1]) (M_isJointOf S sh mi mr hW hM (nI i) (nI j)) hM.1 rfl rfl rfl (by decide) (Nat.le_of_ble_eq_true rfl) (Nat.le_of_ble_eq_true rfl) (Nat.le_of_ble_eq_true rfl) dX6_pose_4 ?_
  refine zz_if_eqB hX 23 dX6_pose_7 (by decide) (fun c7 => absurd (show zs_ix (nI i) (zv_ns S) ∧ zs_ix (nI j) (zv_jn S (zv_pu S (zn (nI i)))) from ⟨hA0, hA1⟩) c7) (fun c7 => ?_)
  refine zz_aload_n hX dX6_pose_10 0 rfl rfl ?_
  refine zz_iload_n hX dX6_pose_11 1 rfl rfl ?_
  refine zz_iload_n hX dX6_pose_12 3 rfl rfl ?_
  refine zz_vI (x := zz_bi (zs_ix (nI i) (zv_ns S) ∧ zs_ix (nI f) (zv_sk S (zn (nI i))))) hX zf_M_X6_193 (As := [.int (nI i), .int (nI f)]) (st := [.ref 1]) (M_isStruck S sh mi mr hW hM (nI i) (nI f)) hM.1 rfl rfl rfl (by decide) (Nat.le_of_ble_eq_true rfl) (Nat.le_of_ble_eq_true rfl) (Nat.le_of_ble_eq_true rfl) dX6_pose_13 ?_
  refine zz_if_eqB hX 23 dX6_pose_16 (by decide) (fun c16 => absurd (show zs_ix (nI i) (zv_ns S) ∧ zs_ix (nI f) (zv_sk S (zn (nI i))) from ⟨hA0, hA2⟩) c16) (fun c16 => ?_)
  refine zz_iconst (v := nI 0) hX dX6_pose_19 rfl ?_
  refine zz_goto hX 24 dX6_pose_20 (by decide) ?_
  refine zz_vI (x := nI 0) hX zf_M_X6_108 (As := [.int (nI 0)]) (st := []) (m_fails0 sh mi mr hM.1) hM.1 rfl rfl rfl (by decide) (Nat.le_of_ble_eq_true rfl) (Nat.le_of_ble_eq_true rfl) (Nat.le_of_ble_eq_true rfl) dX6_pose_24 ?_
  refine zz_if_eq hX 34 dX6_pose_27 (by decide) (fun _ => ?_) (fun c => absurd c (by decide))
  refine zz_aload_n hX dX6_pose_34 0 rfl rfl ?_
  refine zz_getR (y := 122) hX zf_F_X6_62.r hM.1 rfl (zM_r22 hM).1 dX6_pose_35 ?_
  refine zz_aload_n hX dX6_pose_38 0 rfl rfl ?_
  refine zz_iload_n hX dX6_pose_39 1 rfl rfl ?_
  refine zz_iload_n hX dX6_pose_40 2 rfl rfl ?_
  refine zz_vI (x := nI (48 * (6 * i + j))) hX zf_M_X6_127 (As := [.int (nI i), .int (nI j)]) (st := [.ref 122]) (m_row sh (zm_u2 mi 1 30 (nI 0)) mr i j) hM.1 rfl rfl rfl (by decide) (Nat.le_of_ble_eq_true rfl) (Nat.le_of_ble_eq_true rfl) (Nat.le_of_ble_eq_true rfl) dX6_pose_41 ?_
  refine zz_iload_n hX dX6_pose_44 3 rfl rfl ?_
  refine zz_iadd (z := nI (48 * (6 * i + j) + f)) hX dX6_pose_45 (nI_add _ _) ?_
  refine zz_iald (x := S 22 (48 * (6 * i + j) + f)) hX (zM_r22 hM).2 (48 * (6 * i + j) + f) rfl (by omega) (by decide) (((zm_u2l (by decide))).trans ((zM_v22 hM (k := 48 * (6 * i + j) + f) (by omega)))) dX6_pose_46 ?_
  refine zz_iret hX hr rfl (Nat.le_of_ble_eq_true rfl) (Nat.le_of_ble_eq_true rfl) dX6_pose_47 ?_
  exact ⟨_, rfl, Or.inl ⟨⟨hA0, hA1, hA2⟩, trivial, trivial, (zm_u2s), (by first | rfl | ((try rw [z_i]); (try rw [z_j]); (try rw [z_f]); (try rfl))), (by (try rw [z_i]); (try rw [z_j]); (try rw [z_f]); exact (zM_th hM))⟩, (zr_mf zr_same.rfl' (by unfold zr_mout; omega))⟩

set_option maxRecDepth 20000 in
theorem MP_bump (S : zS) (sh : zm_Sh) (mi : zm_Mi) (mr : zm_Mr) (hW : zW S) (hM : zM S sh mi mr) (s u : Int32)  : zz_Con yX6_bump (.code yX6_bump cX6_bump 3 (some Jvm.ClassFile.FieldType.int)) 6 0 0 [.ref 1, .int s, .int u] sh mi mr (zq_m ((zs_ix s (zv_ns S))) (((-99) ≤ u ∧ u ≤ nI 99)) ((0 < zv_sk S (zn s))) (nI 1) (nI 2) (nI 3) (S 16 (zn s) + u) S (zm_u2 S 16 (zn s) (S 16 (zn s) + u)) sh mi mr) zz_none := by
  refine zz_begin RX6 [(0, .ref 1), (1, .int s), (2, .int u)] (by decide) rfl rfl (Nat.le_of_ble_eq_true rfl) rfl ?_
  intro Γ D E ad hX hr hN hT
  obtain ⟨hWp, hWv, hWs, hWk, hWr, hWf⟩ := id hW
  obtain ⟨p0, p1, p2, p3, p4, p5⟩ := hWp
  obtain ⟨v0, v1, v2, v3, v4⟩ := hWv
  obtain ⟨s0, s1, s2, s3⟩ := hWs
  obtain ⟨f0, f1, f2, f3⟩ := hWf
  by_cases hA0 : zs_ix s (zv_ns S)
  rotate_left
  · skip
    refine zz_aload_n hX dX6_bump_0 0 rfl rfl ?_
    refine zz_aload_n hX dX6_bump_1 0 rfl rfl ?_
    refine zz_iload_n hX dX6_bump_2 1 rfl rfl ?_
    refine zz_vI (x := zz_bi (zs_ix s (zv_ns S))) hX zf_M_X6_105 (As := [.int s]) (st := [.ref 1]) (M_isShot S sh mi mr hW hM s) hM.1 rfl rfl rfl (by decide) (Nat.le_of_ble_eq_true rfl) (Nat.le_of_ble_eq_true rfl) (Nat.le_of_ble_eq_true rfl) dX6_bump_3 ?_
    refine zz_if_neB hX 13 dX6_bump_6 (by decide) (fun c6 => absurd c6 (show ¬ (zs_ix s (zv_ns S)) from hA0)) (fun c6 => ?_)
    refine zz_iconst (v := nI 1) hX dX6_bump_9 rfl ?_
    refine zz_goto hX 42 dX6_bump_10 (by decide) ?_
    refine zz_vI (x := nI 1) hX zf_M_X6_108 (As := [.int (nI 1)]) (st := []) (m_fails1 sh mi mr hM.1) hM.1 rfl rfl rfl (by decide) (Nat.le_of_ble_eq_true rfl) (Nat.le_of_ble_eq_true rfl) (Nat.le_of_ble_eq_true rfl) dX6_bump_42 ?_
    refine zz_if_eq hX 50 dX6_bump_45 (by decide) (fun c => absurd c (by decide)) (fun _ => ?_)
    refine zz_iconst (v := nI 0) hX dX6_bump_48 rfl ?_
    refine zz_iret hX hr rfl (Nat.le_of_ble_eq_true rfl) (Nat.le_of_ble_eq_true rfl) dX6_bump_49 ?_
    exact ⟨_, rfl, Or.inr (Or.inl ⟨(fun h => hA0 (h)), (zm_u2s), (zM_th hM)⟩), (zr_mf zr_same.rfl' (by unfold zr_mout; omega))⟩
  obtain ⟨i, hi, rfl⟩ := zs_ix_of hA0 (by omega)
  have z_i : zn (nI i) = i := nI_clamp (n := i) (by omega)
  obtain ⟨b1, b2, b3, b4, b5, b6, b7, b8, b9, b10, b11, b12, b13⟩ := s2 i hi
  have hjn9 := (p2 _ b2).2.2
  by_cases hB0 : (-99) ≤ u ∧ u ≤ nI 99
  rotate_left
  · skip
    refine zz_aload_n hX dX6_bump_0 0 rfl rfl ?_
    refine zz_aload_n hX dX6_bump_1 0 rfl rfl ?_
    refine zz_iload_n hX dX6_bump_2 1 rfl rfl ?_
    refine zz_vI (x := zz_bi (zs_ix (nI i) (zv_ns S))) hX zf_M_X6_105 (As := [.int (nI i)]) (st := [.ref 1]) (M_isShot S sh mi mr hW hM (nI i)) hM.1 rfl rfl rfl (by decide) (Nat.le_of_ble_eq_true rfl) (Nat.le_of_ble_eq_true rfl) (Nat.le_of_ble_eq_true rfl) dX6_bump_3 ?_
    refine zz_if_neB hX 13 dX6_bump_6 (by decide) (fun c6 => ?_) (fun c6 => absurd (show zs_ix (nI i) (zv_ns S) from hA0) c6)
    refine zz_iload_n hX dX6_bump_13 2 rfl rfl ?_
    refine zz_bipush (v := (-99)) hX dX6_bump_14 rfl ?_
    refine zz_bipush (v := nI 99) hX dX6_bump_16 rfl ?_
    refine zz_sI (x := zz_bi ((-99) ≤ u ∧ u ≤ nI 99)) hX zf_M_X6_91 (As := [.int u, .int (-99), .int (nI 99)]) (st := [.ref 1]) (m_isIn u (-99) (nI 99) sh mi mr) rfl rfl (by decide) (Nat.le_of_ble_eq_true rfl) (Nat.le_of_ble_eq_true rfl) (Nat.le_of_ble_eq_true rfl) dX6_bump_18 ?_
    refine zz_if_neB hX 28 dX6_bump_21 (by decide) (fun c21 => absurd c21 (show ¬ ((-99) ≤ u ∧ u ≤ nI 99) from hB0)) (fun c21 => ?_)
    refine zz_iconst (v := nI 2) hX dX6_bump_24 rfl ?_
    refine zz_goto hX 42 dX6_bump_25 (by decide) ?_
    refine zz_vI (x := nI 1) hX zf_M_X6_108 (As := [.int (nI 2)]) (st := []) (m_fails2 sh mi mr hM.1) hM.1 rfl rfl rfl (by decide) (Nat.le_of_ble_eq_true rfl) (Nat.le_of_ble_eq_true rfl) (Nat.le_of_ble_eq_true rfl) dX6_bump_42 ?_
    refine zz_if_eq hX 50 dX6_bump_45 (by decide) (fun c => absurd c (by decide)) (fun _ => ?_)
    refine zz_iconst (v := nI 0) hX dX6_bump_48 rfl ?_
    refine zz_iret hX hr rfl (Nat.le_of_ble_eq_true rfl) (Nat.le_of_ble_eq_true rfl) dX6_bump_49 ?_
    exact ⟨_, rfl, Or.inr (Or.inr (Or.inl ⟨hA0, (fun h => hB0 (h)), (zm_u2s), (zM_th hM)⟩)), (zr_mf zr_same.rfl' (by unfold zr_mout; omega))⟩
  by_cases hC0 : 0 < zv_sk S (zn (nI i))
  rotate_left
  · skip
    have hC0n : ¬ (0 < zv_sk S (i)) := by have q9 := hC0; (try rw [z_i] at q9); exact q9
    refine zz_aload_n hX dX6_bump_0 0 rfl rfl ?_
    refine zz_aload_n hX dX6_bump_1 0 rfl rfl ?_
    refine zz_iload_n hX dX6_bump_2 1 rfl rfl ?_
    refine zz_vI (x := zz_bi (zs_ix (nI i) (zv_ns S))) hX zf_M_X6_105 (As := [.int (nI i)]) (st := [.ref 1]) (M_isShot S sh mi mr hW hM (nI i)) hM.1 rfl rfl rfl (by decide) (Nat.le_of_ble_eq_true rfl) (Nat.le_of_ble_eq_true rfl) (Nat.le_of_ble_eq_true rfl) dX6_bump_3 ?_
    refine zz_if_neB hX 13 dX6_bump_6 (by decide) (fun c6 => ?_) (fun c6 => absurd (show zs_ix (nI i) (zv_ns S) from hA0) c6)
    refine zz_iload_n hX dX6_bump_13 2 rfl rfl ?_
    refine zz_bipush (v := (-99)) hX dX6_bump_14 rfl ?_
    refine zz_bipush (v := nI 99) hX dX6_bump_16 rfl ?_
    refine zz_sI (x := zz_bi ((-99) ≤ u ∧ u ≤ nI 99)) hX zf_M_X6_91 (As := [.int u, .int (-99), .int (nI 99)]) (st := [.ref 1]) (m_isIn u (-99) (nI 99) sh mi mr) rfl rfl (by decide) (Nat.le_of_ble_eq_true rfl) (Nat.le_of_ble_eq_true rfl) (Nat.le_of_ble_eq_true rfl) dX6_bump_18 ?_
    refine zz_if_neB hX 28 dX6_bump_21 (by decide) (fun c21 => ?_) (fun c21 => absurd (show (-99) ≤ u ∧ u ≤ nI 99 from hB0) c21)
    refine zz_aload_n hX dX6_bump_28 0 rfl rfl ?_
    refine zz_getR (y := 115) hX zf_F_X6_46.r hM.1 rfl (zM_r15 hM).1 dX6_bump_29 ?_
    refine zz_iload_n hX dX6_bump_32 1 rfl rfl ?_
    refine zz_iald (x := nI (zv_sk S i)) hX (zM_r15 hM).2 i rfl (by omega) (by decide) (((zM_v15 hM (k := i) (by omega)).trans (s2 i hi).2.2.2.2.2.2.2.2.2.2.1)) dX6_bump_33 ?_
    refine zz_if_neN hX (by omega) 41 dX6_bump_34 (by decide) (fun c34 => absurd c34 (by omega)) (fun c34 => ?_)
    refine zz_iconst (v := nI 3) hX dX6_bump_37 rfl ?_
    refine zz_goto hX 42 dX6_bump_38 (by decide) ?_
    refine zz_vI (x := nI 1) hX zf_M_X6_108 (As := [.int (nI 3)]) (st := []) (m_fails3 sh mi mr hM.1) hM.1 rfl rfl rfl (by decide) (Nat.le_of_ble_eq_true rfl) (Nat.le_of_ble_eq_true rfl) (Nat.le_of_ble_eq_true rfl) dX6_bump_42 ?_
    refine zz_if_eq hX 50 dX6_bump_45 (by decide) (fun c => absurd c (by decide)) (fun _ => ?_)
    refine zz_iconst (v := nI 0) hX dX6_bump_48 rfl ?_
    refine zz_iret hX hr rfl (Nat.le_of_ble_eq_true rfl) (Nat.le_of_ble_eq_true rfl) dX6_bump_49 ?_
    exact ⟨_, rfl, Or.inr (Or.inr (Or.inr ⟨hA0, hB0, (fun h => hC0 (h)), (zm_u2s), (zM_th hM)⟩)), (zr_mf zr_same.rfl' (by unfold zr_mout; omega))⟩
  have hC0n : 0 < zv_sk S (i) := by have q9 := hC0; (try rw [z_i] at q9); exact q9
  refine zz_aload_n hX dX6_bump_0 0 rfl rfl ?_
  refine zz_aload_n hX dX6_bump_1 0 rfl rfl ?_
  refine zz_iload_n hX dX6_bump_2 1 rfl rfl ?_
  refine zz_vI (x := zz_bi (zs_ix (nI i) (zv_ns S))) hX zf_M_X6_105 (As := [.int (nI i)]) (st := [.ref 1]) (M_isShot S sh mi mr hW hM (nI i)) hM.1 rfl rfl rfl (by decide) (Nat.le_of_ble_eq_true rfl) (Nat.le_of_ble_eq_true rfl) (Nat.le_of_ble_eq_true rfl) dX6_bump_3 ?_
  refine zz_if_neB hX 13 dX6_bump_6 (by decide) (fun c6 => ?_) (fun c6 => absurd (show zs_ix (nI i) (zv_ns S) from hA0) c6)
  refine zz_iload_n hX dX6_bump_13 2 rfl rfl ?_
  refine zz_bipush (v := (-99)) hX dX6_bump_14 rfl ?_
  refine zz_bipush (v := nI 99) hX dX6_bump_16 rfl ?_
  refine zz_sI (x := zz_bi ((-99) ≤ u ∧ u ≤ nI 99)) hX zf_M_X6_91 (As := [.int u, .int (-99), .int (nI 99)]) (st := [.ref 1]) (m_isIn u (-99) (nI 99) sh mi mr) rfl rfl (by decide) (Nat.le_of_ble_eq_true rfl) (Nat.le_of_ble_eq_true rfl) (Nat.le_of_ble_eq_true rfl) dX6_bump_18 ?_
  refine zz_if_neB hX 28 dX6_bump_21 (by decide) (fun c21 => ?_) (fun c21 => absurd (show (-99) ≤ u ∧ u ≤ nI 99 from hB0) c21)
  refine zz_aload_n hX dX6_bump_28 0 rfl rfl ?_
  refine zz_getR (y := 115) hX zf_F_X6_46.r hM.1 rfl (zM_r15 hM).1 dX6_bump_29 ?_
  refine zz_iload_n hX dX6_bump_32 1 rfl rfl ?_
  refine zz_iald (x := nI (zv_sk S i)) hX (zM_r15 hM).2 i rfl (by omega) (by decide) (((zM_v15 hM (k := i) (by omega)).trans (s2 i hi).2.2.2.2.2.2.2.2.2.2.1)) dX6_bump_33 ?_
  refine zz_if_neN hX (by omega) 41 dX6_bump_34 (by decide) (fun c34 => ?_) (fun c34 => absurd c34 (by omega))
  refine zz_iconst (v := nI 0) hX dX6_bump_41 rfl ?_
  refine zz_vI (x := nI 0) hX zf_M_X6_108 (As := [.int (nI 0)]) (st := []) (m_fails0 sh mi mr hM.1) hM.1 rfl rfl rfl (by decide) (Nat.le_of_ble_eq_true rfl) (Nat.le_of_ble_eq_true rfl) (Nat.le_of_ble_eq_true rfl) dX6_bump_42 ?_
  refine zz_if_eq hX 50 dX6_bump_45 (by decide) (fun _ => ?_) (fun c => absurd c (by decide))
  refine zz_aload_n hX dX6_bump_50 0 rfl rfl ?_
  refine zz_getR (y := 116) hX zf_F_X6_49.r hM.1 rfl (zM_r16 hM).1 dX6_bump_51 ?_
  refine zz_iload_n hX dX6_bump_54 1 rfl rfl ?_
  refine zz_dup2 hX dX6_bump_55 rfl rfl ?_
  refine zz_iald (x := S 16 i) hX (zM_r16 hM).2 i rfl (by omega) (by decide) (((zm_u2l (by decide))).trans ((zM_v16 hM (k := i) (by omega)))) dX6_bump_56 ?_
  refine zz_iload_n hX dX6_bump_57 2 rfl rfl ?_
  refine zz_iadd (z := (S 16 i) + u) hX dX6_bump_58 rfl ?_
  refine zz_iast hX (zM_r16 hM).2 i rfl (by omega) (by decide) dX6_bump_59 ?_
  refine zz_aload_n hX dX6_bump_60 0 rfl rfl ?_
  refine zz_getR (y := 116) hX zf_F_X6_49.r hM.1 rfl (zM_r16 hM).1 dX6_bump_61 ?_
  refine zz_iload_n hX dX6_bump_64 1 rfl rfl ?_
  refine zz_iald (x := (S 16 i) + u) hX (zM_r16 hM).2 i rfl (by omega) (by decide) (zm_u2s) dX6_bump_65 ?_
  refine zz_iret hX hr rfl (Nat.le_of_ble_eq_true rfl) (Nat.le_of_ble_eq_true rfl) dX6_bump_66 ?_
  exact ⟨_, rfl, Or.inl ⟨hA0, hB0, hC0, (((zm_u2l (by decide))).trans (zm_u2s)), (by first | rfl | ((try rw [z_i]); (try rfl))), (by (try rw [z_i]); exact (zM_set (r := 16) (zM_th hM) (by decide)))⟩, (zr_mf (zr_mf zr_same.rfl' (by unfold zr_mout; omega)) (by unfold zr_mout; omega))⟩

set_option maxRecDepth 20000 in
theorem MP_ofJoint (S : zS) (sh : zm_Sh) (mi : zm_Mi) (mr : zm_Mr) (hW : zW S) (hM : zM S sh mi mr) (px jx x : Int32)  : zz_Con yX6_ofJoint (.code yX6_ofJoint cX6_ofJoint 4 (some Jvm.ClassFile.FieldType.int)) 6 0 0 [.ref 1, .int px, .int jx, .int x] sh mi mr (zq_m ((zs_ix px (zv_np S)) ∧ (zs_ix jx (zv_jn S (zn px)))) ((nI 0 ≤ x ∧ x ≤ nI 1)) (True) (nI 1) (nI 2) (nI 0) (if x = 0 then S 2 (6 * zn px + zn jx) else S 3 (6 * zn px + zn jx)) S S sh mi mr) zz_none := by
  refine zz_begin RX6 [(0, .ref 1), (1, .int px), (2, .int jx), (3, .int x)] (by decide) rfl rfl (Nat.le_of_ble_eq_true rfl) rfl ?_
  intro Γ D E ad hX hr hN hT
  obtain ⟨hWp, hWv, hWs, hWk, hWr, hWf⟩ := id hW
  obtain ⟨p0, p1, p2, p3, p4, p5⟩ := hWp
  obtain ⟨v0, v1, v2, v3, v4⟩ := hWv
  obtain ⟨s0, s1, s2, s3⟩ := hWs
  obtain ⟨f0, f1, f2, f3⟩ := hWf
  by_cases hA0 : zs_ix px (zv_np S)
  rotate_left
  · skip
    refine zz_aload_n hX dX6_ofJoint_0 0 rfl rfl ?_
    refine zz_aload_n hX dX6_ofJoint_1 0 rfl rfl ?_
    refine zz_iload_n hX dX6_ofJoint_2 1 rfl rfl ?_
    refine zz_iload_n hX dX6_ofJoint_3 2 rfl rfl ?_
    refine zz_vI (x := zz_bi (zs_ix px (zv_np S) ∧ zs_ix jx (zv_jn S (zn px)))) hX zf_M_X6_135 (As := [.int px, .int jx]) (st := [.ref 1]) (M_isJoint S sh mi mr hW hM px jx) hM.1 rfl rfl rfl (by decide) (Nat.le_of_ble_eq_true rfl) (Nat.le_of_ble_eq_true rfl) (Nat.le_of_ble_eq_true rfl) dX6_ofJoint_4 ?_
    refine zz_if_neB hX 14 dX6_ofJoint_7 (by decide) (fun c7 => absurd c7 (show ¬ (zs_ix px (zv_np S) ∧ zs_ix jx (zv_jn S (zn px))) from (fun h => hA0 (h.1)))) (fun c7 => ?_)
    refine zz_iconst (v := nI 1) hX dX6_ofJoint_10 rfl ?_
    refine zz_goto hX 28 dX6_ofJoint_11 (by decide) ?_
    refine zz_vI (x := nI 1) hX zf_M_X6_108 (As := [.int (nI 1)]) (st := []) (m_fails1 sh mi mr hM.1) hM.1 rfl rfl rfl (by decide) (Nat.le_of_ble_eq_true rfl) (Nat.le_of_ble_eq_true rfl) (Nat.le_of_ble_eq_true rfl) dX6_ofJoint_28 ?_
    refine zz_if_eq hX 36 dX6_ofJoint_31 (by decide) (fun c => absurd c (by decide)) (fun _ => ?_)
    refine zz_iconst (v := nI 0) hX dX6_ofJoint_34 rfl ?_
    refine zz_iret hX hr rfl (Nat.le_of_ble_eq_true rfl) (Nat.le_of_ble_eq_true rfl) dX6_ofJoint_35 ?_
    exact ⟨_, rfl, Or.inr (Or.inl ⟨(fun h => hA0 (h.1)), (zm_u2s), (zM_th hM)⟩), (zr_mf zr_same.rfl' (by unfold zr_mout; omega))⟩
  obtain ⟨p, hp, rfl⟩ := zs_ix_of hA0 (by omega)
  have z_p : zn (nI p) = p := nI_clamp (n := p) (by omega)
  have hjn9 := (p2 p hp).2.2
  by_cases hA1 : zs_ix jx (zv_jn S (zn (nI p)))
  rotate_left
  · skip
    have hA1n : ¬ (zs_ix jx (zv_jn S (p))) := by have q9 := hA1; (try rw [z_p] at q9); exact q9
    refine zz_aload_n hX dX6_ofJoint_0 0 rfl rfl ?_
    refine zz_aload_n hX dX6_ofJoint_1 0 rfl rfl ?_
    refine zz_iload_n hX dX6_ofJoint_2 1 rfl rfl ?_
    refine zz_iload_n hX dX6_ofJoint_3 2 rfl rfl ?_
    refine zz_vI (x := zz_bi (zs_ix (nI p) (zv_np S) ∧ zs_ix jx (zv_jn S (zn (nI p))))) hX zf_M_X6_135 (As := [.int (nI p), .int jx]) (st := [.ref 1]) (M_isJoint S sh mi mr hW hM (nI p) jx) hM.1 rfl rfl rfl (by decide) (Nat.le_of_ble_eq_true rfl) (Nat.le_of_ble_eq_true rfl) (Nat.le_of_ble_eq_true rfl) dX6_ofJoint_4 ?_
    refine zz_if_neB hX 14 dX6_ofJoint_7 (by decide) (fun c7 => absurd c7 (show ¬ (zs_ix (nI p) (zv_np S) ∧ zs_ix jx (zv_jn S (zn (nI p)))) from (fun h => hA1 (h.2)))) (fun c7 => ?_)
    refine zz_iconst (v := nI 1) hX dX6_ofJoint_10 rfl ?_
    refine zz_goto hX 28 dX6_ofJoint_11 (by decide) ?_
    refine zz_vI (x := nI 1) hX zf_M_X6_108 (As := [.int (nI 1)]) (st := []) (m_fails1 sh mi mr hM.1) hM.1 rfl rfl rfl (by decide) (Nat.le_of_ble_eq_true rfl) (Nat.le_of_ble_eq_true rfl) (Nat.le_of_ble_eq_true rfl) dX6_ofJoint_28 ?_
    refine zz_if_eq hX 36 dX6_ofJoint_31 (by decide) (fun c => absurd c (by decide)) (fun _ => ?_)
    refine zz_iconst (v := nI 0) hX dX6_ofJoint_34 rfl ?_
    refine zz_iret hX hr rfl (Nat.le_of_ble_eq_true rfl) (Nat.le_of_ble_eq_true rfl) dX6_ofJoint_35 ?_
    exact ⟨_, rfl, Or.inr (Or.inl ⟨(fun h => hA1 (h.2)), (zm_u2s), (zM_th hM)⟩), (zr_mf zr_same.rfl' (by unfold zr_mout; omega))⟩
  have hA1n : zs_ix jx (zv_jn S (p)) := by have q9 := hA1; (try rw [z_p] at q9); exact q9
  obtain ⟨j, hj, rfl⟩ := zs_ix_of hA1n (by omega)
  have z_j : zn (nI j) = j := nI_clamp (n := j) (by omega)
  by_cases hB0 : nI 0 ≤ x ∧ x ≤ nI 1
  rotate_left
  · skip
    refine zz_aload_n hX dX6_ofJoint_0 0 rfl rfl ?_
    refine zz_aload_n hX dX6_ofJoint_1 0 rfl rfl ?_
    refine zz_iload_n hX dX6_ofJoint_2 1 rfl rfl ?_
    refine zz_iload_n hX dX6_ofJoint_3 2 rfl rfl ?_
    refine zz_vI (x := zz_bi (zs_ix (nI p) (zv_np S) ∧ zs_ix (nI j) (zv_jn S (zn (nI p))))) hX zf_M_X6_135 (As := [.int (nI p), .int (nI j)]) (st := [.ref 1]) (M_isJoint S sh mi mr hW hM (nI p) (nI j)) hM.1 rfl rfl rfl (by decide) (Nat.le_of_ble_eq_true rfl) (Nat.le_of_ble_eq_true rfl) (Nat.le_of_ble_eq_true rfl) dX6_ofJoint_4 ?_
    refine zz_if_neB hX 14 dX6_ofJoint_7 (by decide) (fun c7 => ?_) (fun c7 => absurd (show zs_ix (nI p) (zv_np S) ∧ zs_ix (nI j) (zv_jn S (zn (nI p))) from ⟨hA0, hA1⟩) c7)
    refine zz_iload_n hX dX6_ofJoint_14 3 rfl rfl ?_
    refine zz_iconst (v := nI 0) hX dX6_ofJoint_15 rfl ?_
    refine zz_iconst (v := nI 1) hX dX6_ofJoint_16 rfl ?_
    refine zz_sI (x := zz_bi (nI 0 ≤ x ∧ x ≤ nI 1)) hX zf_M_X6_91 (As := [.int x, .int (nI 0), .int (nI 1)]) (st := [.ref 1]) (m_isIn x (nI 0) (nI 1) sh mi mr) rfl rfl (by decide) (Nat.le_of_ble_eq_true rfl) (Nat.le_of_ble_eq_true rfl) (Nat.le_of_ble_eq_true rfl) dX6_ofJoint_17 ?_
    refine zz_if_eqB hX 27 dX6_ofJoint_20 (by decide) (fun c20 => ?_) (fun c20 => absurd c20 (show ¬ (nI 0 ≤ x ∧ x ≤ nI 1) from hB0))
    refine zz_iconst (v := nI 2) hX dX6_ofJoint_27 rfl ?_
    refine zz_vI (x := nI 1) hX zf_M_X6_108 (As := [.int (nI 2)]) (st := []) (m_fails2 sh mi mr hM.1) hM.1 rfl rfl rfl (by decide) (Nat.le_of_ble_eq_true rfl) (Nat.le_of_ble_eq_true rfl) (Nat.le_of_ble_eq_true rfl) dX6_ofJoint_28 ?_
    refine zz_if_eq hX 36 dX6_ofJoint_31 (by decide) (fun c => absurd c (by decide)) (fun _ => ?_)
    refine zz_iconst (v := nI 0) hX dX6_ofJoint_34 rfl ?_
    refine zz_iret hX hr rfl (Nat.le_of_ble_eq_true rfl) (Nat.le_of_ble_eq_true rfl) dX6_ofJoint_35 ?_
    exact ⟨_, rfl, Or.inr (Or.inr (Or.inl ⟨⟨hA0, hA1⟩, (fun h => hB0 (h)), (zm_u2s), (zM_th hM)⟩)), (zr_mf zr_same.rfl' (by unfold zr_mout; omega))⟩
  refine zz_aload_n hX dX6_ofJoint_0 0 rfl rfl ?_
  refine zz_aload_n hX dX6_ofJoint_1 0 rfl rfl ?_
  refine zz_iload_n hX dX6_ofJoint_2 1 rfl rfl ?_
  refine zz_iload_n hX dX6_ofJoint_3 2 rfl rfl ?_
  refine zz_vI (x := zz_bi (zs_ix (nI p) (zv_np S) ∧ zs_ix (nI j) (zv_jn S (zn (nI p))))) hX zf_M_X6_135 (As := [.int (nI p), .int (nI j)]) (st := [.ref 1]) (M_isJoint S sh mi mr hW hM (nI p) (nI j)) hM.1 rfl rfl rfl (by decide) (Nat.le_of_ble_eq_true rfl) (Nat.le_of_ble_eq_true rfl) (Nat.le_of_ble_eq_true rfl) dX6_ofJoint_4 ?_
  refine zz_if_neB hX 14 dX6_ofJoint_7 (by decide) (fun c7 => ?_) (fun c7 => absurd (show zs_ix (nI p) (zv_np S) ∧ zs_ix (nI j) (zv_jn S (zn (nI p))) from ⟨hA0, hA1⟩) c7)
  refine zz_iload_n hX dX6_ofJoint_14 3 rfl rfl ?_
  refine zz_iconst (v := nI 0) hX dX6_ofJoint_15 rfl ?_
  refine zz_iconst (v := nI 1) hX dX6_ofJoint_16 rfl ?_
  refine zz_sI (x := zz_bi (nI 0 ≤ x ∧ x ≤ nI 1)) hX zf_M_X6_91 (As := [.int x, .int (nI 0), .int (nI 1)]) (st := [.ref 1]) (m_isIn x (nI 0) (nI 1) sh mi mr) rfl rfl (by decide) (Nat.le_of_ble_eq_true rfl) (Nat.le_of_ble_eq_true rfl) (Nat.le_of_ble_eq_true rfl) dX6_ofJoint_17 ?_
  refine zz_if_eqB hX 27 dX6_ofJoint_20 (by decide) (fun c20 => absurd (show nI 0 ≤ x ∧ x ≤ nI 1 from hB0) c20) (fun c20 => ?_)
  refine zz_iconst (v := nI 0) hX dX6_ofJoint_23 rfl ?_
  refine zz_goto hX 28 dX6_ofJoint_24 (by decide) ?_
  refine zz_vI (x := nI 0) hX zf_M_X6_108 (As := [.int (nI 0)]) (st := []) (m_fails0 sh mi mr hM.1) hM.1 rfl rfl rfl (by decide) (Nat.le_of_ble_eq_true rfl) (Nat.le_of_ble_eq_true rfl) (Nat.le_of_ble_eq_true rfl) dX6_ofJoint_28 ?_
  refine zz_if_eq hX 36 dX6_ofJoint_31 (by decide) (fun _ => ?_) (fun c => absurd c (by decide))
  refine zz_iload_n hX dX6_ofJoint_36 3 rfl rfl ?_
  refine zz_if_ne hX 54 dX6_ofJoint_37 (by decide) (fun c37 => ?_) (fun c37 => ?_)
  · skip
    refine zz_aload_n hX dX6_ofJoint_54 0 rfl rfl ?_
    refine zz_getR (y := 103) hX zf_F_X6_16.r hM.1 rfl (zM_r3 hM).1 dX6_ofJoint_55 ?_
    refine zz_bipush (v := nI 6) hX dX6_ofJoint_58 rfl ?_
    refine zz_iload_n hX dX6_ofJoint_60 1 rfl rfl ?_
    refine zz_imul (z := nI (6 * p)) hX dX6_ofJoint_61 (pk_mul _ _) ?_
    refine zz_iload_n hX dX6_ofJoint_62 2 rfl rfl ?_
    refine zz_iadd (z := nI (6 * p + j)) hX dX6_ofJoint_63 (nI_add _ _) ?_
    refine zz_iald (x := S 3 (6 * p + j)) hX (zM_r3 hM).2 (6 * p + j) rfl (by omega) (by decide) (((zm_u2l (by decide))).trans ((zM_v3 hM (k := 6 * p + j) (by omega)))) dX6_ofJoint_64 ?_
    refine zz_iret hX hr rfl (Nat.le_of_ble_eq_true rfl) (Nat.le_of_ble_eq_true rfl) dX6_ofJoint_65 ?_
    exact ⟨_, rfl, Or.inl ⟨⟨hA0, hA1⟩, hB0, trivial, (zm_u2s), (by rw [z_p, z_j, if_neg c37]), (by (try rw [z_p]); (try rw [z_j]); exact (zM_th hM))⟩, (zr_mf zr_same.rfl' (by unfold zr_mout; omega))⟩
  · skip
    refine zz_aload_n hX dX6_ofJoint_40 0 rfl rfl ?_
    refine zz_getR (y := 102) hX zf_F_X6_13.r hM.1 rfl (zM_r2 hM).1 dX6_ofJoint_41 ?_
    refine zz_bipush (v := nI 6) hX dX6_ofJoint_44 rfl ?_
    refine zz_iload_n hX dX6_ofJoint_46 1 rfl rfl ?_
    refine zz_imul (z := nI (6 * p)) hX dX6_ofJoint_47 (pk_mul _ _) ?_
    refine zz_iload_n hX dX6_ofJoint_48 2 rfl rfl ?_
    refine zz_iadd (z := nI (6 * p + j)) hX dX6_ofJoint_49 (nI_add _ _) ?_
    refine zz_iald (x := S 2 (6 * p + j)) hX (zM_r2 hM).2 (6 * p + j) rfl (by omega) (by decide) (((zm_u2l (by decide))).trans ((zM_v2 hM (k := 6 * p + j) (by omega)))) dX6_ofJoint_50 ?_
    refine zz_goto hX 65 dX6_ofJoint_51 (by decide) ?_
    refine zz_iret hX hr rfl (Nat.le_of_ble_eq_true rfl) (Nat.le_of_ble_eq_true rfl) dX6_ofJoint_65 ?_
    exact ⟨_, rfl, Or.inl ⟨⟨hA0, hA1⟩, hB0, trivial, (zm_u2s), (by rw [z_p, z_j, if_pos c37]), (by (try rw [z_p]); (try rw [z_j]); exact (zM_th hM))⟩, (zr_mf zr_same.rfl' (by unfold zr_mout; omega))⟩

set_option maxRecDepth 20000 in
theorem MP_ofFrame (S : zS) (sh : zm_Sh) (mi : zm_Mi) (mr : zm_Mr) (hW : zW S) (hM : zM S sh mi mr) (s fx x : Int32)  : zz_Con yX6_ofFrame (.code yX6_ofFrame cX6_ofFrame 5 (some Jvm.ClassFile.FieldType.int)) 6 0 0 [.ref 1, .int s, .int fx, .int x] sh mi mr (zq_m ((zs_ix s (zv_ns S)) ∧ (zs_ix fx (zv_sk S (zn s)))) ((nI 0 ≤ x ∧ x ≤ nI 3)) (True) (nI 1) (nI 2) (nI 0) (if x = nI 0 then S 23 (48 * zn s + zn fx) else if x = nI 1 then S 25 (48 * zn s + zn fx) else if x = nI 2 then S 26 (48 * zn s + zn fx) else S 27 (48 * zn s + zn fx)) S S sh mi mr) zz_none := by
  refine zz_begin RX6 [(0, .ref 1), (1, .int s), (2, .int fx), (3, .int x)] (by decide) rfl rfl (Nat.le_of_ble_eq_true rfl) rfl ?_
  intro Γ D E ad hX hr hN hT
  obtain ⟨hWp, hWv, hWs, hWk, hWr, hWf⟩ := id hW
  obtain ⟨p0, p1, p2, p3, p4, p5⟩ := hWp
  obtain ⟨v0, v1, v2, v3, v4⟩ := hWv
  obtain ⟨s0, s1, s2, s3⟩ := hWs
  obtain ⟨f0, f1, f2, f3⟩ := hWf
  by_cases hA0 : zs_ix s (zv_ns S)
  rotate_left
  · skip
    refine zz_aload_n hX dX6_ofFrame_0 0 rfl rfl ?_
    refine zz_aload_n hX dX6_ofFrame_1 0 rfl rfl ?_
    refine zz_iload_n hX dX6_ofFrame_2 1 rfl rfl ?_
    refine zz_iload_n hX dX6_ofFrame_3 2 rfl rfl ?_
    refine zz_vI (x := zz_bi (zs_ix s (zv_ns S) ∧ zs_ix fx (zv_sk S (zn s)))) hX zf_M_X6_193 (As := [.int s, .int fx]) (st := [.ref 1]) (M_isStruck S sh mi mr hW hM s fx) hM.1 rfl rfl rfl (by decide) (Nat.le_of_ble_eq_true rfl) (Nat.le_of_ble_eq_true rfl) (Nat.le_of_ble_eq_true rfl) dX6_ofFrame_4 ?_
    refine zz_if_neB hX 14 dX6_ofFrame_7 (by decide) (fun c7 => absurd c7 (show ¬ (zs_ix s (zv_ns S) ∧ zs_ix fx (zv_sk S (zn s))) from (fun h => hA0 (h.1)))) (fun c7 => ?_)
    refine zz_iconst (v := nI 1) hX dX6_ofFrame_10 rfl ?_
    refine zz_goto hX 28 dX6_ofFrame_11 (by decide) ?_
    refine zz_vI (x := nI 1) hX zf_M_X6_108 (As := [.int (nI 1)]) (st := []) (m_fails1 sh mi mr hM.1) hM.1 rfl rfl rfl (by decide) (Nat.le_of_ble_eq_true rfl) (Nat.le_of_ble_eq_true rfl) (Nat.le_of_ble_eq_true rfl) dX6_ofFrame_28 ?_
    refine zz_if_eq hX 36 dX6_ofFrame_31 (by decide) (fun c => absurd c (by decide)) (fun _ => ?_)
    refine zz_iconst (v := nI 0) hX dX6_ofFrame_34 rfl ?_
    refine zz_iret hX hr rfl (Nat.le_of_ble_eq_true rfl) (Nat.le_of_ble_eq_true rfl) dX6_ofFrame_35 ?_
    exact ⟨_, rfl, Or.inr (Or.inl ⟨(fun h => hA0 (h.1)), (zm_u2s), (zM_th hM)⟩), (zr_mf zr_same.rfl' (by unfold zr_mout; omega))⟩
  obtain ⟨i, hi, rfl⟩ := zs_ix_of hA0 (by omega)
  have z_i : zn (nI i) = i := nI_clamp (n := i) (by omega)
  obtain ⟨b1, b2, b3, b4, b5, b6, b7, b8, b9, b10, b11, b12, b13⟩ := s2 i hi
  have hjn9 := (p2 _ b2).2.2
  by_cases hA1 : zs_ix fx (zv_sk S (zn (nI i)))
  rotate_left
  · skip
    have hA1n : ¬ (zs_ix fx (zv_sk S (i))) := by have q9 := hA1; (try rw [z_i] at q9); exact q9
    refine zz_aload_n hX dX6_ofFrame_0 0 rfl rfl ?_
    refine zz_aload_n hX dX6_ofFrame_1 0 rfl rfl ?_
    refine zz_iload_n hX dX6_ofFrame_2 1 rfl rfl ?_
    refine zz_iload_n hX dX6_ofFrame_3 2 rfl rfl ?_
    refine zz_vI (x := zz_bi (zs_ix (nI i) (zv_ns S) ∧ zs_ix fx (zv_sk S (zn (nI i))))) hX zf_M_X6_193 (As := [.int (nI i), .int fx]) (st := [.ref 1]) (M_isStruck S sh mi mr hW hM (nI i) fx) hM.1 rfl rfl rfl (by decide) (Nat.le_of_ble_eq_true rfl) (Nat.le_of_ble_eq_true rfl) (Nat.le_of_ble_eq_true rfl) dX6_ofFrame_4 ?_
    refine zz_if_neB hX 14 dX6_ofFrame_7 (by decide) (fun c7 => absurd c7 (show ¬ (zs_ix (nI i) (zv_ns S) ∧ zs_ix fx (zv_sk S (zn (nI i)))) from (fun h => hA1 (h.2)))) (fun c7 => ?_)
    refine zz_iconst (v := nI 1) hX dX6_ofFrame_10 rfl ?_
    refine zz_goto hX 28 dX6_ofFrame_11 (by decide) ?_
    refine zz_vI (x := nI 1) hX zf_M_X6_108 (As := [.int (nI 1)]) (st := []) (m_fails1 sh mi mr hM.1) hM.1 rfl rfl rfl (by decide) (Nat.le_of_ble_eq_true rfl) (Nat.le_of_ble_eq_true rfl) (Nat.le_of_ble_eq_true rfl) dX6_ofFrame_28 ?_
    refine zz_if_eq hX 36 dX6_ofFrame_31 (by decide) (fun c => absurd c (by decide)) (fun _ => ?_)
    refine zz_iconst (v := nI 0) hX dX6_ofFrame_34 rfl ?_
    refine zz_iret hX hr rfl (Nat.le_of_ble_eq_true rfl) (Nat.le_of_ble_eq_true rfl) dX6_ofFrame_35 ?_
    exact ⟨_, rfl, Or.inr (Or.inl ⟨(fun h => hA1 (h.2)), (zm_u2s), (zM_th hM)⟩), (zr_mf zr_same.rfl' (by unfold zr_mout; omega))⟩
  have hA1n : zs_ix fx (zv_sk S (i)) := by have q9 := hA1; (try rw [z_i] at q9); exact q9
  obtain ⟨f, hf, rfl⟩ := zs_ix_of hA1n (by omega)
  have z_f : zn (nI f) = f := nI_clamp (n := f) (by omega)
  by_cases hB0 : nI 0 ≤ x ∧ x ≤ nI 3
  rotate_left
  · skip
    refine zz_aload_n hX dX6_ofFrame_0 0 rfl rfl ?_
    refine zz_aload_n hX dX6_ofFrame_1 0 rfl rfl ?_
    refine zz_iload_n hX dX6_ofFrame_2 1 rfl rfl ?_
    refine zz_iload_n hX dX6_ofFrame_3 2 rfl rfl ?_
    refine zz_vI (x := zz_bi (zs_ix (nI i) (zv_ns S) ∧ zs_ix (nI f) (zv_sk S (zn (nI i))))) hX zf_M_X6_193 (As := [.int (nI i), .int (nI f)]) (st := [.ref 1]) (M_isStruck S sh mi mr hW hM (nI i) (nI f)) hM.1 rfl rfl rfl (by decide) (Nat.le_of_ble_eq_true rfl) (Nat.le_of_ble_eq_true rfl) (Nat.le_of_ble_eq_true rfl) dX6_ofFrame_4 ?_
    refine zz_if_neB hX 14 dX6_ofFrame_7 (by decide) (fun c7 => ?_) (fun c7 => absurd (show zs_ix (nI i) (zv_ns S) ∧ zs_ix (nI f) (zv_sk S (zn (nI i))) from ⟨hA0, hA1⟩) c7)
    refine zz_iload_n hX dX6_ofFrame_14 3 rfl rfl ?_
    refine zz_iconst (v := nI 0) hX dX6_ofFrame_15 rfl ?_
    refine zz_iconst (v := nI 3) hX dX6_ofFrame_16 rfl ?_
    refine zz_sI (x := zz_bi (nI 0 ≤ x ∧ x ≤ nI 3)) hX zf_M_X6_91 (As := [.int x, .int (nI 0), .int (nI 3)]) (st := [.ref 1]) (m_isIn x (nI 0) (nI 3) sh mi mr) rfl rfl (by decide) (Nat.le_of_ble_eq_true rfl) (Nat.le_of_ble_eq_true rfl) (Nat.le_of_ble_eq_true rfl) dX6_ofFrame_17 ?_
    refine zz_if_eqB hX 27 dX6_ofFrame_20 (by decide) (fun c20 => ?_) (fun c20 => absurd c20 (show ¬ (nI 0 ≤ x ∧ x ≤ nI 3) from hB0))
    refine zz_iconst (v := nI 2) hX dX6_ofFrame_27 rfl ?_
    refine zz_vI (x := nI 1) hX zf_M_X6_108 (As := [.int (nI 2)]) (st := []) (m_fails2 sh mi mr hM.1) hM.1 rfl rfl rfl (by decide) (Nat.le_of_ble_eq_true rfl) (Nat.le_of_ble_eq_true rfl) (Nat.le_of_ble_eq_true rfl) dX6_ofFrame_28 ?_
    refine zz_if_eq hX 36 dX6_ofFrame_31 (by decide) (fun c => absurd c (by decide)) (fun _ => ?_)
    refine zz_iconst (v := nI 0) hX dX6_ofFrame_34 rfl ?_
    refine zz_iret hX hr rfl (Nat.le_of_ble_eq_true rfl) (Nat.le_of_ble_eq_true rfl) dX6_ofFrame_35 ?_
    exact ⟨_, rfl, Or.inr (Or.inr (Or.inl ⟨⟨hA0, hA1⟩, (fun h => hB0 (h)), (zm_u2s), (zM_th hM)⟩)), (zr_mf zr_same.rfl' (by unfold zr_mout; omega))⟩
  refine zz_aload_n hX dX6_ofFrame_0 0 rfl rfl ?_
  refine zz_aload_n hX dX6_ofFrame_1 0 rfl rfl ?_
  refine zz_iload_n hX dX6_ofFrame_2 1 rfl rfl ?_
  refine zz_iload_n hX dX6_ofFrame_3 2 rfl rfl ?_
  refine zz_vI (x := zz_bi (zs_ix (nI i) (zv_ns S) ∧ zs_ix (nI f) (zv_sk S (zn (nI i))))) hX zf_M_X6_193 (As := [.int (nI i), .int (nI f)]) (st := [.ref 1]) (M_isStruck S sh mi mr hW hM (nI i) (nI f)) hM.1 rfl rfl rfl (by decide) (Nat.le_of_ble_eq_true rfl) (Nat.le_of_ble_eq_true rfl) (Nat.le_of_ble_eq_true rfl) dX6_ofFrame_4 ?_
  refine zz_if_neB hX 14 dX6_ofFrame_7 (by decide) (fun c7 => ?_) (fun c7 => absurd (show zs_ix (nI i) (zv_ns S) ∧ zs_ix (nI f) (zv_sk S (zn (nI i))) from ⟨hA0, hA1⟩) c7)
  refine zz_iload_n hX dX6_ofFrame_14 3 rfl rfl ?_
  refine zz_iconst (v := nI 0) hX dX6_ofFrame_15 rfl ?_
  refine zz_iconst (v := nI 3) hX dX6_ofFrame_16 rfl ?_
  refine zz_sI (x := zz_bi (nI 0 ≤ x ∧ x ≤ nI 3)) hX zf_M_X6_91 (As := [.int x, .int (nI 0), .int (nI 3)]) (st := [.ref 1]) (m_isIn x (nI 0) (nI 3) sh mi mr) rfl rfl (by decide) (Nat.le_of_ble_eq_true rfl) (Nat.le_of_ble_eq_true rfl) (Nat.le_of_ble_eq_true rfl) dX6_ofFrame_17 ?_
  refine zz_if_eqB hX 27 dX6_ofFrame_20 (by decide) (fun c20 => absurd (show nI 0 ≤ x ∧ x ≤ nI 3 from hB0) c20) (fun c20 => ?_)
  refine zz_iconst (v := nI 0) hX dX6_ofFrame_23 rfl ?_
  refine zz_goto hX 28 dX6_ofFrame_24 (by decide) ?_
  refine zz_vI (x := nI 0) hX zf_M_X6_108 (As := [.int (nI 0)]) (st := []) (m_fails0 sh mi mr hM.1) hM.1 rfl rfl rfl (by decide) (Nat.le_of_ble_eq_true rfl) (Nat.le_of_ble_eq_true rfl) (Nat.le_of_ble_eq_true rfl) dX6_ofFrame_28 ?_
  refine zz_if_eq hX 36 dX6_ofFrame_31 (by decide) (fun _ => ?_) (fun c => absurd c (by decide))
  refine zz_bipush (v := nI 48) hX dX6_ofFrame_36 rfl ?_
  refine zz_iload_n hX dX6_ofFrame_38 1 rfl rfl ?_
  refine zz_imul (z := nI (48 * i)) hX dX6_ofFrame_39 (pk_mul _ _) ?_
  refine zz_iload_n hX dX6_ofFrame_40 2 rfl rfl ?_
  refine zz_iadd (z := nI (48 * i + f)) hX dX6_ofFrame_41 (nI_add _ _) ?_
  refine zz_istore (ls' := [(0, .ref 1), (1, .int (nI i)), (2, .int (nI f)), (3, .int x), (4, .int (nI (48 * i + f)))]) hX dX6_ofFrame_42 (Nat.le_of_ble_eq_true rfl) rfl ?_
  refine zz_iload_n hX dX6_ofFrame_44 3 rfl rfl ?_
  refine zz_if_ne hX 58 dX6_ofFrame_45 (by decide) (fun c45 => ?_) (fun c45 => ?_)
  · skip
    refine zz_iload_n hX dX6_ofFrame_58 3 rfl rfl ?_
    refine zz_iconst (v := nI 1) hX dX6_ofFrame_59 rfl ?_
    refine zz_icmp_ne hX 73 dX6_ofFrame_60 (by decide) (fun c60 => ?_) (fun c60 => ?_)
    · skip
      refine zz_iload_n hX dX6_ofFrame_73 3 rfl rfl ?_
      refine zz_iconst (v := nI 2) hX dX6_ofFrame_74 rfl ?_
      refine zz_icmp_ne hX 88 dX6_ofFrame_75 (by decide) (fun c75 => ?_) (fun c75 => ?_)
      · skip
        refine zz_aload_n hX dX6_ofFrame_88 0 rfl rfl ?_
        refine zz_getR (y := 127) hX zf_F_X6_77.r hM.1 rfl (zM_r27 hM).1 dX6_ofFrame_89 ?_
        refine zz_iload hX dX6_ofFrame_92 4 rfl ?_
        refine zz_iald (x := S 27 (48 * i + f)) hX (zM_r27 hM).2 (48 * i + f) rfl (by omega) (by decide) (((zm_u2l (by decide))).trans ((zM_v27 hM (k := 48 * i + f) (by omega)))) dX6_ofFrame_94 ?_
        refine zz_iret hX hr rfl (Nat.le_of_ble_eq_true rfl) (Nat.le_of_ble_eq_true rfl) dX6_ofFrame_95 ?_
        exact ⟨_, rfl, Or.inl ⟨⟨hA0, hA1⟩, hB0, trivial, (zm_u2s), (by rw [z_i, z_f, if_neg (show ¬ x = nI 0 from c45), if_neg c60, if_neg c75]), (by (try rw [z_i]); (try rw [z_f]); exact (zM_th hM))⟩, (zr_mf zr_same.rfl' (by unfold zr_mout; omega))⟩
      · skip
        refine zz_aload_n hX dX6_ofFrame_78 0 rfl rfl ?_
        refine zz_getR (y := 126) hX zf_F_X6_74.r hM.1 rfl (zM_r26 hM).1 dX6_ofFrame_79 ?_
        refine zz_iload hX dX6_ofFrame_82 4 rfl ?_
        refine zz_iald (x := S 26 (48 * i + f)) hX (zM_r26 hM).2 (48 * i + f) rfl (by omega) (by decide) (((zm_u2l (by decide))).trans ((zM_v26 hM (k := 48 * i + f) (by omega)))) dX6_ofFrame_84 ?_
        refine zz_goto hX 95 dX6_ofFrame_85 (by decide) ?_
        refine zz_iret hX hr rfl (Nat.le_of_ble_eq_true rfl) (Nat.le_of_ble_eq_true rfl) dX6_ofFrame_95 ?_
        exact ⟨_, rfl, Or.inl ⟨⟨hA0, hA1⟩, hB0, trivial, (zm_u2s), (by rw [z_i, z_f, if_neg (show ¬ x = nI 0 from c45), if_neg c60, if_pos c75]), (by (try rw [z_i]); (try rw [z_f]); exact (zM_th hM))⟩, (zr_mf zr_same.rfl' (by unfold zr_mout; omega))⟩
    · skip
      refine zz_aload_n hX dX6_ofFrame_63 0 rfl rfl ?_
      refine zz_getR (y := 125) hX zf_F_X6_71.r hM.1 rfl (zM_r25 hM).1 dX6_ofFrame_64 ?_
      refine zz_iload hX dX6_ofFrame_67 4 rfl ?_
      refine zz_iald (x := S 25 (48 * i + f)) hX (zM_r25 hM).2 (48 * i + f) rfl (by omega) (by decide) (((zm_u2l (by decide))).trans ((zM_v25 hM (k := 48 * i + f) (by omega)))) dX6_ofFrame_69 ?_
      refine zz_goto hX 95 dX6_ofFrame_70 (by decide) ?_
      refine zz_iret hX hr rfl (Nat.le_of_ble_eq_true rfl) (Nat.le_of_ble_eq_true rfl) dX6_ofFrame_95 ?_
      exact ⟨_, rfl, Or.inl ⟨⟨hA0, hA1⟩, hB0, trivial, (zm_u2s), (by rw [z_i, z_f, if_neg (show ¬ x = nI 0 from c45), if_pos c60]), (by (try rw [z_i]); (try rw [z_f]); exact (zM_th hM))⟩, (zr_mf zr_same.rfl' (by unfold zr_mout; omega))⟩
  · skip
    refine zz_aload_n hX dX6_ofFrame_48 0 rfl rfl ?_
    refine zz_getR (y := 123) hX zf_F_X6_65.r hM.1 rfl (zM_r23 hM).1 dX6_ofFrame_49 ?_
    refine zz_iload hX dX6_ofFrame_52 4 rfl ?_
    refine zz_iald (x := S 23 (48 * i + f)) hX (zM_r23 hM).2 (48 * i + f) rfl (by omega) (by decide) (((zm_u2l (by decide))).trans ((zM_v23 hM (k := 48 * i + f) (by omega)))) dX6_ofFrame_54 ?_
    refine zz_goto hX 95 dX6_ofFrame_55 (by decide) ?_
    refine zz_iret hX hr rfl (Nat.le_of_ble_eq_true rfl) (Nat.le_of_ble_eq_true rfl) dX6_ofFrame_95 ?_
    exact ⟨_, rfl, Or.inl ⟨⟨hA0, hA1⟩, hB0, trivial, (zm_u2s), (by rw [z_i, z_f, if_pos (show x = nI 0 from c45)]), (by (try rw [z_i]); (try rw [z_f]); exact (zM_th hM))⟩, (zr_mf zr_same.rfl' (by unfold zr_mout; omega))⟩

set_option maxRecDepth 20000 in
theorem MP_ill (S : zS) (sh : zm_Sh) (mi : zm_Mi) (mr : zm_Mr) (hW : zW S) (hM : zM S sh mi mr) (ax x : Int32) (hx : x = 0 ∨ x = 1) (hx : x = 0 ∨ x = 1) : zz_Con yX6_ill (.code yX6_ill cX6_ill 4 (some Jvm.ClassFile.FieldType.boolean)) 6 0 0 [.ref 1, .int ax, .int x] sh mi mr (zq_m ((zs_ix ax 5)) (True) (True) (nI 1) (nI 0) (nI 0) (S 17 (zn ax)) S (zm_u2 S 17 (zn ax) (x)) sh mi mr) zz_none := by
  refine zz_begin RX6 [(0, .ref 1), (1, .int ax), (2, .int x)] (by decide) rfl rfl (Nat.le_of_ble_eq_true rfl) rfl ?_
  intro Γ D E ad hX hr hN hT
  obtain ⟨hWp, hWv, hWs, hWk, hWr, hWf⟩ := id hW
  obtain ⟨p0, p1, p2, p3, p4, p5⟩ := hWp
  obtain ⟨v0, v1, v2, v3, v4⟩ := hWv
  obtain ⟨s0, s1, s2, s3⟩ := hWs
  obtain ⟨f0, f1, f2, f3⟩ := hWf
  by_cases hA0 : zs_ix ax 5
  rotate_left
  · skip
    refine zz_aload_n hX dX6_ill_0 0 rfl rfl ?_
    refine zz_iload_n hX dX6_ill_1 1 rfl rfl ?_
    refine zz_sI (x := zz_bi (zs_ix ax 5)) hX zf_M_X6_120 (As := [.int ax]) (st := [.ref 1]) (m_isAnimator ax sh mi mr) rfl rfl (by decide) (Nat.le_of_ble_eq_true rfl) (Nat.le_of_ble_eq_true rfl) (Nat.le_of_ble_eq_true rfl) dX6_ill_2 ?_
    refine zz_if_eqB hX 12 dX6_ill_5 (by decide) (fun c5 => ?_) (fun c5 => absurd c5 (show ¬ (zs_ix ax 5) from hA0))
    refine zz_iconst (v := nI 1) hX dX6_ill_12 rfl ?_
    refine zz_vI (x := nI 1) hX zf_M_X6_108 (As := [.int (nI 1)]) (st := []) (m_fails1 sh mi mr hM.1) hM.1 rfl rfl rfl (by decide) (Nat.le_of_ble_eq_true rfl) (Nat.le_of_ble_eq_true rfl) (Nat.le_of_ble_eq_true rfl) dX6_ill_13 ?_
    refine zz_if_eq hX 21 dX6_ill_16 (by decide) (fun c => absurd c (by decide)) (fun _ => ?_)
    refine zz_iconst (v := nI 0) hX dX6_ill_19 rfl ?_
    refine zz_iret hX hr (by first | rfl | (rcases f3.2 _ with h | h <;> rw [h] <;> rfl)) (Nat.le_of_ble_eq_true rfl) (Nat.le_of_ble_eq_true rfl) dX6_ill_20 ?_
    exact ⟨_, rfl, Or.inr (Or.inl ⟨(fun h => hA0 (h)), (zm_u2s), (zM_th hM)⟩), (zr_mf zr_same.rfl' (by unfold zr_mout; omega))⟩
  obtain ⟨a, ha, rfl⟩ := zs_ix_of hA0 (by omega)
  have z_a : zn (nI a) = a := nI_clamp (n := a) (by omega)
  refine zz_aload_n hX dX6_ill_0 0 rfl rfl ?_
  refine zz_iload_n hX dX6_ill_1 1 rfl rfl ?_
  refine zz_sI (x := zz_bi (zs_ix (nI a) 5)) hX zf_M_X6_120 (As := [.int (nI a)]) (st := [.ref 1]) (m_isAnimator (nI a) sh mi mr) rfl rfl (by decide) (Nat.le_of_ble_eq_true rfl) (Nat.le_of_ble_eq_true rfl) (Nat.le_of_ble_eq_true rfl) dX6_ill_2 ?_
  refine zz_if_eqB hX 12 dX6_ill_5 (by decide) (fun c5 => absurd (show zs_ix (nI a) 5 from hA0) c5) (fun c5 => ?_)
  refine zz_iconst (v := nI 0) hX dX6_ill_8 rfl ?_
  refine zz_goto hX 13 dX6_ill_9 (by decide) ?_
  refine zz_vI (x := nI 0) hX zf_M_X6_108 (As := [.int (nI 0)]) (st := []) (m_fails0 sh mi mr hM.1) hM.1 rfl rfl rfl (by decide) (Nat.le_of_ble_eq_true rfl) (Nat.le_of_ble_eq_true rfl) (Nat.le_of_ble_eq_true rfl) dX6_ill_13 ?_
  refine zz_if_eq hX 21 dX6_ill_16 (by decide) (fun _ => ?_) (fun c => absurd c (by decide))
  refine zz_aload_n hX dX6_ill_21 0 rfl rfl ?_
  refine zz_getR (y := 117) hX zf_F_X6_52.r hM.1 rfl (zM_r17 hM).1 dX6_ill_22 ?_
  refine zz_iload_n hX dX6_ill_25 1 rfl rfl ?_
  refine zz_bald (x := S 17 a) hX (zM_r17 hM).2 a rfl (by omega) (by decide) (((zm_u2l (by decide))).trans ((zM_v17 hM (k := a) (by omega)))) dX6_ill_26 ?_
  refine zz_istore_n (ls' := [(0, .ref 1), (1, .int (nI a)), (2, .int x), (3, .int (S 17 a))]) hX dX6_ill_27 rfl (Nat.le_of_ble_eq_true rfl) rfl ?_
  refine zz_aload_n hX dX6_ill_28 0 rfl rfl ?_
  refine zz_getR (y := 117) hX zf_F_X6_52.r hM.1 rfl (zM_r17 hM).1 dX6_ill_29 ?_
  refine zz_iload_n hX dX6_ill_32 1 rfl rfl ?_
  refine zz_iload_n hX dX6_ill_33 2 rfl rfl ?_
  refine zz_bast hX (zM_r17 hM).2 a rfl (by omega) (by decide) (by rcases hx with h | h <;> rw [h] <;> rfl) dX6_ill_34 ?_
  refine zz_iload_n hX dX6_ill_35 3 rfl rfl ?_
  refine zz_iret hX hr (by first | rfl | (rcases f3.2 _ with h | h <;> rw [h] <;> rfl)) (Nat.le_of_ble_eq_true rfl) (Nat.le_of_ble_eq_true rfl) dX6_ill_36 ?_
  exact ⟨_, rfl, Or.inl ⟨hA0, trivial, trivial, (((zm_u2l (by decide))).trans (zm_u2s)), (by first | rfl | ((try rw [z_a]); (try rfl))), (by (try rw [z_a]); exact (zM_set (r := 17) (zM_th hM) (by decide)))⟩, (zr_mf (zr_mf zr_same.rfl' (by unfold zr_mout; omega)) (by unfold zr_mout; omega))⟩

set_option maxRecDepth 20000 in
theorem MP_lamp (S : zS) (sh : zm_Sh) (mi : zm_Mi) (mr : zm_Mr) (hW : zW S) (hM : zM S sh mi mr)   : zz_Con yX6_lamp (.code yX6_lamp cX6_lamp 2 (some Jvm.ClassFile.FieldType.int)) 6 0 0 [.ref 1] sh mi mr (zq_m (True) (True) (True) (nI 0) (nI 0) (nI 0) (zp_light S) S (zm_u2 S 21 (0) (0)) sh mi mr) zz_none := by
  refine zz_begin RX6 [(0, .ref 1)] (by decide) rfl rfl (Nat.le_of_ble_eq_true rfl) rfl ?_
  intro Γ D E ad hX hr hN hT
  obtain ⟨hWp, hWv, hWs, hWk, hWr, hWf⟩ := id hW
  obtain ⟨p0, p1, p2, p3, p4, p5⟩ := hWp
  obtain ⟨v0, v1, v2, v3, v4⟩ := hWv
  obtain ⟨s0, s1, s2, s3⟩ := hWs
  obtain ⟨f0, f1, f2, f3⟩ := hWf
  refine zz_aload_n hX dX6_lamp_0 0 rfl rfl ?_
  refine zz_iconst (v := nI 0) hX dX6_lamp_1 rfl ?_
  refine zz_putI hX zf_F_X6_84 hM.1 rfl rfl rfl dX6_lamp_2 ?_
  refine zz_aload_n hX dX6_lamp_5 0 rfl rfl ?_
  refine zz_vI (x := zp_light S) hX zf_M_X6_186 (As := []) (st := []) (M_lightNow S sh (zm_u2 mi 1 30 (nI 0)) mr hW (zM_th hM)) hM.1 rfl rfl rfl (by decide) (Nat.le_of_ble_eq_true rfl) (Nat.le_of_ble_eq_true rfl) (Nat.le_of_ble_eq_true rfl) dX6_lamp_6 ?_
  refine zz_istore_n (ls' := [(0, .ref 1), (1, .int (zp_light S))]) hX dX6_lamp_9 rfl (Nat.le_of_ble_eq_true rfl) rfl ?_
  refine zz_aload_n hX dX6_lamp_10 0 rfl rfl ?_
  refine zz_iconst (v := nI 0) hX dX6_lamp_11 rfl ?_
  refine zz_putI hX zf_F_X6_154 hM.1 rfl rfl rfl dX6_lamp_12 ?_
  refine zz_iload_n hX dX6_lamp_15 1 rfl rfl ?_
  refine zz_iret hX hr rfl (Nat.le_of_ble_eq_true rfl) (Nat.le_of_ble_eq_true rfl) dX6_lamp_16 ?_
  exact ⟨_, rfl, Or.inl ⟨trivial, trivial, trivial, (((zm_u2k (by decide))).trans (zm_u2s)), (by first | rfl | ((try rfl))), (by exact (zM_sc (r := 21) (zM_th hM) (by decide)))⟩, (zr_mf (zr_mf zr_same.rfl' (by unfold zr_mout; omega)) (by unfold zr_mout; omega))⟩

set_option maxRecDepth 20000 in
theorem MP_light (S : zS) (sh : zm_Sh) (mi : zm_Mi) (mr : zm_Mr) (hW : zW S) (hM : zM S sh mi mr)   : zz_Con yX6_light (.code yX6_light cX6_light 1 (some Jvm.ClassFile.FieldType.int)) 6 0 0 [.ref 1] sh mi mr (zq_m (True) (True) (True) (nI 0) (nI 0) (nI 0) (zp_light S) S S sh mi mr) zz_none := by
  refine zz_begin RX6 [(0, .ref 1)] (by decide) rfl rfl (Nat.le_of_ble_eq_true rfl) rfl ?_
  intro Γ D E ad hX hr hN hT
  obtain ⟨hWp, hWv, hWs, hWk, hWr, hWf⟩ := id hW
  obtain ⟨p0, p1, p2, p3, p4, p5⟩ := hWp
  obtain ⟨v0, v1, v2, v3, v4⟩ := hWv
  obtain ⟨s0, s1, s2, s3⟩ := hWs
  obtain ⟨f0, f1, f2, f3⟩ := hWf
  refine zz_aload_n hX dX6_light_0 0 rfl rfl ?_
  refine zz_iconst (v := nI 0) hX dX6_light_1 rfl ?_
  refine zz_putI hX zf_F_X6_84 hM.1 rfl rfl rfl dX6_light_2 ?_
  refine zz_aload_n hX dX6_light_5 0 rfl rfl ?_
  refine zz_vI (x := zp_light S) hX zf_M_X6_186 (As := []) (st := []) (M_lightNow S sh (zm_u2 mi 1 30 (nI 0)) mr hW (zM_th hM)) hM.1 rfl rfl rfl (by decide) (Nat.le_of_ble_eq_true rfl) (Nat.le_of_ble_eq_true rfl) (Nat.le_of_ble_eq_true rfl) dX6_light_6 ?_
  refine zz_iret hX hr rfl (Nat.le_of_ble_eq_true rfl) (Nat.le_of_ble_eq_true rfl) dX6_light_9 ?_
  exact ⟨_, rfl, Or.inl ⟨trivial, trivial, trivial, (zm_u2s), (by first | rfl | ((try rfl))), (by exact (zM_th hM))⟩, (zr_mf zr_same.rfl' (by unfold zr_mout; omega))⟩

set_option maxRecDepth 20000 in
theorem MP_mouths (S : zS) (sh : zm_Sh) (mi : zm_Mi) (mr : zm_Mr) (hW : zW S) (hM : zM S sh mi mr) (px s n : Int32)  : zz_Con yX6_mouths (.code yX6_mouths cX6_mouths 5 (some Jvm.ClassFile.FieldType.int)) 6 0 0 [.ref 1, .int px, .int s, .int n] sh mi mr (zq_m ((zs_ix px (zv_np S))) ((nI 0 ≤ s ∧ s ≤ nI 9) ∧ (nI 1 ≤ n ∧ n ≤ nI 9)) ((S 4 (10 * zn px + zn s) + n ≤ nI 9)) (nI 1) (nI 2) (nI 3) (S 4 (10 * zn px + zn s) + n) S (zm_u2 S 4 (10 * zn px + zn s) (S 4 (10 * zn px + zn s) + n)) sh mi mr) zz_none := by
  refine zz_begin RX6 [(0, .ref 1), (1, .int px), (2, .int s), (3, .int n)] (by decide) rfl rfl (Nat.le_of_ble_eq_true rfl) rfl ?_
  intro Γ D E ad hX hr hN hT
  obtain ⟨hWp, hWv, hWs, hWk, hWr, hWf⟩ := id hW
  obtain ⟨p0, p1, p2, p3, p4, p5⟩ := hWp
  obtain ⟨v0, v1, v2, v3, v4⟩ := hWv
  obtain ⟨s0, s1, s2, s3⟩ := hWs
  obtain ⟨f0, f1, f2, f3⟩ := hWf
  by_cases hA0 : zs_ix px (zv_np S)
  rotate_left
  · skip
    refine zz_iload_n hX dX6_mouths_0 2 rfl rfl ?_
    refine zz_sI (x := zz_bi (nI 0 ≤ s ∧ s ≤ nI 9)) hX zf_M_X6_111 (As := [.int s]) (st := []) (m_isSound s sh mi mr) rfl rfl (by decide) (Nat.le_of_ble_eq_true rfl) (Nat.le_of_ble_eq_true rfl) (Nat.le_of_ble_eq_true rfl) dX6_mouths_1 ?_
    refine zz_if_eqB hX 21 dX6_mouths_4 (by decide) (fun c4 => ?_) (fun c4 => ?_)
    · skip
      refine zz_iconst (v := nI 0) hX dX6_mouths_21 rfl ?_
      refine zz_istore (ls' := [(0, .ref 1), (1, .int px), (2, .int s), (3, .int n), (4, .int (nI 0))]) hX dX6_mouths_22 (Nat.le_of_ble_eq_true rfl) rfl ?_
      refine zz_aload_n hX dX6_mouths_24 0 rfl rfl ?_
      refine zz_aload_n hX dX6_mouths_25 0 rfl rfl ?_
      refine zz_iload_n hX dX6_mouths_26 1 rfl rfl ?_
      refine zz_vI (x := zz_bi (zs_ix px (zv_np S))) hX zf_M_X6_95 (As := [.int px]) (st := [.ref 1]) (M_isPuppet S sh mi mr hW hM px) hM.1 rfl rfl rfl (by decide) (Nat.le_of_ble_eq_true rfl) (Nat.le_of_ble_eq_true rfl) (Nat.le_of_ble_eq_true rfl) dX6_mouths_27 ?_
      refine zz_if_neB hX 37 dX6_mouths_30 (by decide) (fun c30 => absurd c30 (show ¬ (zs_ix px (zv_np S)) from hA0)) (fun c30 => ?_)
      refine zz_iconst (v := nI 1) hX dX6_mouths_33 rfl ?_
      refine zz_goto hX 69 dX6_mouths_34 (by decide) ?_
      refine zz_vI (x := nI 1) hX zf_M_X6_108 (As := [.int (nI 1)]) (st := []) (m_fails1 sh mi mr hM.1) hM.1 rfl rfl rfl (by decide) (Nat.le_of_ble_eq_true rfl) (Nat.le_of_ble_eq_true rfl) (Nat.le_of_ble_eq_true rfl) dX6_mouths_69 ?_
      refine zz_if_eq hX 77 dX6_mouths_72 (by decide) (fun c => absurd c (by decide)) (fun _ => ?_)
      refine zz_iconst (v := nI 0) hX dX6_mouths_75 rfl ?_
      refine zz_iret hX hr rfl (Nat.le_of_ble_eq_true rfl) (Nat.le_of_ble_eq_true rfl) dX6_mouths_76 ?_
      exact ⟨_, rfl, Or.inr (Or.inl ⟨(fun h => hA0 (h)), (zm_u2s), (zM_th hM)⟩), (zr_mf zr_same.rfl' (by unfold zr_mout; omega))⟩
    · skip
      refine zz_iload_n hX dX6_mouths_7 3 rfl rfl ?_
      refine zz_iconst (v := nI 1) hX dX6_mouths_8 rfl ?_
      refine zz_bipush (v := nI 9) hX dX6_mouths_9 rfl ?_
      refine zz_sI (x := zz_bi (nI 1 ≤ n ∧ n ≤ nI 9)) hX zf_M_X6_91 (As := [.int n, .int (nI 1), .int (nI 9)]) (st := []) (m_isIn n (nI 1) (nI 9) sh mi mr) rfl rfl (by decide) (Nat.le_of_ble_eq_true rfl) (Nat.le_of_ble_eq_true rfl) (Nat.le_of_ble_eq_true rfl) dX6_mouths_11 ?_
      refine zz_if_eqB hX 21 dX6_mouths_14 (by decide) (fun c14 => ?_) (fun c14 => ?_)
      · skip
        refine zz_iconst (v := nI 0) hX dX6_mouths_21 rfl ?_
        refine zz_istore (ls' := [(0, .ref 1), (1, .int px), (2, .int s), (3, .int n), (4, .int (nI 0))]) hX dX6_mouths_22 (Nat.le_of_ble_eq_true rfl) rfl ?_
        refine zz_aload_n hX dX6_mouths_24 0 rfl rfl ?_
        refine zz_aload_n hX dX6_mouths_25 0 rfl rfl ?_
        refine zz_iload_n hX dX6_mouths_26 1 rfl rfl ?_
        refine zz_vI (x := zz_bi (zs_ix px (zv_np S))) hX zf_M_X6_95 (As := [.int px]) (st := [.ref 1]) (M_isPuppet S sh mi mr hW hM px) hM.1 rfl rfl rfl (by decide) (Nat.le_of_ble_eq_true rfl) (Nat.le_of_ble_eq_true rfl) (Nat.le_of_ble_eq_true rfl) dX6_mouths_27 ?_
        refine zz_if_neB hX 37 dX6_mouths_30 (by decide) (fun c30 => absurd c30 (show ¬ (zs_ix px (zv_np S)) from hA0)) (fun c30 => ?_)
        refine zz_iconst (v := nI 1) hX dX6_mouths_33 rfl ?_
        refine zz_goto hX 69 dX6_mouths_34 (by decide) ?_
        refine zz_vI (x := nI 1) hX zf_M_X6_108 (As := [.int (nI 1)]) (st := []) (m_fails1 sh mi mr hM.1) hM.1 rfl rfl rfl (by decide) (Nat.le_of_ble_eq_true rfl) (Nat.le_of_ble_eq_true rfl) (Nat.le_of_ble_eq_true rfl) dX6_mouths_69 ?_
        refine zz_if_eq hX 77 dX6_mouths_72 (by decide) (fun c => absurd c (by decide)) (fun _ => ?_)
        refine zz_iconst (v := nI 0) hX dX6_mouths_75 rfl ?_
        refine zz_iret hX hr rfl (Nat.le_of_ble_eq_true rfl) (Nat.le_of_ble_eq_true rfl) dX6_mouths_76 ?_
        exact ⟨_, rfl, Or.inr (Or.inl ⟨(fun h => hA0 (h)), (zm_u2s), (zM_th hM)⟩), (zr_mf zr_same.rfl' (by unfold zr_mout; omega))⟩
      · skip
        refine zz_iconst (v := nI 1) hX dX6_mouths_17 rfl ?_
        refine zz_goto hX 22 dX6_mouths_18 (by decide) ?_
        refine zz_istore (ls' := [(0, .ref 1), (1, .int px), (2, .int s), (3, .int n), (4, .int (nI 1))]) hX dX6_mouths_22 (Nat.le_of_ble_eq_true rfl) rfl ?_
        refine zz_aload_n hX dX6_mouths_24 0 rfl rfl ?_
        refine zz_aload_n hX dX6_mouths_25 0 rfl rfl ?_
        refine zz_iload_n hX dX6_mouths_26 1 rfl rfl ?_
        refine zz_vI (x := zz_bi (zs_ix px (zv_np S))) hX zf_M_X6_95 (As := [.int px]) (st := [.ref 1]) (M_isPuppet S sh mi mr hW hM px) hM.1 rfl rfl rfl (by decide) (Nat.le_of_ble_eq_true rfl) (Nat.le_of_ble_eq_true rfl) (Nat.le_of_ble_eq_true rfl) dX6_mouths_27 ?_
        refine zz_if_neB hX 37 dX6_mouths_30 (by decide) (fun c30 => absurd c30 (show ¬ (zs_ix px (zv_np S)) from hA0)) (fun c30 => ?_)
        refine zz_iconst (v := nI 1) hX dX6_mouths_33 rfl ?_
        refine zz_goto hX 69 dX6_mouths_34 (by decide) ?_
        refine zz_vI (x := nI 1) hX zf_M_X6_108 (As := [.int (nI 1)]) (st := []) (m_fails1 sh mi mr hM.1) hM.1 rfl rfl rfl (by decide) (Nat.le_of_ble_eq_true rfl) (Nat.le_of_ble_eq_true rfl) (Nat.le_of_ble_eq_true rfl) dX6_mouths_69 ?_
        refine zz_if_eq hX 77 dX6_mouths_72 (by decide) (fun c => absurd c (by decide)) (fun _ => ?_)
        refine zz_iconst (v := nI 0) hX dX6_mouths_75 rfl ?_
        refine zz_iret hX hr rfl (Nat.le_of_ble_eq_true rfl) (Nat.le_of_ble_eq_true rfl) dX6_mouths_76 ?_
        exact ⟨_, rfl, Or.inr (Or.inl ⟨(fun h => hA0 (h)), (zm_u2s), (zM_th hM)⟩), (zr_mf zr_same.rfl' (by unfold zr_mout; omega))⟩
  obtain ⟨p, hp, rfl⟩ := zs_ix_of hA0 (by omega)
  have z_p : zn (nI p) = p := nI_clamp (n := p) (by omega)
  have hjn9 := (p2 p hp).2.2
  by_cases hB0 : nI 0 ≤ s ∧ s ≤ nI 9
  rotate_left
  · skip
    refine zz_iload_n hX dX6_mouths_0 2 rfl rfl ?_
    refine zz_sI (x := zz_bi (nI 0 ≤ s ∧ s ≤ nI 9)) hX zf_M_X6_111 (As := [.int s]) (st := []) (m_isSound s sh mi mr) rfl rfl (by decide) (Nat.le_of_ble_eq_true rfl) (Nat.le_of_ble_eq_true rfl) (Nat.le_of_ble_eq_true rfl) dX6_mouths_1 ?_
    refine zz_if_eqB hX 21 dX6_mouths_4 (by decide) (fun c4 => ?_) (fun c4 => absurd c4 (show ¬ (nI 0 ≤ s ∧ s ≤ nI 9) from hB0))
    refine zz_iconst (v := nI 0) hX dX6_mouths_21 rfl ?_
    refine zz_istore (ls' := [(0, .ref 1), (1, .int (nI p)), (2, .int s), (3, .int n), (4, .int (nI 0))]) hX dX6_mouths_22 (Nat.le_of_ble_eq_true rfl) rfl ?_
    refine zz_aload_n hX dX6_mouths_24 0 rfl rfl ?_
    refine zz_aload_n hX dX6_mouths_25 0 rfl rfl ?_
    refine zz_iload_n hX dX6_mouths_26 1 rfl rfl ?_
    refine zz_vI (x := zz_bi (zs_ix (nI p) (zv_np S))) hX zf_M_X6_95 (As := [.int (nI p)]) (st := [.ref 1]) (M_isPuppet S sh mi mr hW hM (nI p)) hM.1 rfl rfl rfl (by decide) (Nat.le_of_ble_eq_true rfl) (Nat.le_of_ble_eq_true rfl) (Nat.le_of_ble_eq_true rfl) dX6_mouths_27 ?_
    refine zz_if_neB hX 37 dX6_mouths_30 (by decide) (fun c30 => ?_) (fun c30 => absurd (show zs_ix (nI p) (zv_np S) from hA0) c30)
    refine zz_iload hX dX6_mouths_37 4 rfl ?_
    refine zz_if_ne hX 46 dX6_mouths_39 (by decide) (fun c => absurd c (by decide)) (fun _ => ?_)
    refine zz_iconst (v := nI 2) hX dX6_mouths_42 rfl ?_
    refine zz_goto hX 69 dX6_mouths_43 (by decide) ?_
    refine zz_vI (x := nI 1) hX zf_M_X6_108 (As := [.int (nI 2)]) (st := []) (m_fails2 sh mi mr hM.1) hM.1 rfl rfl rfl (by decide) (Nat.le_of_ble_eq_true rfl) (Nat.le_of_ble_eq_true rfl) (Nat.le_of_ble_eq_true rfl) dX6_mouths_69 ?_
    refine zz_if_eq hX 77 dX6_mouths_72 (by decide) (fun c => absurd c (by decide)) (fun _ => ?_)
    refine zz_iconst (v := nI 0) hX dX6_mouths_75 rfl ?_
    refine zz_iret hX hr rfl (Nat.le_of_ble_eq_true rfl) (Nat.le_of_ble_eq_true rfl) dX6_mouths_76 ?_
    exact ⟨_, rfl, Or.inr (Or.inr (Or.inl ⟨hA0, (fun h => hB0 (h.1)), (zm_u2s), (zM_th hM)⟩)), (zr_mf zr_same.rfl' (by unfold zr_mout; omega))⟩
  obtain ⟨s9, hs9, rfl⟩ := zs_rng1 (a := 0) (n := 9) hB0 (by decide) (by decide)
  have z_s9 : zn (nI s9) = s9 := nI_clamp (n := s9) (by omega)
  by_cases hB1 : nI 1 ≤ n ∧ n ≤ nI 9
  rotate_left
  · skip
    refine zz_iload_n hX dX6_mouths_0 2 rfl rfl ?_
    refine zz_sI (x := zz_bi (nI 0 ≤ nI s9 ∧ nI s9 ≤ nI 9)) hX zf_M_X6_111 (As := [.int (nI s9)]) (st := []) (m_isSound (nI s9) sh mi mr) rfl rfl (by decide) (Nat.le_of_ble_eq_true rfl) (Nat.le_of_ble_eq_true rfl) (Nat.le_of_ble_eq_true rfl) dX6_mouths_1 ?_
    refine zz_if_eqB hX 21 dX6_mouths_4 (by decide) (fun c4 => absurd (show nI 0 ≤ nI s9 ∧ nI s9 ≤ nI 9 from hB0) c4) (fun c4 => ?_)
    refine zz_iload_n hX dX6_mouths_7 3 rfl rfl ?_
    refine zz_iconst (v := nI 1) hX dX6_mouths_8 rfl ?_
    refine zz_bipush (v := nI 9) hX dX6_mouths_9 rfl ?_
    refine zz_sI (x := zz_bi (nI 1 ≤ n ∧ n ≤ nI 9)) hX zf_M_X6_91 (As := [.int n, .int (nI 1), .int (nI 9)]) (st := []) (m_isIn n (nI 1) (nI 9) sh mi mr) rfl rfl (by decide) (Nat.le_of_ble_eq_true rfl) (Nat.le_of_ble_eq_true rfl) (Nat.le_of_ble_eq_true rfl) dX6_mouths_11 ?_
    refine zz_if_eqB hX 21 dX6_mouths_14 (by decide) (fun c14 => ?_) (fun c14 => absurd c14 (show ¬ (nI 1 ≤ n ∧ n ≤ nI 9) from hB1))
    refine zz_iconst (v := nI 0) hX dX6_mouths_21 rfl ?_
    refine zz_istore (ls' := [(0, .ref 1), (1, .int (nI p)), (2, .int (nI s9)), (3, .int n), (4, .int (nI 0))]) hX dX6_mouths_22 (Nat.le_of_ble_eq_true rfl) rfl ?_
    refine zz_aload_n hX dX6_mouths_24 0 rfl rfl ?_
    refine zz_aload_n hX dX6_mouths_25 0 rfl rfl ?_
    refine zz_iload_n hX dX6_mouths_26 1 rfl rfl ?_
    refine zz_vI (x := zz_bi (zs_ix (nI p) (zv_np S))) hX zf_M_X6_95 (As := [.int (nI p)]) (st := [.ref 1]) (M_isPuppet S sh mi mr hW hM (nI p)) hM.1 rfl rfl rfl (by decide) (Nat.le_of_ble_eq_true rfl) (Nat.le_of_ble_eq_true rfl) (Nat.le_of_ble_eq_true rfl) dX6_mouths_27 ?_
    refine zz_if_neB hX 37 dX6_mouths_30 (by decide) (fun c30 => ?_) (fun c30 => absurd (show zs_ix (nI p) (zv_np S) from hA0) c30)
    refine zz_iload hX dX6_mouths_37 4 rfl ?_
    refine zz_if_ne hX 46 dX6_mouths_39 (by decide) (fun c => absurd c (by decide)) (fun _ => ?_)
    refine zz_iconst (v := nI 2) hX dX6_mouths_42 rfl ?_
    refine zz_goto hX 69 dX6_mouths_43 (by decide) ?_
    refine zz_vI (x := nI 1) hX zf_M_X6_108 (As := [.int (nI 2)]) (st := []) (m_fails2 sh mi mr hM.1) hM.1 rfl rfl rfl (by decide) (Nat.le_of_ble_eq_true rfl) (Nat.le_of_ble_eq_true rfl) (Nat.le_of_ble_eq_true rfl) dX6_mouths_69 ?_
    refine zz_if_eq hX 77 dX6_mouths_72 (by decide) (fun c => absurd c (by decide)) (fun _ => ?_)
    refine zz_iconst (v := nI 0) hX dX6_mouths_75 rfl ?_
    refine zz_iret hX hr rfl (Nat.le_of_ble_eq_true rfl) (Nat.le_of_ble_eq_true rfl) dX6_mouths_76 ?_
    exact ⟨_, rfl, Or.inr (Or.inr (Or.inl ⟨hA0, (fun h => hB1 (h.2)), (zm_u2s), (zM_th hM)⟩)), (zr_mf zr_same.rfl' (by unfold zr_mout; omega))⟩
  by_cases hC0 : S 4 (10 * zn (nI p) + zn (nI s9)) + n ≤ nI 9
  rotate_left
  · skip
    have hC0n : ¬ (S 4 (10 * p + s9) + n ≤ nI 9) := by have q9 := hC0; (try rw [z_p] at q9); (try rw [z_s9] at q9); exact q9
    refine zz_iload_n hX dX6_mouths_0 2 rfl rfl ?_
    refine zz_sI (x := zz_bi (nI 0 ≤ nI s9 ∧ nI s9 ≤ nI 9)) hX zf_M_X6_111 (As := [.int (nI s9)]) (st := []) (m_isSound (nI s9) sh mi mr) rfl rfl (by decide) (Nat.le_of_ble_eq_true rfl) (Nat.le_of_ble_eq_true rfl) (Nat.le_of_ble_eq_true rfl) dX6_mouths_1 ?_
    refine zz_if_eqB hX 21 dX6_mouths_4 (by decide) (fun c4 => absurd (show nI 0 ≤ nI s9 ∧ nI s9 ≤ nI 9 from hB0) c4) (fun c4 => ?_)
    refine zz_iload_n hX dX6_mouths_7 3 rfl rfl ?_
    refine zz_iconst (v := nI 1) hX dX6_mouths_8 rfl ?_
    refine zz_bipush (v := nI 9) hX dX6_mouths_9 rfl ?_
    refine zz_sI (x := zz_bi (nI 1 ≤ n ∧ n ≤ nI 9)) hX zf_M_X6_91 (As := [.int n, .int (nI 1), .int (nI 9)]) (st := []) (m_isIn n (nI 1) (nI 9) sh mi mr) rfl rfl (by decide) (Nat.le_of_ble_eq_true rfl) (Nat.le_of_ble_eq_true rfl) (Nat.le_of_ble_eq_true rfl) dX6_mouths_11 ?_
    refine zz_if_eqB hX 21 dX6_mouths_14 (by decide) (fun c14 => absurd (show nI 1 ≤ n ∧ n ≤ nI 9 from hB1) c14) (fun c14 => ?_)
    refine zz_iconst (v := nI 1) hX dX6_mouths_17 rfl ?_
    refine zz_goto hX 22 dX6_mouths_18 (by decide) ?_
    refine zz_istore (ls' := [(0, .ref 1), (1, .int (nI p)), (2, .int (nI s9)), (3, .int n), (4, .int (nI 1))]) hX dX6_mouths_22 (Nat.le_of_ble_eq_true rfl) rfl ?_
    refine zz_aload_n hX dX6_mouths_24 0 rfl rfl ?_
    refine zz_aload_n hX dX6_mouths_25 0 rfl rfl ?_
    refine zz_iload_n hX dX6_mouths_26 1 rfl rfl ?_
    refine zz_vI (x := zz_bi (zs_ix (nI p) (zv_np S))) hX zf_M_X6_95 (As := [.int (nI p)]) (st := [.ref 1]) (M_isPuppet S sh mi mr hW hM (nI p)) hM.1 rfl rfl rfl (by decide) (Nat.le_of_ble_eq_true rfl) (Nat.le_of_ble_eq_true rfl) (Nat.le_of_ble_eq_true rfl) dX6_mouths_27 ?_
    refine zz_if_neB hX 37 dX6_mouths_30 (by decide) (fun c30 => ?_) (fun c30 => absurd (show zs_ix (nI p) (zv_np S) from hA0) c30)
    refine zz_iload hX dX6_mouths_37 4 rfl ?_
    refine zz_if_ne hX 46 dX6_mouths_39 (by decide) (fun _ => ?_) (fun c => absurd c (by decide))
    refine zz_aload_n hX dX6_mouths_46 0 rfl rfl ?_
    refine zz_getR (y := 104) hX zf_F_X6_19.r hM.1 rfl (zM_r4 hM).1 dX6_mouths_47 ?_
    refine zz_bipush (v := nI 10) hX dX6_mouths_50 rfl ?_
    refine zz_iload_n hX dX6_mouths_52 1 rfl rfl ?_
    refine zz_imul (z := nI (10 * p)) hX dX6_mouths_53 (pk_mul _ _) ?_
    refine zz_iload_n hX dX6_mouths_54 2 rfl rfl ?_
    refine zz_iadd (z := nI (10 * p + s9)) hX dX6_mouths_55 (nI_add _ _) ?_
    refine zz_iald (x := S 4 (10 * p + s9)) hX (zM_r4 hM).2 (10 * p + s9) rfl (by omega) (by decide) ((zM_v4 hM (k := 10 * p + s9) (by omega))) dX6_mouths_56 ?_
    refine zz_iload_n hX dX6_mouths_57 3 rfl rfl ?_
    refine zz_iadd (z := (S 4 (10 * p + s9)) + n) hX dX6_mouths_58 rfl ?_
    refine zz_bipush (v := nI 9) hX dX6_mouths_59 rfl ?_
    refine zz_icmp_le hX 68 dX6_mouths_61 (by decide) (fun c61 => absurd c61 hC0n) (fun c61 => ?_)
    refine zz_iconst (v := nI 3) hX dX6_mouths_64 rfl ?_
    refine zz_goto hX 69 dX6_mouths_65 (by decide) ?_
    refine zz_vI (x := nI 1) hX zf_M_X6_108 (As := [.int (nI 3)]) (st := []) (m_fails3 sh mi mr hM.1) hM.1 rfl rfl rfl (by decide) (Nat.le_of_ble_eq_true rfl) (Nat.le_of_ble_eq_true rfl) (Nat.le_of_ble_eq_true rfl) dX6_mouths_69 ?_
    refine zz_if_eq hX 77 dX6_mouths_72 (by decide) (fun c => absurd c (by decide)) (fun _ => ?_)
    refine zz_iconst (v := nI 0) hX dX6_mouths_75 rfl ?_
    refine zz_iret hX hr rfl (Nat.le_of_ble_eq_true rfl) (Nat.le_of_ble_eq_true rfl) dX6_mouths_76 ?_
    exact ⟨_, rfl, Or.inr (Or.inr (Or.inr ⟨hA0, ⟨hB0, hB1⟩, (fun h => hC0 (h)), (zm_u2s), (zM_th hM)⟩)), (zr_mf zr_same.rfl' (by unfold zr_mout; omega))⟩
  have hC0n : S 4 (10 * p + s9) + n ≤ nI 9 := by have q9 := hC0; (try rw [z_p] at q9); (try rw [z_s9] at q9); exact q9
  refine zz_iload_n hX dX6_mouths_0 2 rfl rfl ?_
  refine zz_sI (x := zz_bi (nI 0 ≤ nI s9 ∧ nI s9 ≤ nI 9)) hX zf_M_X6_111 (As := [.int (nI s9)]) (st := []) (m_isSound (nI s9) sh mi mr) rfl rfl (by decide) (Nat.le_of_ble_eq_true rfl) (Nat.le_of_ble_eq_true rfl) (Nat.le_of_ble_eq_true rfl) dX6_mouths_1 ?_
  refine zz_if_eqB hX 21 dX6_mouths_4 (by decide) (fun c4 => absurd (show nI 0 ≤ nI s9 ∧ nI s9 ≤ nI 9 from hB0) c4) (fun c4 => ?_)
  refine zz_iload_n hX dX6_mouths_7 3 rfl rfl ?_
  refine zz_iconst (v := nI 1) hX dX6_mouths_8 rfl ?_
  refine zz_bipush (v := nI 9) hX dX6_mouths_9 rfl ?_
  refine zz_sI (x := zz_bi (nI 1 ≤ n ∧ n ≤ nI 9)) hX zf_M_X6_91 (As := [.int n, .int (nI 1), .int (nI 9)]) (st := []) (m_isIn n (nI 1) (nI 9) sh mi mr) rfl rfl (by decide) (Nat.le_of_ble_eq_true rfl) (Nat.le_of_ble_eq_true rfl) (Nat.le_of_ble_eq_true rfl) dX6_mouths_11 ?_
  refine zz_if_eqB hX 21 dX6_mouths_14 (by decide) (fun c14 => absurd (show nI 1 ≤ n ∧ n ≤ nI 9 from hB1) c14) (fun c14 => ?_)
  refine zz_iconst (v := nI 1) hX dX6_mouths_17 rfl ?_
  refine zz_goto hX 22 dX6_mouths_18 (by decide) ?_
  refine zz_istore (ls' := [(0, .ref 1), (1, .int (nI p)), (2, .int (nI s9)), (3, .int n), (4, .int (nI 1))]) hX dX6_mouths_22 (Nat.le_of_ble_eq_true rfl) rfl ?_
  refine zz_aload_n hX dX6_mouths_24 0 rfl rfl ?_
  refine zz_aload_n hX dX6_mouths_25 0 rfl rfl ?_
  refine zz_iload_n hX dX6_mouths_26 1 rfl rfl ?_
  refine zz_vI (x := zz_bi (zs_ix (nI p) (zv_np S))) hX zf_M_X6_95 (As := [.int (nI p)]) (st := [.ref 1]) (M_isPuppet S sh mi mr hW hM (nI p)) hM.1 rfl rfl rfl (by decide) (Nat.le_of_ble_eq_true rfl) (Nat.le_of_ble_eq_true rfl) (Nat.le_of_ble_eq_true rfl) dX6_mouths_27 ?_
  refine zz_if_neB hX 37 dX6_mouths_30 (by decide) (fun c30 => ?_) (fun c30 => absurd (show zs_ix (nI p) (zv_np S) from hA0) c30)
  refine zz_iload hX dX6_mouths_37 4 rfl ?_
  refine zz_if_ne hX 46 dX6_mouths_39 (by decide) (fun _ => ?_) (fun c => absurd c (by decide))
  refine zz_aload_n hX dX6_mouths_46 0 rfl rfl ?_
  refine zz_getR (y := 104) hX zf_F_X6_19.r hM.1 rfl (zM_r4 hM).1 dX6_mouths_47 ?_
  refine zz_bipush (v := nI 10) hX dX6_mouths_50 rfl ?_
  refine zz_iload_n hX dX6_mouths_52 1 rfl rfl ?_
  refine zz_imul (z := nI (10 * p)) hX dX6_mouths_53 (pk_mul _ _) ?_
  refine zz_iload_n hX dX6_mouths_54 2 rfl rfl ?_
  refine zz_iadd (z := nI (10 * p + s9)) hX dX6_mouths_55 (nI_add _ _) ?_
  refine zz_iald (x := S 4 (10 * p + s9)) hX (zM_r4 hM).2 (10 * p + s9) rfl (by omega) (by decide) ((zM_v4 hM (k := 10 * p + s9) (by omega))) dX6_mouths_56 ?_
  refine zz_iload_n hX dX6_mouths_57 3 rfl rfl ?_
  refine zz_iadd (z := (S 4 (10 * p + s9)) + n) hX dX6_mouths_58 rfl ?_
  refine zz_bipush (v := nI 9) hX dX6_mouths_59 rfl ?_
  refine zz_icmp_le hX 68 dX6_mouths_61 (by decide) (fun c61 => ?_) (fun c61 => absurd hC0n c61)
  refine zz_iconst (v := nI 0) hX dX6_mouths_68 rfl ?_
  refine zz_vI (x := nI 0) hX zf_M_X6_108 (As := [.int (nI 0)]) (st := []) (m_fails0 sh mi mr hM.1) hM.1 rfl rfl rfl (by decide) (Nat.le_of_ble_eq_true rfl) (Nat.le_of_ble_eq_true rfl) (Nat.le_of_ble_eq_true rfl) dX6_mouths_69 ?_
  refine zz_if_eq hX 77 dX6_mouths_72 (by decide) (fun _ => ?_) (fun c => absurd c (by decide))
  refine zz_aload_n hX dX6_mouths_77 0 rfl rfl ?_
  refine zz_getR (y := 104) hX zf_F_X6_19.r hM.1 rfl (zM_r4 hM).1 dX6_mouths_78 ?_
  refine zz_bipush (v := nI 10) hX dX6_mouths_81 rfl ?_
  refine zz_iload_n hX dX6_mouths_83 1 rfl rfl ?_
  refine zz_imul (z := nI (10 * p)) hX dX6_mouths_84 (pk_mul _ _) ?_
  refine zz_iload_n hX dX6_mouths_85 2 rfl rfl ?_
  refine zz_iadd (z := nI (10 * p + s9)) hX dX6_mouths_86 (nI_add _ _) ?_
  refine zz_dup2 hX dX6_mouths_87 rfl rfl ?_
  refine zz_iald (x := S 4 (10 * p + s9)) hX (zM_r4 hM).2 (10 * p + s9) rfl (by omega) (by decide) (((zm_u2l (by decide))).trans ((zM_v4 hM (k := 10 * p + s9) (by omega)))) dX6_mouths_88 ?_
  refine zz_iload_n hX dX6_mouths_89 3 rfl rfl ?_
  refine zz_iadd (z := (S 4 (10 * p + s9)) + n) hX dX6_mouths_90 rfl ?_
  refine zz_iast hX (zM_r4 hM).2 (10 * p + s9) rfl (by omega) (by decide) dX6_mouths_91 ?_
  refine zz_aload_n hX dX6_mouths_92 0 rfl rfl ?_
  refine zz_getR (y := 104) hX zf_F_X6_19.r hM.1 rfl (zM_r4 hM).1 dX6_mouths_93 ?_
  refine zz_bipush (v := nI 10) hX dX6_mouths_96 rfl ?_
  refine zz_iload_n hX dX6_mouths_98 1 rfl rfl ?_
  refine zz_imul (z := nI (10 * p)) hX dX6_mouths_99 (pk_mul _ _) ?_
  refine zz_iload_n hX dX6_mouths_100 2 rfl rfl ?_
  refine zz_iadd (z := nI (10 * p + s9)) hX dX6_mouths_101 (nI_add _ _) ?_
  refine zz_iald (x := (S 4 (10 * p + s9)) + n) hX (zM_r4 hM).2 (10 * p + s9) rfl (by omega) (by decide) (zm_u2s) dX6_mouths_102 ?_
  refine zz_iret hX hr rfl (Nat.le_of_ble_eq_true rfl) (Nat.le_of_ble_eq_true rfl) dX6_mouths_103 ?_
  exact ⟨_, rfl, Or.inl ⟨hA0, ⟨hB0, hB1⟩, hC0, (((zm_u2l (by decide))).trans (zm_u2s)), (by first | rfl | ((try rw [z_p]); (try rw [z_s9]); (try rfl))), (by (try rw [z_p]); (try rw [z_s9]); exact (zM_set (r := 4) (zM_th hM) (by decide)))⟩, (zr_mf (zr_mf zr_same.rfl' (by unfold zr_mout; omega)) (by unfold zr_mout; omega))⟩

set_option maxRecDepth 20000 in
theorem MP_voice (S : zS) (sh : zm_Sh) (mi : zm_Mi) (mr : zm_Mr) (hW : zW S) (hM : zM S sh mi mr)   : zz_Con yX6_voice (.code yX6_voice cX6_voice 1 (some Jvm.ClassFile.FieldType.int)) 6 0 0 [.ref 1] sh mi mr (zq_m (True) (True) ((¬ zv_sc S (zv_nv S) = 0) ∧ (zv_nv S < 6)) (nI 0) (nI 0) (nI 1) (nI (zv_nv S)) S (zt_voice S) sh mi mr) zz_none := by
  refine zz_begin RX6 [(0, .ref 1)] (by decide) rfl rfl (Nat.le_of_ble_eq_true rfl) rfl ?_
  intro Γ D E ad hX hr hN hT
  obtain ⟨hWp, hWv, hWs, hWk, hWr, hWf⟩ := id hW
  obtain ⟨p0, p1, p2, p3, p4, p5⟩ := hWp
  obtain ⟨v0, v1, v2, v3, v4⟩ := hWv
  obtain ⟨s0, s1, s2, s3⟩ := hWs
  obtain ⟨f0, f1, f2, f3⟩ := hWf
  have vv := v2 (zv_nv S) (by omega)
  by_cases hC0 : ¬ zv_sc S (zv_nv S) = 0
  rotate_left
  · skip
    refine zz_aload_n hX dX6_voice_0 0 rfl rfl ?_
    refine zz_aload_n hX dX6_voice_1 0 rfl rfl ?_
    refine zz_getR (y := 106) hX zf_F_X6_22.r hM.1 rfl (zM_r6 hM).1 dX6_voice_2 ?_
    refine zz_aload_n hX dX6_voice_5 0 rfl rfl ?_
    refine zz_getI (x := nI (zv_nv S)) hX zf_F_X6_99.r hM.1 rfl (((zM_c5 hM).trans v0)) dX6_voice_6 ?_
    refine zz_iald (x := nI (zv_sc S (zv_nv S))) hX (zM_r6 hM).2 (zv_nv S) rfl (by omega) (by decide) (((zM_v6 hM (k := zv_nv S) (by omega)).trans vv.1)) dX6_voice_9 ?_
    refine zz_if_eqN hX (by omega) 22 dX6_voice_10 (by decide) (fun c10 => ?_) (fun c10 => absurd c10 (by omega))
    refine zz_iconst (v := nI 1) hX dX6_voice_22 rfl ?_
    refine zz_goto hX 27 dX6_voice_23 (by decide) ?_
    refine zz_vI (x := nI 1) hX zf_M_X6_108 (As := [.int (nI 1)]) (st := []) (m_fails1 sh mi mr hM.1) hM.1 rfl rfl rfl (by decide) (Nat.le_of_ble_eq_true rfl) (Nat.le_of_ble_eq_true rfl) (Nat.le_of_ble_eq_true rfl) dX6_voice_27 ?_
    refine zz_if_eq hX 35 dX6_voice_30 (by decide) (fun c => absurd c (by decide)) (fun _ => ?_)
    refine zz_iconst (v := nI 0) hX dX6_voice_33 rfl ?_
    refine zz_iret hX hr rfl (Nat.le_of_ble_eq_true rfl) (Nat.le_of_ble_eq_true rfl) dX6_voice_34 ?_
    exact ⟨_, rfl, Or.inr (Or.inr (Or.inr ⟨trivial, trivial, (fun h => hC0 (h.1)), (zm_u2s), (zM_th hM)⟩)), (zr_mf zr_same.rfl' (by unfold zr_mout; omega))⟩
  by_cases hC1 : zv_nv S < 6
  rotate_left
  · skip
    refine zz_aload_n hX dX6_voice_0 0 rfl rfl ?_
    refine zz_aload_n hX dX6_voice_1 0 rfl rfl ?_
    refine zz_getR (y := 106) hX zf_F_X6_22.r hM.1 rfl (zM_r6 hM).1 dX6_voice_2 ?_
    refine zz_aload_n hX dX6_voice_5 0 rfl rfl ?_
    refine zz_getI (x := nI (zv_nv S)) hX zf_F_X6_99.r hM.1 rfl (((zM_c5 hM).trans v0)) dX6_voice_6 ?_
    refine zz_iald (x := nI (zv_sc S (zv_nv S))) hX (zM_r6 hM).2 (zv_nv S) rfl (by omega) (by decide) (((zM_v6 hM (k := zv_nv S) (by omega)).trans vv.1)) dX6_voice_9 ?_
    refine zz_if_eqN hX (by omega) 22 dX6_voice_10 (by decide) (fun c10 => absurd c10 (by omega)) (fun c10 => ?_)
    refine zz_aload_n hX dX6_voice_13 0 rfl rfl ?_
    refine zz_getI (x := nI (zv_nv S)) hX zf_F_X6_99.r hM.1 rfl (((zM_c5 hM).trans v0)) dX6_voice_14 ?_
    refine zz_bipush (v := nI 6) hX dX6_voice_17 rfl ?_
    refine zz_icmp_neN hX (by omega) (by decide) 26 dX6_voice_19 (by decide) (fun c19 => absurd c19 (by omega)) (fun c19 => ?_)
    refine zz_iconst (v := nI 1) hX dX6_voice_22 rfl ?_
    refine zz_goto hX 27 dX6_voice_23 (by decide) ?_
    refine zz_vI (x := nI 1) hX zf_M_X6_108 (As := [.int (nI 1)]) (st := []) (m_fails1 sh mi mr hM.1) hM.1 rfl rfl rfl (by decide) (Nat.le_of_ble_eq_true rfl) (Nat.le_of_ble_eq_true rfl) (Nat.le_of_ble_eq_true rfl) dX6_voice_27 ?_
    refine zz_if_eq hX 35 dX6_voice_30 (by decide) (fun c => absurd c (by decide)) (fun _ => ?_)
    refine zz_iconst (v := nI 0) hX dX6_voice_33 rfl ?_
    refine zz_iret hX hr rfl (Nat.le_of_ble_eq_true rfl) (Nat.le_of_ble_eq_true rfl) dX6_voice_34 ?_
    exact ⟨_, rfl, Or.inr (Or.inr (Or.inr ⟨trivial, trivial, (fun h => hC1 (h.2)), (zm_u2s), (zM_th hM)⟩)), (zr_mf zr_same.rfl' (by unfold zr_mout; omega))⟩
  refine zz_aload_n hX dX6_voice_0 0 rfl rfl ?_
  refine zz_aload_n hX dX6_voice_1 0 rfl rfl ?_
  refine zz_getR (y := 106) hX zf_F_X6_22.r hM.1 rfl (zM_r6 hM).1 dX6_voice_2 ?_
  refine zz_aload_n hX dX6_voice_5 0 rfl rfl ?_
  refine zz_getI (x := nI (zv_nv S)) hX zf_F_X6_99.r hM.1 rfl (((zM_c5 hM).trans v0)) dX6_voice_6 ?_
  refine zz_iald (x := nI (zv_sc S (zv_nv S))) hX (zM_r6 hM).2 (zv_nv S) rfl (by omega) (by decide) (((zM_v6 hM (k := zv_nv S) (by omega)).trans vv.1)) dX6_voice_9 ?_
  refine zz_if_eqN hX (by omega) 22 dX6_voice_10 (by decide) (fun c10 => absurd c10 (by omega)) (fun c10 => ?_)
  refine zz_aload_n hX dX6_voice_13 0 rfl rfl ?_
  refine zz_getI (x := nI (zv_nv S)) hX zf_F_X6_99.r hM.1 rfl (((zM_c5 hM).trans v0)) dX6_voice_14 ?_
  refine zz_bipush (v := nI 6) hX dX6_voice_17 rfl ?_
  refine zz_icmp_neN hX (by omega) (by decide) 26 dX6_voice_19 (by decide) (fun c19 => ?_) (fun c19 => absurd c19 (by omega))
  refine zz_iconst (v := nI 0) hX dX6_voice_26 rfl ?_
  refine zz_vI (x := nI 0) hX zf_M_X6_108 (As := [.int (nI 0)]) (st := []) (m_fails0 sh mi mr hM.1) hM.1 rfl rfl rfl (by decide) (Nat.le_of_ble_eq_true rfl) (Nat.le_of_ble_eq_true rfl) (Nat.le_of_ble_eq_true rfl) dX6_voice_27 ?_
  refine zz_if_eq hX 35 dX6_voice_30 (by decide) (fun _ => ?_) (fun c => absurd c (by decide))
  refine zz_aload_n hX dX6_voice_35 0 rfl rfl ?_
  refine zz_dup hX dX6_voice_36 rfl ?_
  refine zz_getI (x := nI (zv_nv S)) hX zf_F_X6_99.r hM.1 rfl (((zm_u2k (by decide))).trans (((zM_c5 hM).trans v0))) dX6_voice_37 ?_
  refine zz_iconst (v := nI 1) hX dX6_voice_40 rfl ?_
  refine zz_iadd (z := nI ((zv_nv S) + 1)) hX dX6_voice_41 (nI_add _ _) ?_
  refine zz_putI hX zf_F_X6_99 hM.1 rfl rfl rfl dX6_voice_42 ?_
  refine zz_aload_n hX dX6_voice_45 0 rfl rfl ?_
  refine zz_getI (x := nI ((zv_nv S) + 1)) hX zf_F_X6_99.r hM.1 rfl (zm_u2s) dX6_voice_46 ?_
  refine zz_iconst (v := nI 1) hX dX6_voice_49 rfl ?_
  refine zz_isub (z := nI (((zv_nv S) + 1) - 1)) hX dX6_voice_50 (pk_sub (by omega)) ?_
  refine zz_iret hX hr rfl (Nat.le_of_ble_eq_true rfl) (Nat.le_of_ble_eq_true rfl) dX6_voice_51 ?_
  exact ⟨_, rfl, Or.inl ⟨trivial, trivial, ⟨hC0, hC1⟩, (((zm_u2k (by decide))).trans (zm_u2s)), rfl, (by exact (zM_sc (r := 5) (zM_th hM) (by decide)))⟩, (zr_mf (zr_mf zr_same.rfl' (by unfold zr_mout; omega)) (by unfold zr_mout; omega))⟩

set_option maxRecDepth 20000 in
theorem MP_sound (S : zS) (sh : zm_Sh) (mi : zm_Mi) (mr : zm_Mr) (hW : zW S) (hM : zM S sh mi mr) (x f : Int32)  : zz_Con yX6_sound (.code yX6_sound cX6_sound 4 (some Jvm.ClassFile.FieldType.int)) 6 0 0 [.ref 1, .int x, .int f] sh mi mr (zq_m (True) ((nI 0 ≤ x ∧ x ≤ nI 9) ∧ (nI 1 ≤ f ∧ f ≤ nI 24)) ((zv_sc S (zv_nv S) < 12)) (nI 0) (nI 1) (nI 2) (nI (zv_sc S (zv_nv S) + 1)) S (zt_sound S x f) sh mi mr) zz_none := by
  refine zz_begin RX6 [(0, .ref 1), (1, .int x), (2, .int f)] (by decide) rfl rfl (Nat.le_of_ble_eq_true rfl) rfl ?_
  intro Γ D E ad hX hr hN hT
  obtain ⟨hWp, hWv, hWs, hWk, hWr, hWf⟩ := id hW
  obtain ⟨p0, p1, p2, p3, p4, p5⟩ := hWp
  obtain ⟨v0, v1, v2, v3, v4⟩ := hWv
  obtain ⟨s0, s1, s2, s3⟩ := hWs
  obtain ⟨f0, f1, f2, f3⟩ := hWf
  have vv := v2 (zv_nv S) (by omega)
  by_cases hB0 : nI 0 ≤ x ∧ x ≤ nI 9
  rotate_left
  · skip
    refine zz_iload_n hX dX6_sound_0 1 rfl rfl ?_
    refine zz_sI (x := zz_bi (nI 0 ≤ x ∧ x ≤ nI 9)) hX zf_M_X6_111 (As := [.int x]) (st := []) (m_isSound x sh mi mr) rfl rfl (by decide) (Nat.le_of_ble_eq_true rfl) (Nat.le_of_ble_eq_true rfl) (Nat.le_of_ble_eq_true rfl) dX6_sound_1 ?_
    refine zz_if_eqB hX 21 dX6_sound_4 (by decide) (fun c4 => ?_) (fun c4 => absurd c4 (show ¬ (nI 0 ≤ x ∧ x ≤ nI 9) from hB0))
    refine zz_iconst (v := nI 0) hX dX6_sound_21 rfl ?_
    refine zz_istore_n (ls' := [(0, .ref 1), (1, .int x), (2, .int f), (3, .int (nI 0))]) hX dX6_sound_22 rfl (Nat.le_of_ble_eq_true rfl) rfl ?_
    refine zz_aload_n hX dX6_sound_23 0 rfl rfl ?_
    refine zz_iload_n hX dX6_sound_24 3 rfl rfl ?_
    refine zz_if_ne hX 32 dX6_sound_25 (by decide) (fun c => absurd c (by decide)) (fun _ => ?_)
    refine zz_iconst (v := nI 1) hX dX6_sound_28 rfl ?_
    refine zz_goto hX 51 dX6_sound_29 (by decide) ?_
    refine zz_vI (x := nI 1) hX zf_M_X6_108 (As := [.int (nI 1)]) (st := []) (m_fails1 sh mi mr hM.1) hM.1 rfl rfl rfl (by decide) (Nat.le_of_ble_eq_true rfl) (Nat.le_of_ble_eq_true rfl) (Nat.le_of_ble_eq_true rfl) dX6_sound_51 ?_
    refine zz_if_eq hX 59 dX6_sound_54 (by decide) (fun c => absurd c (by decide)) (fun _ => ?_)
    refine zz_iconst (v := nI 0) hX dX6_sound_57 rfl ?_
    refine zz_iret hX hr rfl (Nat.le_of_ble_eq_true rfl) (Nat.le_of_ble_eq_true rfl) dX6_sound_58 ?_
    exact ⟨_, rfl, Or.inr (Or.inr (Or.inl ⟨trivial, (fun h => hB0 (h.1)), (zm_u2s), (zM_th hM)⟩)), (zr_mf zr_same.rfl' (by unfold zr_mout; omega))⟩
  by_cases hB1 : nI 1 ≤ f ∧ f ≤ nI 24
  rotate_left
  · skip
    refine zz_iload_n hX dX6_sound_0 1 rfl rfl ?_
    refine zz_sI (x := zz_bi (nI 0 ≤ x ∧ x ≤ nI 9)) hX zf_M_X6_111 (As := [.int x]) (st := []) (m_isSound x sh mi mr) rfl rfl (by decide) (Nat.le_of_ble_eq_true rfl) (Nat.le_of_ble_eq_true rfl) (Nat.le_of_ble_eq_true rfl) dX6_sound_1 ?_
    refine zz_if_eqB hX 21 dX6_sound_4 (by decide) (fun c4 => absurd (show nI 0 ≤ x ∧ x ≤ nI 9 from hB0) c4) (fun c4 => ?_)
    refine zz_iload_n hX dX6_sound_7 2 rfl rfl ?_
    refine zz_iconst (v := nI 1) hX dX6_sound_8 rfl ?_
    refine zz_bipush (v := nI 24) hX dX6_sound_9 rfl ?_
    refine zz_sI (x := zz_bi (nI 1 ≤ f ∧ f ≤ nI 24)) hX zf_M_X6_91 (As := [.int f, .int (nI 1), .int (nI 24)]) (st := []) (m_isIn f (nI 1) (nI 24) sh mi mr) rfl rfl (by decide) (Nat.le_of_ble_eq_true rfl) (Nat.le_of_ble_eq_true rfl) (Nat.le_of_ble_eq_true rfl) dX6_sound_11 ?_
    refine zz_if_eqB hX 21 dX6_sound_14 (by decide) (fun c14 => ?_) (fun c14 => absurd c14 (show ¬ (nI 1 ≤ f ∧ f ≤ nI 24) from hB1))
    refine zz_iconst (v := nI 0) hX dX6_sound_21 rfl ?_
    refine zz_istore_n (ls' := [(0, .ref 1), (1, .int x), (2, .int f), (3, .int (nI 0))]) hX dX6_sound_22 rfl (Nat.le_of_ble_eq_true rfl) rfl ?_
    refine zz_aload_n hX dX6_sound_23 0 rfl rfl ?_
    refine zz_iload_n hX dX6_sound_24 3 rfl rfl ?_
    refine zz_if_ne hX 32 dX6_sound_25 (by decide) (fun c => absurd c (by decide)) (fun _ => ?_)
    refine zz_iconst (v := nI 1) hX dX6_sound_28 rfl ?_
    refine zz_goto hX 51 dX6_sound_29 (by decide) ?_
    refine zz_vI (x := nI 1) hX zf_M_X6_108 (As := [.int (nI 1)]) (st := []) (m_fails1 sh mi mr hM.1) hM.1 rfl rfl rfl (by decide) (Nat.le_of_ble_eq_true rfl) (Nat.le_of_ble_eq_true rfl) (Nat.le_of_ble_eq_true rfl) dX6_sound_51 ?_
    refine zz_if_eq hX 59 dX6_sound_54 (by decide) (fun c => absurd c (by decide)) (fun _ => ?_)
    refine zz_iconst (v := nI 0) hX dX6_sound_57 rfl ?_
    refine zz_iret hX hr rfl (Nat.le_of_ble_eq_true rfl) (Nat.le_of_ble_eq_true rfl) dX6_sound_58 ?_
    exact ⟨_, rfl, Or.inr (Or.inr (Or.inl ⟨trivial, (fun h => hB1 (h.2)), (zm_u2s), (zM_th hM)⟩)), (zr_mf zr_same.rfl' (by unfold zr_mout; omega))⟩
  by_cases hC0 : zv_sc S (zv_nv S) < 12
  rotate_left
  · skip
    refine zz_iload_n hX dX6_sound_0 1 rfl rfl ?_
    refine zz_sI (x := zz_bi (nI 0 ≤ x ∧ x ≤ nI 9)) hX zf_M_X6_111 (As := [.int x]) (st := []) (m_isSound x sh mi mr) rfl rfl (by decide) (Nat.le_of_ble_eq_true rfl) (Nat.le_of_ble_eq_true rfl) (Nat.le_of_ble_eq_true rfl) dX6_sound_1 ?_
    refine zz_if_eqB hX 21 dX6_sound_4 (by decide) (fun c4 => absurd (show nI 0 ≤ x ∧ x ≤ nI 9 from hB0) c4) (fun c4 => ?_)
    refine zz_iload_n hX dX6_sound_7 2 rfl rfl ?_
    refine zz_iconst (v := nI 1) hX dX6_sound_8 rfl ?_
    refine zz_bipush (v := nI 24) hX dX6_sound_9 rfl ?_
    refine zz_sI (x := zz_bi (nI 1 ≤ f ∧ f ≤ nI 24)) hX zf_M_X6_91 (As := [.int f, .int (nI 1), .int (nI 24)]) (st := []) (m_isIn f (nI 1) (nI 24) sh mi mr) rfl rfl (by decide) (Nat.le_of_ble_eq_true rfl) (Nat.le_of_ble_eq_true rfl) (Nat.le_of_ble_eq_true rfl) dX6_sound_11 ?_
    refine zz_if_eqB hX 21 dX6_sound_14 (by decide) (fun c14 => absurd (show nI 1 ≤ f ∧ f ≤ nI 24 from hB1) c14) (fun c14 => ?_)
    refine zz_iconst (v := nI 1) hX dX6_sound_17 rfl ?_
    refine zz_goto hX 22 dX6_sound_18 (by decide) ?_
    refine zz_istore_n (ls' := [(0, .ref 1), (1, .int x), (2, .int f), (3, .int (nI 1))]) hX dX6_sound_22 rfl (Nat.le_of_ble_eq_true rfl) rfl ?_
    refine zz_aload_n hX dX6_sound_23 0 rfl rfl ?_
    refine zz_iload_n hX dX6_sound_24 3 rfl rfl ?_
    refine zz_if_ne hX 32 dX6_sound_25 (by decide) (fun _ => ?_) (fun c => absurd c (by decide))
    refine zz_aload_n hX dX6_sound_32 0 rfl rfl ?_
    refine zz_getR (y := 106) hX zf_F_X6_22.r hM.1 rfl (zM_r6 hM).1 dX6_sound_33 ?_
    refine zz_aload_n hX dX6_sound_36 0 rfl rfl ?_
    refine zz_getI (x := nI (zv_nv S)) hX zf_F_X6_99.r hM.1 rfl (((zM_c5 hM).trans v0)) dX6_sound_37 ?_
    refine zz_iald (x := nI (zv_sc S (zv_nv S))) hX (zM_r6 hM).2 (zv_nv S) rfl (by omega) (by decide) (((zM_v6 hM (k := zv_nv S) (by omega)).trans vv.1)) dX6_sound_40 ?_
    refine zz_bipush (v := nI 12) hX dX6_sound_41 rfl ?_
    refine zz_icmp_neN hX (by omega) (by decide) 50 dX6_sound_43 (by decide) (fun c43 => absurd c43 (by omega)) (fun c43 => ?_)
    refine zz_iconst (v := nI 2) hX dX6_sound_46 rfl ?_
    refine zz_goto hX 51 dX6_sound_47 (by decide) ?_
    refine zz_vI (x := nI 1) hX zf_M_X6_108 (As := [.int (nI 2)]) (st := []) (m_fails2 sh mi mr hM.1) hM.1 rfl rfl rfl (by decide) (Nat.le_of_ble_eq_true rfl) (Nat.le_of_ble_eq_true rfl) (Nat.le_of_ble_eq_true rfl) dX6_sound_51 ?_
    refine zz_if_eq hX 59 dX6_sound_54 (by decide) (fun c => absurd c (by decide)) (fun _ => ?_)
    refine zz_iconst (v := nI 0) hX dX6_sound_57 rfl ?_
    refine zz_iret hX hr rfl (Nat.le_of_ble_eq_true rfl) (Nat.le_of_ble_eq_true rfl) dX6_sound_58 ?_
    exact ⟨_, rfl, Or.inr (Or.inr (Or.inr ⟨trivial, ⟨hB0, hB1⟩, (fun h => hC0 (h)), (zm_u2s), (zM_th hM)⟩)), (zr_mf zr_same.rfl' (by unfold zr_mout; omega))⟩
  refine zz_iload_n hX dX6_sound_0 1 rfl rfl ?_
  refine zz_sI (x := zz_bi (nI 0 ≤ x ∧ x ≤ nI 9)) hX zf_M_X6_111 (As := [.int x]) (st := []) (m_isSound x sh mi mr) rfl rfl (by decide) (Nat.le_of_ble_eq_true rfl) (Nat.le_of_ble_eq_true rfl) (Nat.le_of_ble_eq_true rfl) dX6_sound_1 ?_
  refine zz_if_eqB hX 21 dX6_sound_4 (by decide) (fun c4 => absurd (show nI 0 ≤ x ∧ x ≤ nI 9 from hB0) c4) (fun c4 => ?_)
  refine zz_iload_n hX dX6_sound_7 2 rfl rfl ?_
  refine zz_iconst (v := nI 1) hX dX6_sound_8 rfl ?_
  refine zz_bipush (v := nI 24) hX dX6_sound_9 rfl ?_
  refine zz_sI (x := zz_bi (nI 1 ≤ f ∧ f ≤ nI 24)) hX zf_M_X6_91 (As := [.int f, .int (nI 1), .int (nI 24)]) (st := []) (m_isIn f (nI 1) (nI 24) sh mi mr) rfl rfl (by decide) (Nat.le_of_ble_eq_true rfl) (Nat.le_of_ble_eq_true rfl) (Nat.le_of_ble_eq_true rfl) dX6_sound_11 ?_
  refine zz_if_eqB hX 21 dX6_sound_14 (by decide) (fun c14 => absurd (show nI 1 ≤ f ∧ f ≤ nI 24 from hB1) c14) (fun c14 => ?_)
  refine zz_iconst (v := nI 1) hX dX6_sound_17 rfl ?_
  refine zz_goto hX 22 dX6_sound_18 (by decide) ?_
  refine zz_istore_n (ls' := [(0, .ref 1), (1, .int x), (2, .int f), (3, .int (nI 1))]) hX dX6_sound_22 rfl (Nat.le_of_ble_eq_true rfl) rfl ?_
  refine zz_aload_n hX dX6_sound_23 0 rfl rfl ?_
  refine zz_iload_n hX dX6_sound_24 3 rfl rfl ?_
  refine zz_if_ne hX 32 dX6_sound_25 (by decide) (fun _ => ?_) (fun c => absurd c (by decide))
  refine zz_aload_n hX dX6_sound_32 0 rfl rfl ?_
  refine zz_getR (y := 106) hX zf_F_X6_22.r hM.1 rfl (zM_r6 hM).1 dX6_sound_33 ?_
  refine zz_aload_n hX dX6_sound_36 0 rfl rfl ?_
  refine zz_getI (x := nI (zv_nv S)) hX zf_F_X6_99.r hM.1 rfl (((zM_c5 hM).trans v0)) dX6_sound_37 ?_
  refine zz_iald (x := nI (zv_sc S (zv_nv S))) hX (zM_r6 hM).2 (zv_nv S) rfl (by omega) (by decide) (((zM_v6 hM (k := zv_nv S) (by omega)).trans vv.1)) dX6_sound_40 ?_
  refine zz_bipush (v := nI 12) hX dX6_sound_41 rfl ?_
  refine zz_icmp_neN hX (by omega) (by decide) 50 dX6_sound_43 (by decide) (fun c43 => ?_) (fun c43 => absurd c43 (by omega))
  refine zz_iconst (v := nI 0) hX dX6_sound_50 rfl ?_
  refine zz_vI (x := nI 0) hX zf_M_X6_108 (As := [.int (nI 0)]) (st := []) (m_fails0 sh mi mr hM.1) hM.1 rfl rfl rfl (by decide) (Nat.le_of_ble_eq_true rfl) (Nat.le_of_ble_eq_true rfl) (Nat.le_of_ble_eq_true rfl) dX6_sound_51 ?_
  refine zz_if_eq hX 59 dX6_sound_54 (by decide) (fun _ => ?_) (fun c => absurd c (by decide))
  refine zz_aload_n hX dX6_sound_59 0 rfl rfl ?_
  refine zz_getR (y := 107) hX zf_F_X6_25.r hM.1 rfl (zM_r7 hM).1 dX6_sound_60 ?_
  refine zz_bipush (v := nI 12) hX dX6_sound_63 rfl ?_
  refine zz_aload_n hX dX6_sound_65 0 rfl rfl ?_
  refine zz_getI (x := nI (zv_nv S)) hX zf_F_X6_99.r hM.1 rfl (((zm_u2k (by decide))).trans (((zM_c5 hM).trans v0))) dX6_sound_66 ?_
  refine zz_imul (z := nI (12 * (zv_nv S))) hX dX6_sound_69 (pk_mul _ _) ?_
  refine zz_aload_n hX dX6_sound_70 0 rfl rfl ?_
  refine zz_getR (y := 106) hX zf_F_X6_22.r hM.1 rfl (zM_r6 hM).1 dX6_sound_71 ?_
  refine zz_aload_n hX dX6_sound_74 0 rfl rfl ?_
  refine zz_getI (x := nI (zv_nv S)) hX zf_F_X6_99.r hM.1 rfl (((zm_u2k (by decide))).trans (((zM_c5 hM).trans v0))) dX6_sound_75 ?_
  refine zz_iald (x := nI (zv_sc S (zv_nv S))) hX (zM_r6 hM).2 (zv_nv S) rfl (by omega) (by decide) (((zm_u2l (by decide))).trans (((zM_v6 hM (k := zv_nv S) (by omega)).trans vv.1))) dX6_sound_78 ?_
  refine zz_iadd (z := nI (12 * (zv_nv S) + (zv_sc S (zv_nv S)))) hX dX6_sound_79 (nI_add _ _) ?_
  refine zz_iload_n hX dX6_sound_80 1 rfl rfl ?_
  refine zz_iast hX (zM_r7 hM).2 (12 * (zv_nv S) + (zv_sc S (zv_nv S))) rfl (by omega) (by decide) dX6_sound_81 ?_
  refine zz_aload_n hX dX6_sound_82 0 rfl rfl ?_
  refine zz_getR (y := 108) hX zf_F_X6_28.r hM.1 rfl (zM_r8 hM).1 dX6_sound_83 ?_
  refine zz_bipush (v := nI 12) hX dX6_sound_86 rfl ?_
  refine zz_aload_n hX dX6_sound_88 0 rfl rfl ?_
  refine zz_getI (x := nI (zv_nv S)) hX zf_F_X6_99.r hM.1 rfl (((zm_u2l (by decide))).trans (((zm_u2k (by decide))).trans (((zM_c5 hM).trans v0)))) dX6_sound_89 ?_
  refine zz_imul (z := nI (12 * (zv_nv S))) hX dX6_sound_92 (pk_mul _ _) ?_
  refine zz_aload_n hX dX6_sound_93 0 rfl rfl ?_
  refine zz_getR (y := 106) hX zf_F_X6_22.r hM.1 rfl (zM_r6 hM).1 dX6_sound_94 ?_
  refine zz_aload_n hX dX6_sound_97 0 rfl rfl ?_
  refine zz_getI (x := nI (zv_nv S)) hX zf_F_X6_99.r hM.1 rfl (((zm_u2l (by decide))).trans (((zm_u2k (by decide))).trans (((zM_c5 hM).trans v0)))) dX6_sound_98 ?_
  refine zz_iald (x := nI (zv_sc S (zv_nv S))) hX (zM_r6 hM).2 (zv_nv S) rfl (by omega) (by decide) (((zm_u2l (by decide))).trans (((zm_u2l (by decide))).trans (((zM_v6 hM (k := zv_nv S) (by omega)).trans vv.1)))) dX6_sound_101 ?_
  refine zz_iadd (z := nI (12 * (zv_nv S) + (zv_sc S (zv_nv S)))) hX dX6_sound_102 (nI_add _ _) ?_
  refine zz_iload_n hX dX6_sound_103 2 rfl rfl ?_
  refine zz_iast hX (zM_r8 hM).2 (12 * (zv_nv S) + (zv_sc S (zv_nv S))) rfl (by omega) (by decide) dX6_sound_104 ?_
  refine zz_aload_n hX dX6_sound_105 0 rfl rfl ?_
  refine zz_getR (y := 106) hX zf_F_X6_22.r hM.1 rfl (zM_r6 hM).1 dX6_sound_106 ?_
  refine zz_aload_n hX dX6_sound_109 0 rfl rfl ?_
  refine zz_getI (x := nI (zv_nv S)) hX zf_F_X6_99.r hM.1 rfl (((zm_u2l (by decide))).trans (((zm_u2l (by decide))).trans (((zm_u2k (by decide))).trans (((zM_c5 hM).trans v0))))) dX6_sound_110 ?_
  refine zz_dup2 hX dX6_sound_113 rfl rfl ?_
  refine zz_iald (x := nI (zv_sc S (zv_nv S))) hX (zM_r6 hM).2 (zv_nv S) rfl (by omega) (by decide) (((zm_u2l (by decide))).trans (((zm_u2l (by decide))).trans (((zm_u2l (by decide))).trans (((zM_v6 hM (k := zv_nv S) (by omega)).trans vv.1))))) dX6_sound_114 ?_
  refine zz_iconst (v := nI 1) hX dX6_sound_115 rfl ?_
  refine zz_iadd (z := nI ((zv_sc S (zv_nv S)) + 1)) hX dX6_sound_116 (nI_add _ _) ?_
  refine zz_iast hX (zM_r6 hM).2 (zv_nv S) rfl (by omega) (by decide) dX6_sound_117 ?_
  refine zz_aload_n hX dX6_sound_118 0 rfl rfl ?_
  refine zz_getR (y := 106) hX zf_F_X6_22.r hM.1 rfl (zM_r6 hM).1 dX6_sound_119 ?_
  refine zz_aload_n hX dX6_sound_122 0 rfl rfl ?_
  refine zz_getI (x := nI (zv_nv S)) hX zf_F_X6_99.r hM.1 rfl (((zm_u2l (by decide))).trans (((zm_u2l (by decide))).trans (((zm_u2l (by decide))).trans (((zm_u2k (by decide))).trans (((zM_c5 hM).trans v0)))))) dX6_sound_123 ?_
  refine zz_iald (x := nI ((zv_sc S (zv_nv S)) + 1)) hX (zM_r6 hM).2 (zv_nv S) rfl (by omega) (by decide) (zm_u2s) dX6_sound_126 ?_
  refine zz_iret hX hr rfl (Nat.le_of_ble_eq_true rfl) (Nat.le_of_ble_eq_true rfl) dX6_sound_127 ?_
  exact ⟨_, rfl, Or.inl ⟨trivial, ⟨hB0, hB1⟩, hC0, (((zm_u2l (by decide))).trans (((zm_u2l (by decide))).trans (((zm_u2l (by decide))).trans (zm_u2s)))), (by first | rfl | ((try rfl))), (by exact (zM_set (r := 6) (zM_set (r := 8) (zM_set (r := 7) (zM_th hM) (by decide)) (by decide)) (by decide)))⟩, (zr_mf (zr_mf (zr_mf (zr_mf zr_same.rfl' (by unfold zr_mout; omega)) (by unfold zr_mout; omega)) (by unfold zr_mout; omega)) (by unfold zr_mout; omega))⟩

set_option maxRecDepth 20000 in
theorem MP_puppet (S : zS) (sh : zm_Sh) (mi : zm_Mi) (mr : zm_Mr) (hW : zW S) (hM : zM S sh mi mr) (x : Int32)  : zz_Con yX6_puppet (.code yX6_puppet cX6_puppet 2 (some Jvm.ClassFile.FieldType.int)) 6 0 0 [.ref 1, .int x] sh mi mr (zq_m (True) ((nI 1 ≤ x ∧ x ≤ nI 6)) ((zv_np S < 5)) (nI 0) (nI 1) (nI 2) (nI (zv_np S)) S (zt_puppet S x) sh mi mr) zz_none := by
  refine zz_begin RX6 [(0, .ref 1), (1, .int x)] (by decide) rfl rfl (Nat.le_of_ble_eq_true rfl) rfl ?_
  intro Γ D E ad hX hr hN hT
  obtain ⟨hWp, hWv, hWs, hWk, hWr, hWf⟩ := id hW
  obtain ⟨p0, p1, p2, p3, p4, p5⟩ := hWp
  obtain ⟨v0, v1, v2, v3, v4⟩ := hWv
  obtain ⟨s0, s1, s2, s3⟩ := hWs
  obtain ⟨f0, f1, f2, f3⟩ := hWf
  by_cases hB0 : nI 1 ≤ x ∧ x ≤ nI 6
  rotate_left
  · skip
    refine zz_aload_n hX dX6_puppet_0 0 rfl rfl ?_
    refine zz_iload_n hX dX6_puppet_1 1 rfl rfl ?_
    refine zz_iconst (v := nI 1) hX dX6_puppet_2 rfl ?_
    refine zz_bipush (v := nI 6) hX dX6_puppet_3 rfl ?_
    refine zz_sI (x := zz_bi (nI 1 ≤ x ∧ x ≤ nI 6)) hX zf_M_X6_91 (As := [.int x, .int (nI 1), .int (nI 6)]) (st := [.ref 1]) (m_isIn x (nI 1) (nI 6) sh mi mr) rfl rfl (by decide) (Nat.le_of_ble_eq_true rfl) (Nat.le_of_ble_eq_true rfl) (Nat.le_of_ble_eq_true rfl) dX6_puppet_5 ?_
    refine zz_if_neB hX 15 dX6_puppet_8 (by decide) (fun c8 => absurd c8 (show ¬ (nI 1 ≤ x ∧ x ≤ nI 6) from hB0)) (fun c8 => ?_)
    refine zz_iconst (v := nI 1) hX dX6_puppet_11 rfl ?_
    refine zz_goto hX 28 dX6_puppet_12 (by decide) ?_
    refine zz_vI (x := nI 1) hX zf_M_X6_108 (As := [.int (nI 1)]) (st := []) (m_fails1 sh mi mr hM.1) hM.1 rfl rfl rfl (by decide) (Nat.le_of_ble_eq_true rfl) (Nat.le_of_ble_eq_true rfl) (Nat.le_of_ble_eq_true rfl) dX6_puppet_28 ?_
    refine zz_if_eq hX 36 dX6_puppet_31 (by decide) (fun c => absurd c (by decide)) (fun _ => ?_)
    refine zz_iconst (v := nI 0) hX dX6_puppet_34 rfl ?_
    refine zz_iret hX hr rfl (Nat.le_of_ble_eq_true rfl) (Nat.le_of_ble_eq_true rfl) dX6_puppet_35 ?_
    exact ⟨_, rfl, Or.inr (Or.inr (Or.inl ⟨trivial, (fun h => hB0 (h)), (zm_u2s), (zM_th hM)⟩)), (zr_mf zr_same.rfl' (by unfold zr_mout; omega))⟩
  by_cases hC0 : zv_np S < 5
  rotate_left
  · skip
    refine zz_aload_n hX dX6_puppet_0 0 rfl rfl ?_
    refine zz_iload_n hX dX6_puppet_1 1 rfl rfl ?_
    refine zz_iconst (v := nI 1) hX dX6_puppet_2 rfl ?_
    refine zz_bipush (v := nI 6) hX dX6_puppet_3 rfl ?_
    refine zz_sI (x := zz_bi (nI 1 ≤ x ∧ x ≤ nI 6)) hX zf_M_X6_91 (As := [.int x, .int (nI 1), .int (nI 6)]) (st := [.ref 1]) (m_isIn x (nI 1) (nI 6) sh mi mr) rfl rfl (by decide) (Nat.le_of_ble_eq_true rfl) (Nat.le_of_ble_eq_true rfl) (Nat.le_of_ble_eq_true rfl) dX6_puppet_5 ?_
    refine zz_if_neB hX 15 dX6_puppet_8 (by decide) (fun c8 => ?_) (fun c8 => absurd (show nI 1 ≤ x ∧ x ≤ nI 6 from hB0) c8)
    refine zz_aload_n hX dX6_puppet_15 0 rfl rfl ?_
    refine zz_getI (x := nI (zv_np S)) hX zf_F_X6_88.r hM.1 rfl (((zM_c0 hM).trans p0)) dX6_puppet_16 ?_
    refine zz_iconst (v := nI 5) hX dX6_puppet_19 rfl ?_
    refine zz_icmp_neN hX (by omega) (by decide) 27 dX6_puppet_20 (by decide) (fun c20 => absurd c20 (by omega)) (fun c20 => ?_)
    refine zz_iconst (v := nI 2) hX dX6_puppet_23 rfl ?_
    refine zz_goto hX 28 dX6_puppet_24 (by decide) ?_
    refine zz_vI (x := nI 1) hX zf_M_X6_108 (As := [.int (nI 2)]) (st := []) (m_fails2 sh mi mr hM.1) hM.1 rfl rfl rfl (by decide) (Nat.le_of_ble_eq_true rfl) (Nat.le_of_ble_eq_true rfl) (Nat.le_of_ble_eq_true rfl) dX6_puppet_28 ?_
    refine zz_if_eq hX 36 dX6_puppet_31 (by decide) (fun c => absurd c (by decide)) (fun _ => ?_)
    refine zz_iconst (v := nI 0) hX dX6_puppet_34 rfl ?_
    refine zz_iret hX hr rfl (Nat.le_of_ble_eq_true rfl) (Nat.le_of_ble_eq_true rfl) dX6_puppet_35 ?_
    exact ⟨_, rfl, Or.inr (Or.inr (Or.inr ⟨trivial, hB0, (fun h => hC0 (h)), (zm_u2s), (zM_th hM)⟩)), (zr_mf zr_same.rfl' (by unfold zr_mout; omega))⟩
  refine zz_aload_n hX dX6_puppet_0 0 rfl rfl ?_
  refine zz_iload_n hX dX6_puppet_1 1 rfl rfl ?_
  refine zz_iconst (v := nI 1) hX dX6_puppet_2 rfl ?_
  refine zz_bipush (v := nI 6) hX dX6_puppet_3 rfl ?_
  refine zz_sI (x := zz_bi (nI 1 ≤ x ∧ x ≤ nI 6)) hX zf_M_X6_91 (As := [.int x, .int (nI 1), .int (nI 6)]) (st := [.ref 1]) (m_isIn x (nI 1) (nI 6) sh mi mr) rfl rfl (by decide) (Nat.le_of_ble_eq_true rfl) (Nat.le_of_ble_eq_true rfl) (Nat.le_of_ble_eq_true rfl) dX6_puppet_5 ?_
  refine zz_if_neB hX 15 dX6_puppet_8 (by decide) (fun c8 => ?_) (fun c8 => absurd (show nI 1 ≤ x ∧ x ≤ nI 6 from hB0) c8)
  refine zz_aload_n hX dX6_puppet_15 0 rfl rfl ?_
  refine zz_getI (x := nI (zv_np S)) hX zf_F_X6_88.r hM.1 rfl (((zM_c0 hM).trans p0)) dX6_puppet_16 ?_
  refine zz_iconst (v := nI 5) hX dX6_puppet_19 rfl ?_
  refine zz_icmp_neN hX (by omega) (by decide) 27 dX6_puppet_20 (by decide) (fun c20 => ?_) (fun c20 => absurd c20 (by omega))
  refine zz_iconst (v := nI 0) hX dX6_puppet_27 rfl ?_
  refine zz_vI (x := nI 0) hX zf_M_X6_108 (As := [.int (nI 0)]) (st := []) (m_fails0 sh mi mr hM.1) hM.1 rfl rfl rfl (by decide) (Nat.le_of_ble_eq_true rfl) (Nat.le_of_ble_eq_true rfl) (Nat.le_of_ble_eq_true rfl) dX6_puppet_28 ?_
  refine zz_if_eq hX 36 dX6_puppet_31 (by decide) (fun _ => ?_) (fun c => absurd c (by decide))
  refine zz_aload_n hX dX6_puppet_36 0 rfl rfl ?_
  refine zz_getR (y := 101) hX zf_F_X6_7.r hM.1 rfl (zM_r1 hM).1 dX6_puppet_37 ?_
  refine zz_aload_n hX dX6_puppet_40 0 rfl rfl ?_
  refine zz_getI (x := nI (zv_np S)) hX zf_F_X6_88.r hM.1 rfl (((zm_u2k (by decide))).trans (((zM_c0 hM).trans p0))) dX6_puppet_41 ?_
  refine zz_iload_n hX dX6_puppet_44 1 rfl rfl ?_
  refine zz_iast hX (zM_r1 hM).2 (zv_np S) rfl (by omega) (by decide) dX6_puppet_45 ?_
  refine zz_aload_n hX dX6_puppet_46 0 rfl rfl ?_
  refine zz_dup hX dX6_puppet_47 rfl ?_
  refine zz_getI (x := nI (zv_np S)) hX zf_F_X6_88.r hM.1 rfl (((zm_u2l (by decide))).trans (((zm_u2k (by decide))).trans (((zM_c0 hM).trans p0)))) dX6_puppet_48 ?_
  refine zz_iconst (v := nI 1) hX dX6_puppet_51 rfl ?_
  refine zz_iadd (z := nI ((zv_np S) + 1)) hX dX6_puppet_52 (nI_add _ _) ?_
  refine zz_putI hX zf_F_X6_88 hM.1 rfl rfl rfl dX6_puppet_53 ?_
  refine zz_aload_n hX dX6_puppet_56 0 rfl rfl ?_
  refine zz_getI (x := nI ((zv_np S) + 1)) hX zf_F_X6_88.r hM.1 rfl (zm_u2s) dX6_puppet_57 ?_
  refine zz_iconst (v := nI 1) hX dX6_puppet_60 rfl ?_
  refine zz_isub (z := nI (((zv_np S) + 1) - 1)) hX dX6_puppet_61 (pk_sub (by omega)) ?_
  refine zz_iret hX hr rfl (Nat.le_of_ble_eq_true rfl) (Nat.le_of_ble_eq_true rfl) dX6_puppet_62 ?_
  exact ⟨_, rfl, Or.inl ⟨trivial, hB0, hC0, (((zm_u2k (by decide))).trans (((zm_u2l (by decide))).trans (zm_u2s))), rfl, (by exact (zM_sc (r := 0) (zM_set (r := 1) (zM_th hM) (by decide)) (by decide)))⟩, (zr_mf (zr_mf (zr_mf zr_same.rfl' (by unfold zr_mout; omega)) (by unfold zr_mout; omega)) (by unfold zr_mout; omega))⟩

set_option maxRecDepth 20000 in
theorem MP_shot (S : zS) (sh : zm_Sh) (mi : zm_Mi) (mr : zm_Mr) (hW : zW S) (hM : zM S sh mi mr) (px nx tx v : Int32)  : zz_Con yX6_shot (.code yX6_shot cX6_shot 7 (some Jvm.ClassFile.FieldType.int)) 6 0 0 [.ref 1, .int px, .int nx, .int tx, .int v] sh mi mr (zq_m ((zs_ix px (zv_np S)) ∧ (v = -1 ∨ zs_ix v (zv_nv S))) ((nI 1 ≤ nx ∧ nx ≤ nI 48) ∧ (nI 1 ≤ tx ∧ tx ≤ nI 2)) ((zv_ns S < 8)) (nI 1) (nI 2) (nI 3) (nI (zv_ns S)) S (zt_shot S px nx tx v) sh mi mr) zz_none := by
  refine zz_begin RX6 [(0, .ref 1), (1, .int px), (2, .int nx), (3, .int tx), (4, .int v)] (by decide) rfl rfl (Nat.le_of_ble_eq_true rfl) rfl ?_
  intro Γ D E ad hX hr hN hT
  obtain ⟨hWp, hWv, hWs, hWk, hWr, hWf⟩ := id hW
  obtain ⟨p0, p1, p2, p3, p4, p5⟩ := hWp
  obtain ⟨v0, v1, v2, v3, v4⟩ := hWv
  obtain ⟨s0, s1, s2, s3⟩ := hWs
  obtain ⟨f0, f1, f2, f3⟩ := hWf
  by_cases hA0 : zs_ix px (zv_np S)
  rotate_left
  · skip
    refine zz_aload_n hX dX6_shot_0 0 rfl rfl ?_
    refine zz_iload_n hX dX6_shot_1 1 rfl rfl ?_
    refine zz_vI (x := zz_bi (zs_ix px (zv_np S))) hX zf_M_X6_95 (As := [.int px]) (st := []) (M_isPuppet S sh mi mr hW hM px) hM.1 rfl rfl rfl (by decide) (Nat.le_of_ble_eq_true rfl) (Nat.le_of_ble_eq_true rfl) (Nat.le_of_ble_eq_true rfl) dX6_shot_2 ?_
    refine zz_if_eqB hX 21 dX6_shot_5 (by decide) (fun c5 => ?_) (fun c5 => absurd c5 (show ¬ (zs_ix px (zv_np S)) from hA0))
    refine zz_iconst (v := nI 0) hX dX6_shot_21 rfl ?_
    refine zz_istore (ls' := [(0, .ref 1), (1, .int px), (2, .int nx), (3, .int tx), (4, .int v), (5, .int (nI 0))]) hX dX6_shot_22 (Nat.le_of_ble_eq_true rfl) rfl ?_
    refine zz_iload_n hX dX6_shot_24 2 rfl rfl ?_
    refine zz_iconst (v := nI 1) hX dX6_shot_25 rfl ?_
    refine zz_bipush (v := nI 48) hX dX6_shot_26 rfl ?_
    refine zz_sI (x := zz_bi (nI 1 ≤ nx ∧ nx ≤ nI 48)) hX zf_M_X6_91 (As := [.int nx, .int (nI 1), .int (nI 48)]) (st := []) (m_isIn nx (nI 1) (nI 48) sh mi mr) rfl rfl (by decide) (Nat.le_of_ble_eq_true rfl) (Nat.le_of_ble_eq_true rfl) (Nat.le_of_ble_eq_true rfl) dX6_shot_28 ?_
    refine zz_if_eqB hX 47 dX6_shot_31 (by decide) (fun c31 => ?_) (fun c31 => ?_)
    · skip
      refine zz_iconst (v := nI 0) hX dX6_shot_47 rfl ?_
      refine zz_istore (ls' := [(0, .ref 1), (1, .int px), (2, .int nx), (3, .int tx), (4, .int v), (5, .int (nI 0)), (6, .int (nI 0))]) hX dX6_shot_48 (Nat.le_of_ble_eq_true rfl) rfl ?_
      refine zz_aload_n hX dX6_shot_50 0 rfl rfl ?_
      refine zz_iload hX dX6_shot_51 5 rfl ?_
      refine zz_if_ne hX 60 dX6_shot_53 (by decide) (fun c => absurd c (by decide)) (fun _ => ?_)
      refine zz_iconst (v := nI 1) hX dX6_shot_56 rfl ?_
      refine zz_goto hX 83 dX6_shot_57 (by decide) ?_
      refine zz_vI (x := nI 1) hX zf_M_X6_108 (As := [.int (nI 1)]) (st := []) (m_fails1 sh mi mr hM.1) hM.1 rfl rfl rfl (by decide) (Nat.le_of_ble_eq_true rfl) (Nat.le_of_ble_eq_true rfl) (Nat.le_of_ble_eq_true rfl) dX6_shot_83 ?_
      refine zz_if_eq hX 91 dX6_shot_86 (by decide) (fun c => absurd c (by decide)) (fun _ => ?_)
      refine zz_iconst (v := nI 0) hX dX6_shot_89 rfl ?_
      refine zz_iret hX hr rfl (Nat.le_of_ble_eq_true rfl) (Nat.le_of_ble_eq_true rfl) dX6_shot_90 ?_
      exact ⟨_, rfl, Or.inr (Or.inl ⟨(fun h => hA0 (h.1)), (zm_u2s), (zM_th hM)⟩), (zr_mf zr_same.rfl' (by unfold zr_mout; omega))⟩
    · skip
      refine zz_iload_n hX dX6_shot_34 3 rfl rfl ?_
      refine zz_iconst (v := nI 1) hX dX6_shot_35 rfl ?_
      refine zz_iconst (v := nI 2) hX dX6_shot_36 rfl ?_
      refine zz_sI (x := zz_bi (nI 1 ≤ tx ∧ tx ≤ nI 2)) hX zf_M_X6_91 (As := [.int tx, .int (nI 1), .int (nI 2)]) (st := []) (m_isIn tx (nI 1) (nI 2) sh mi mr) rfl rfl (by decide) (Nat.le_of_ble_eq_true rfl) (Nat.le_of_ble_eq_true rfl) (Nat.le_of_ble_eq_true rfl) dX6_shot_37 ?_
      refine zz_if_eqB hX 47 dX6_shot_40 (by decide) (fun c40 => ?_) (fun c40 => ?_)
      · skip
        refine zz_iconst (v := nI 0) hX dX6_shot_47 rfl ?_
        refine zz_istore (ls' := [(0, .ref 1), (1, .int px), (2, .int nx), (3, .int tx), (4, .int v), (5, .int (nI 0)), (6, .int (nI 0))]) hX dX6_shot_48 (Nat.le_of_ble_eq_true rfl) rfl ?_
        refine zz_aload_n hX dX6_shot_50 0 rfl rfl ?_
        refine zz_iload hX dX6_shot_51 5 rfl ?_
        refine zz_if_ne hX 60 dX6_shot_53 (by decide) (fun c => absurd c (by decide)) (fun _ => ?_)
        refine zz_iconst (v := nI 1) hX dX6_shot_56 rfl ?_
        refine zz_goto hX 83 dX6_shot_57 (by decide) ?_
        refine zz_vI (x := nI 1) hX zf_M_X6_108 (As := [.int (nI 1)]) (st := []) (m_fails1 sh mi mr hM.1) hM.1 rfl rfl rfl (by decide) (Nat.le_of_ble_eq_true rfl) (Nat.le_of_ble_eq_true rfl) (Nat.le_of_ble_eq_true rfl) dX6_shot_83 ?_
        refine zz_if_eq hX 91 dX6_shot_86 (by decide) (fun c => absurd c (by decide)) (fun _ => ?_)
        refine zz_iconst (v := nI 0) hX dX6_shot_89 rfl ?_
        refine zz_iret hX hr rfl (Nat.le_of_ble_eq_true rfl) (Nat.le_of_ble_eq_true rfl) dX6_shot_90 ?_
        exact ⟨_, rfl, Or.inr (Or.inl ⟨(fun h => hA0 (h.1)), (zm_u2s), (zM_th hM)⟩), (zr_mf zr_same.rfl' (by unfold zr_mout; omega))⟩
      · skip
        refine zz_iconst (v := nI 1) hX dX6_shot_43 rfl ?_
        refine zz_goto hX 48 dX6_shot_44 (by decide) ?_
        refine zz_istore (ls' := [(0, .ref 1), (1, .int px), (2, .int nx), (3, .int tx), (4, .int v), (5, .int (nI 0)), (6, .int (nI 1))]) hX dX6_shot_48 (Nat.le_of_ble_eq_true rfl) rfl ?_
        refine zz_aload_n hX dX6_shot_50 0 rfl rfl ?_
        refine zz_iload hX dX6_shot_51 5 rfl ?_
        refine zz_if_ne hX 60 dX6_shot_53 (by decide) (fun c => absurd c (by decide)) (fun _ => ?_)
        refine zz_iconst (v := nI 1) hX dX6_shot_56 rfl ?_
        refine zz_goto hX 83 dX6_shot_57 (by decide) ?_
        refine zz_vI (x := nI 1) hX zf_M_X6_108 (As := [.int (nI 1)]) (st := []) (m_fails1 sh mi mr hM.1) hM.1 rfl rfl rfl (by decide) (Nat.le_of_ble_eq_true rfl) (Nat.le_of_ble_eq_true rfl) (Nat.le_of_ble_eq_true rfl) dX6_shot_83 ?_
        refine zz_if_eq hX 91 dX6_shot_86 (by decide) (fun c => absurd c (by decide)) (fun _ => ?_)
        refine zz_iconst (v := nI 0) hX dX6_shot_89 rfl ?_
        refine zz_iret hX hr rfl (Nat.le_of_ble_eq_true rfl) (Nat.le_of_ble_eq_true rfl) dX6_shot_90 ?_
        exact ⟨_, rfl, Or.inr (Or.inl ⟨(fun h => hA0 (h.1)), (zm_u2s), (zM_th hM)⟩), (zr_mf zr_same.rfl' (by unfold zr_mout; omega))⟩
  obtain ⟨p, hp, rfl⟩ := zs_ix_of hA0 (by omega)
  have z_p : zn (nI p) = p := nI_clamp (n := p) (by omega)
  have hjn9 := (p2 p hp).2.2
  by_cases hA1 : v = -1 ∨ zs_ix v (zv_nv S)
  rotate_left
  · skip
    refine zz_aload_n hX dX6_shot_0 0 rfl rfl ?_
    refine zz_iload_n hX dX6_shot_1 1 rfl rfl ?_
    refine zz_vI (x := zz_bi (zs_ix (nI p) (zv_np S))) hX zf_M_X6_95 (As := [.int (nI p)]) (st := []) (M_isPuppet S sh mi mr hW hM (nI p)) hM.1 rfl rfl rfl (by decide) (Nat.le_of_ble_eq_true rfl) (Nat.le_of_ble_eq_true rfl) (Nat.le_of_ble_eq_true rfl) dX6_shot_2 ?_
    refine zz_if_eqB hX 21 dX6_shot_5 (by decide) (fun c5 => absurd (show zs_ix (nI p) (zv_np S) from hA0) c5) (fun c5 => ?_)
    refine zz_aload_n hX dX6_shot_8 0 rfl rfl ?_
    refine zz_iload hX dX6_shot_9 4 rfl ?_
    refine zz_vI (x := zz_bi (v = -1 ∨ zs_ix v (zv_nv S))) hX zf_M_X6_114 (As := [.int v]) (st := []) (M_isVoice S sh mi mr hW hM v) hM.1 rfl rfl rfl (by decide) (Nat.le_of_ble_eq_true rfl) (Nat.le_of_ble_eq_true rfl) (Nat.le_of_ble_eq_true rfl) dX6_shot_11 ?_
    refine zz_if_eqB hX 21 dX6_shot_14 (by decide) (fun c14 => ?_) (fun c14 => absurd c14 (show ¬ (v = -1 ∨ zs_ix v (zv_nv S)) from hA1))
    refine zz_iconst (v := nI 0) hX dX6_shot_21 rfl ?_
    refine zz_istore (ls' := [(0, .ref 1), (1, .int (nI p)), (2, .int nx), (3, .int tx), (4, .int v), (5, .int (nI 0))]) hX dX6_shot_22 (Nat.le_of_ble_eq_true rfl) rfl ?_
    refine zz_iload_n hX dX6_shot_24 2 rfl rfl ?_
    refine zz_iconst (v := nI 1) hX dX6_shot_25 rfl ?_
    refine zz_bipush (v := nI 48) hX dX6_shot_26 rfl ?_
    refine zz_sI (x := zz_bi (nI 1 ≤ nx ∧ nx ≤ nI 48)) hX zf_M_X6_91 (As := [.int nx, .int (nI 1), .int (nI 48)]) (st := []) (m_isIn nx (nI 1) (nI 48) sh mi mr) rfl rfl (by decide) (Nat.le_of_ble_eq_true rfl) (Nat.le_of_ble_eq_true rfl) (Nat.le_of_ble_eq_true rfl) dX6_shot_28 ?_
    refine zz_if_eqB hX 47 dX6_shot_31 (by decide) (fun c31 => ?_) (fun c31 => ?_)
    · skip
      refine zz_iconst (v := nI 0) hX dX6_shot_47 rfl ?_
      refine zz_istore (ls' := [(0, .ref 1), (1, .int (nI p)), (2, .int nx), (3, .int tx), (4, .int v), (5, .int (nI 0)), (6, .int (nI 0))]) hX dX6_shot_48 (Nat.le_of_ble_eq_true rfl) rfl ?_
      refine zz_aload_n hX dX6_shot_50 0 rfl rfl ?_
      refine zz_iload hX dX6_shot_51 5 rfl ?_
      refine zz_if_ne hX 60 dX6_shot_53 (by decide) (fun c => absurd c (by decide)) (fun _ => ?_)
      refine zz_iconst (v := nI 1) hX dX6_shot_56 rfl ?_
      refine zz_goto hX 83 dX6_shot_57 (by decide) ?_
      refine zz_vI (x := nI 1) hX zf_M_X6_108 (As := [.int (nI 1)]) (st := []) (m_fails1 sh mi mr hM.1) hM.1 rfl rfl rfl (by decide) (Nat.le_of_ble_eq_true rfl) (Nat.le_of_ble_eq_true rfl) (Nat.le_of_ble_eq_true rfl) dX6_shot_83 ?_
      refine zz_if_eq hX 91 dX6_shot_86 (by decide) (fun c => absurd c (by decide)) (fun _ => ?_)
      refine zz_iconst (v := nI 0) hX dX6_shot_89 rfl ?_
      refine zz_iret hX hr rfl (Nat.le_of_ble_eq_true rfl) (Nat.le_of_ble_eq_true rfl) dX6_shot_90 ?_
      exact ⟨_, rfl, Or.inr (Or.inl ⟨(fun h => hA1 (h.2)), (zm_u2s), (zM_th hM)⟩), (zr_mf zr_same.rfl' (by unfold zr_mout; omega))⟩
    · skip
      refine zz_iload_n hX dX6_shot_34 3 rfl rfl ?_
      refine zz_iconst (v := nI 1) hX dX6_shot_35 rfl ?_
      refine zz_iconst (v := nI 2) hX dX6_shot_36 rfl ?_
      refine zz_sI (x := zz_bi (nI 1 ≤ tx ∧ tx ≤ nI 2)) hX zf_M_X6_91 (As := [.int tx, .int (nI 1), .int (nI 2)]) (st := []) (m_isIn tx (nI 1) (nI 2) sh mi mr) rfl rfl (by decide) (Nat.le_of_ble_eq_true rfl) (Nat.le_of_ble_eq_true rfl) (Nat.le_of_ble_eq_true rfl) dX6_shot_37 ?_
      refine zz_if_eqB hX 47 dX6_shot_40 (by decide) (fun c40 => ?_) (fun c40 => ?_)
      · skip
        refine zz_iconst (v := nI 0) hX dX6_shot_47 rfl ?_
        refine zz_istore (ls' := [(0, .ref 1), (1, .int (nI p)), (2, .int nx), (3, .int tx), (4, .int v), (5, .int (nI 0)), (6, .int (nI 0))]) hX dX6_shot_48 (Nat.le_of_ble_eq_true rfl) rfl ?_
        refine zz_aload_n hX dX6_shot_50 0 rfl rfl ?_
        refine zz_iload hX dX6_shot_51 5 rfl ?_
        refine zz_if_ne hX 60 dX6_shot_53 (by decide) (fun c => absurd c (by decide)) (fun _ => ?_)
        refine zz_iconst (v := nI 1) hX dX6_shot_56 rfl ?_
        refine zz_goto hX 83 dX6_shot_57 (by decide) ?_
        refine zz_vI (x := nI 1) hX zf_M_X6_108 (As := [.int (nI 1)]) (st := []) (m_fails1 sh mi mr hM.1) hM.1 rfl rfl rfl (by decide) (Nat.le_of_ble_eq_true rfl) (Nat.le_of_ble_eq_true rfl) (Nat.le_of_ble_eq_true rfl) dX6_shot_83 ?_
        refine zz_if_eq hX 91 dX6_shot_86 (by decide) (fun c => absurd c (by decide)) (fun _ => ?_)
        refine zz_iconst (v := nI 0) hX dX6_shot_89 rfl ?_
        refine zz_iret hX hr rfl (Nat.le_of_ble_eq_true rfl) (Nat.le_of_ble_eq_true rfl) dX6_shot_90 ?_
        exact ⟨_, rfl, Or.inr (Or.inl ⟨(fun h => hA1 (h.2)), (zm_u2s), (zM_th hM)⟩), (zr_mf zr_same.rfl' (by unfold zr_mout; omega))⟩
      · skip
        refine zz_iconst (v := nI 1) hX dX6_shot_43 rfl ?_
        refine zz_goto hX 48 dX6_shot_44 (by decide) ?_
        refine zz_istore (ls' := [(0, .ref 1), (1, .int (nI p)), (2, .int nx), (3, .int tx), (4, .int v), (5, .int (nI 0)), (6, .int (nI 1))]) hX dX6_shot_48 (Nat.le_of_ble_eq_true rfl) rfl ?_
        refine zz_aload_n hX dX6_shot_50 0 rfl rfl ?_
        refine zz_iload hX dX6_shot_51 5 rfl ?_
        refine zz_if_ne hX 60 dX6_shot_53 (by decide) (fun c => absurd c (by decide)) (fun _ => ?_)
        refine zz_iconst (v := nI 1) hX dX6_shot_56 rfl ?_
        refine zz_goto hX 83 dX6_shot_57 (by decide) ?_
        refine zz_vI (x := nI 1) hX zf_M_X6_108 (As := [.int (nI 1)]) (st := []) (m_fails1 sh mi mr hM.1) hM.1 rfl rfl rfl (by decide) (Nat.le_of_ble_eq_true rfl) (Nat.le_of_ble_eq_true rfl) (Nat.le_of_ble_eq_true rfl) dX6_shot_83 ?_
        refine zz_if_eq hX 91 dX6_shot_86 (by decide) (fun c => absurd c (by decide)) (fun _ => ?_)
        refine zz_iconst (v := nI 0) hX dX6_shot_89 rfl ?_
        refine zz_iret hX hr rfl (Nat.le_of_ble_eq_true rfl) (Nat.le_of_ble_eq_true rfl) dX6_shot_90 ?_
        exact ⟨_, rfl, Or.inr (Or.inl ⟨(fun h => hA1 (h.2)), (zm_u2s), (zM_th hM)⟩), (zr_mf zr_same.rfl' (by unfold zr_mout; omega))⟩
  by_cases hB0 : nI 1 ≤ nx ∧ nx ≤ nI 48
  rotate_left
  · skip
    refine zz_aload_n hX dX6_shot_0 0 rfl rfl ?_
    refine zz_iload_n hX dX6_shot_1 1 rfl rfl ?_
    refine zz_vI (x := zz_bi (zs_ix (nI p) (zv_np S))) hX zf_M_X6_95 (As := [.int (nI p)]) (st := []) (M_isPuppet S sh mi mr hW hM (nI p)) hM.1 rfl rfl rfl (by decide) (Nat.le_of_ble_eq_true rfl) (Nat.le_of_ble_eq_true rfl) (Nat.le_of_ble_eq_true rfl) dX6_shot_2 ?_
    refine zz_if_eqB hX 21 dX6_shot_5 (by decide) (fun c5 => absurd (show zs_ix (nI p) (zv_np S) from hA0) c5) (fun c5 => ?_)
    refine zz_aload_n hX dX6_shot_8 0 rfl rfl ?_
    refine zz_iload hX dX6_shot_9 4 rfl ?_
    refine zz_vI (x := zz_bi (v = -1 ∨ zs_ix v (zv_nv S))) hX zf_M_X6_114 (As := [.int v]) (st := []) (M_isVoice S sh mi mr hW hM v) hM.1 rfl rfl rfl (by decide) (Nat.le_of_ble_eq_true rfl) (Nat.le_of_ble_eq_true rfl) (Nat.le_of_ble_eq_true rfl) dX6_shot_11 ?_
    refine zz_if_eqB hX 21 dX6_shot_14 (by decide) (fun c14 => absurd (show v = -1 ∨ zs_ix v (zv_nv S) from hA1) c14) (fun c14 => ?_)
    refine zz_iconst (v := nI 1) hX dX6_shot_17 rfl ?_
    refine zz_goto hX 22 dX6_shot_18 (by decide) ?_
    refine zz_istore (ls' := [(0, .ref 1), (1, .int (nI p)), (2, .int nx), (3, .int tx), (4, .int v), (5, .int (nI 1))]) hX dX6_shot_22 (Nat.le_of_ble_eq_true rfl) rfl ?_
    refine zz_iload_n hX dX6_shot_24 2 rfl rfl ?_
    refine zz_iconst (v := nI 1) hX dX6_shot_25 rfl ?_
    refine zz_bipush (v := nI 48) hX dX6_shot_26 rfl ?_
    refine zz_sI (x := zz_bi (nI 1 ≤ nx ∧ nx ≤ nI 48)) hX zf_M_X6_91 (As := [.int nx, .int (nI 1), .int (nI 48)]) (st := []) (m_isIn nx (nI 1) (nI 48) sh mi mr) rfl rfl (by decide) (Nat.le_of_ble_eq_true rfl) (Nat.le_of_ble_eq_true rfl) (Nat.le_of_ble_eq_true rfl) dX6_shot_28 ?_
    refine zz_if_eqB hX 47 dX6_shot_31 (by decide) (fun c31 => ?_) (fun c31 => absurd c31 (show ¬ (nI 1 ≤ nx ∧ nx ≤ nI 48) from hB0))
    refine zz_iconst (v := nI 0) hX dX6_shot_47 rfl ?_
    refine zz_istore (ls' := [(0, .ref 1), (1, .int (nI p)), (2, .int nx), (3, .int tx), (4, .int v), (5, .int (nI 1)), (6, .int (nI 0))]) hX dX6_shot_48 (Nat.le_of_ble_eq_true rfl) rfl ?_
    refine zz_aload_n hX dX6_shot_50 0 rfl rfl ?_
    refine zz_iload hX dX6_shot_51 5 rfl ?_
    refine zz_if_ne hX 60 dX6_shot_53 (by decide) (fun _ => ?_) (fun c => absurd c (by decide))
    refine zz_iload hX dX6_shot_60 6 rfl ?_
    refine zz_if_ne hX 69 dX6_shot_62 (by decide) (fun c => absurd c (by decide)) (fun _ => ?_)
    refine zz_iconst (v := nI 2) hX dX6_shot_65 rfl ?_
    refine zz_goto hX 83 dX6_shot_66 (by decide) ?_
    refine zz_vI (x := nI 1) hX zf_M_X6_108 (As := [.int (nI 2)]) (st := []) (m_fails2 sh mi mr hM.1) hM.1 rfl rfl rfl (by decide) (Nat.le_of_ble_eq_true rfl) (Nat.le_of_ble_eq_true rfl) (Nat.le_of_ble_eq_true rfl) dX6_shot_83 ?_
    refine zz_if_eq hX 91 dX6_shot_86 (by decide) (fun c => absurd c (by decide)) (fun _ => ?_)
    refine zz_iconst (v := nI 0) hX dX6_shot_89 rfl ?_
    refine zz_iret hX hr rfl (Nat.le_of_ble_eq_true rfl) (Nat.le_of_ble_eq_true rfl) dX6_shot_90 ?_
    exact ⟨_, rfl, Or.inr (Or.inr (Or.inl ⟨⟨hA0, hA1⟩, (fun h => hB0 (h.1)), (zm_u2s), (zM_th hM)⟩)), (zr_mf zr_same.rfl' (by unfold zr_mout; omega))⟩
  by_cases hB1 : nI 1 ≤ tx ∧ tx ≤ nI 2
  rotate_left
  · skip
    refine zz_aload_n hX dX6_shot_0 0 rfl rfl ?_
    refine zz_iload_n hX dX6_shot_1 1 rfl rfl ?_
    refine zz_vI (x := zz_bi (zs_ix (nI p) (zv_np S))) hX zf_M_X6_95 (As := [.int (nI p)]) (st := []) (M_isPuppet S sh mi mr hW hM (nI p)) hM.1 rfl rfl rfl (by decide) (Nat.le_of_ble_eq_true rfl) (Nat.le_of_ble_eq_true rfl) (Nat.le_of_ble_eq_true rfl) dX6_shot_2 ?_
    refine zz_if_eqB hX 21 dX6_shot_5 (by decide) (fun c5 => absurd (show zs_ix (nI p) (zv_np S) from hA0) c5) (fun c5 => ?_)
    refine zz_aload_n hX dX6_shot_8 0 rfl rfl ?_
    refine zz_iload hX dX6_shot_9 4 rfl ?_
    refine zz_vI (x := zz_bi (v = -1 ∨ zs_ix v (zv_nv S))) hX zf_M_X6_114 (As := [.int v]) (st := []) (M_isVoice S sh mi mr hW hM v) hM.1 rfl rfl rfl (by decide) (Nat.le_of_ble_eq_true rfl) (Nat.le_of_ble_eq_true rfl) (Nat.le_of_ble_eq_true rfl) dX6_shot_11 ?_
    refine zz_if_eqB hX 21 dX6_shot_14 (by decide) (fun c14 => absurd (show v = -1 ∨ zs_ix v (zv_nv S) from hA1) c14) (fun c14 => ?_)
    refine zz_iconst (v := nI 1) hX dX6_shot_17 rfl ?_
    refine zz_goto hX 22 dX6_shot_18 (by decide) ?_
    refine zz_istore (ls' := [(0, .ref 1), (1, .int (nI p)), (2, .int nx), (3, .int tx), (4, .int v), (5, .int (nI 1))]) hX dX6_shot_22 (Nat.le_of_ble_eq_true rfl) rfl ?_
    refine zz_iload_n hX dX6_shot_24 2 rfl rfl ?_
    refine zz_iconst (v := nI 1) hX dX6_shot_25 rfl ?_
    refine zz_bipush (v := nI 48) hX dX6_shot_26 rfl ?_
    refine zz_sI (x := zz_bi (nI 1 ≤ nx ∧ nx ≤ nI 48)) hX zf_M_X6_91 (As := [.int nx, .int (nI 1), .int (nI 48)]) (st := []) (m_isIn nx (nI 1) (nI 48) sh mi mr) rfl rfl (by decide) (Nat.le_of_ble_eq_true rfl) (Nat.le_of_ble_eq_true rfl) (Nat.le_of_ble_eq_true rfl) dX6_shot_28 ?_
    refine zz_if_eqB hX 47 dX6_shot_31 (by decide) (fun c31 => absurd (show nI 1 ≤ nx ∧ nx ≤ nI 48 from hB0) c31) (fun c31 => ?_)
    refine zz_iload_n hX dX6_shot_34 3 rfl rfl ?_
    refine zz_iconst (v := nI 1) hX dX6_shot_35 rfl ?_
    refine zz_iconst (v := nI 2) hX dX6_shot_36 rfl ?_
    refine zz_sI (x := zz_bi (nI 1 ≤ tx ∧ tx ≤ nI 2)) hX zf_M_X6_91 (As := [.int tx, .int (nI 1), .int (nI 2)]) (st := []) (m_isIn tx (nI 1) (nI 2) sh mi mr) rfl rfl (by decide) (Nat.le_of_ble_eq_true rfl) (Nat.le_of_ble_eq_true rfl) (Nat.le_of_ble_eq_true rfl) dX6_shot_37 ?_
    refine zz_if_eqB hX 47 dX6_shot_40 (by decide) (fun c40 => ?_) (fun c40 => absurd c40 (show ¬ (nI 1 ≤ tx ∧ tx ≤ nI 2) from hB1))
    refine zz_iconst (v := nI 0) hX dX6_shot_47 rfl ?_
    refine zz_istore (ls' := [(0, .ref 1), (1, .int (nI p)), (2, .int nx), (3, .int tx), (4, .int v), (5, .int (nI 1)), (6, .int (nI 0))]) hX dX6_shot_48 (Nat.le_of_ble_eq_true rfl) rfl ?_
    refine zz_aload_n hX dX6_shot_50 0 rfl rfl ?_
    refine zz_iload hX dX6_shot_51 5 rfl ?_
    refine zz_if_ne hX 60 dX6_shot_53 (by decide) (fun _ => ?_) (fun c => absurd c (by decide))
    refine zz_iload hX dX6_shot_60 6 rfl ?_
    refine zz_if_ne hX 69 dX6_shot_62 (by decide) (fun c => absurd c (by decide)) (fun _ => ?_)
    refine zz_iconst (v := nI 2) hX dX6_shot_65 rfl ?_
    refine zz_goto hX 83 dX6_shot_66 (by decide) ?_
    refine zz_vI (x := nI 1) hX zf_M_X6_108 (As := [.int (nI 2)]) (st := []) (m_fails2 sh mi mr hM.1) hM.1 rfl rfl rfl (by decide) (Nat.le_of_ble_eq_true rfl) (Nat.le_of_ble_eq_true rfl) (Nat.le_of_ble_eq_true rfl) dX6_shot_83 ?_
    refine zz_if_eq hX 91 dX6_shot_86 (by decide) (fun c => absurd c (by decide)) (fun _ => ?_)
    refine zz_iconst (v := nI 0) hX dX6_shot_89 rfl ?_
    refine zz_iret hX hr rfl (Nat.le_of_ble_eq_true rfl) (Nat.le_of_ble_eq_true rfl) dX6_shot_90 ?_
    exact ⟨_, rfl, Or.inr (Or.inr (Or.inl ⟨⟨hA0, hA1⟩, (fun h => hB1 (h.2)), (zm_u2s), (zM_th hM)⟩)), (zr_mf zr_same.rfl' (by unfold zr_mout; omega))⟩
  by_cases hC0 : zv_ns S < 8
  rotate_left
  · skip
    refine zz_aload_n hX dX6_shot_0 0 rfl rfl ?_
    refine zz_iload_n hX dX6_shot_1 1 rfl rfl ?_
    refine zz_vI (x := zz_bi (zs_ix (nI p) (zv_np S))) hX zf_M_X6_95 (As := [.int (nI p)]) (st := []) (M_isPuppet S sh mi mr hW hM (nI p)) hM.1 rfl rfl rfl (by decide) (Nat.le_of_ble_eq_true rfl) (Nat.le_of_ble_eq_true rfl) (Nat.le_of_ble_eq_true rfl) dX6_shot_2 ?_
    refine zz_if_eqB hX 21 dX6_shot_5 (by decide) (fun c5 => absurd (show zs_ix (nI p) (zv_np S) from hA0) c5) (fun c5 => ?_)
    refine zz_aload_n hX dX6_shot_8 0 rfl rfl ?_
    refine zz_iload hX dX6_shot_9 4 rfl ?_
    refine zz_vI (x := zz_bi (v = -1 ∨ zs_ix v (zv_nv S))) hX zf_M_X6_114 (As := [.int v]) (st := []) (M_isVoice S sh mi mr hW hM v) hM.1 rfl rfl rfl (by decide) (Nat.le_of_ble_eq_true rfl) (Nat.le_of_ble_eq_true rfl) (Nat.le_of_ble_eq_true rfl) dX6_shot_11 ?_
    refine zz_if_eqB hX 21 dX6_shot_14 (by decide) (fun c14 => absurd (show v = -1 ∨ zs_ix v (zv_nv S) from hA1) c14) (fun c14 => ?_)
    refine zz_iconst (v := nI 1) hX dX6_shot_17 rfl ?_
    refine zz_goto hX 22 dX6_shot_18 (by decide) ?_
    refine zz_istore (ls' := [(0, .ref 1), (1, .int (nI p)), (2, .int nx), (3, .int tx), (4, .int v), (5, .int (nI 1))]) hX dX6_shot_22 (Nat.le_of_ble_eq_true rfl) rfl ?_
    refine zz_iload_n hX dX6_shot_24 2 rfl rfl ?_
    refine zz_iconst (v := nI 1) hX dX6_shot_25 rfl ?_
    refine zz_bipush (v := nI 48) hX dX6_shot_26 rfl ?_
    refine zz_sI (x := zz_bi (nI 1 ≤ nx ∧ nx ≤ nI 48)) hX zf_M_X6_91 (As := [.int nx, .int (nI 1), .int (nI 48)]) (st := []) (m_isIn nx (nI 1) (nI 48) sh mi mr) rfl rfl (by decide) (Nat.le_of_ble_eq_true rfl) (Nat.le_of_ble_eq_true rfl) (Nat.le_of_ble_eq_true rfl) dX6_shot_28 ?_
    refine zz_if_eqB hX 47 dX6_shot_31 (by decide) (fun c31 => absurd (show nI 1 ≤ nx ∧ nx ≤ nI 48 from hB0) c31) (fun c31 => ?_)
    refine zz_iload_n hX dX6_shot_34 3 rfl rfl ?_
    refine zz_iconst (v := nI 1) hX dX6_shot_35 rfl ?_
    refine zz_iconst (v := nI 2) hX dX6_shot_36 rfl ?_
    refine zz_sI (x := zz_bi (nI 1 ≤ tx ∧ tx ≤ nI 2)) hX zf_M_X6_91 (As := [.int tx, .int (nI 1), .int (nI 2)]) (st := []) (m_isIn tx (nI 1) (nI 2) sh mi mr) rfl rfl (by decide) (Nat.le_of_ble_eq_true rfl) (Nat.le_of_ble_eq_true rfl) (Nat.le_of_ble_eq_true rfl) dX6_shot_37 ?_
    refine zz_if_eqB hX 47 dX6_shot_40 (by decide) (fun c40 => absurd (show nI 1 ≤ tx ∧ tx ≤ nI 2 from hB1) c40) (fun c40 => ?_)
    refine zz_iconst (v := nI 1) hX dX6_shot_43 rfl ?_
    refine zz_goto hX 48 dX6_shot_44 (by decide) ?_
    refine zz_istore (ls' := [(0, .ref 1), (1, .int (nI p)), (2, .int nx), (3, .int tx), (4, .int v), (5, .int (nI 1)), (6, .int (nI 1))]) hX dX6_shot_48 (Nat.le_of_ble_eq_true rfl) rfl ?_
    refine zz_aload_n hX dX6_shot_50 0 rfl rfl ?_
    refine zz_iload hX dX6_shot_51 5 rfl ?_
    refine zz_if_ne hX 60 dX6_shot_53 (by decide) (fun _ => ?_) (fun c => absurd c (by decide))
    refine zz_iload hX dX6_shot_60 6 rfl ?_
    refine zz_if_ne hX 69 dX6_shot_62 (by decide) (fun _ => ?_) (fun c => absurd c (by decide))
    refine zz_aload_n hX dX6_shot_69 0 rfl rfl ?_
    refine zz_getI (x := nI (zv_ns S)) hX zf_F_X6_102.r hM.1 rfl (((zM_c9 hM).trans s0)) dX6_shot_70 ?_
    refine zz_bipush (v := nI 8) hX dX6_shot_73 rfl ?_
    refine zz_icmp_neN hX (by omega) (by decide) 82 dX6_shot_75 (by decide) (fun c75 => absurd c75 (by omega)) (fun c75 => ?_)
    refine zz_iconst (v := nI 3) hX dX6_shot_78 rfl ?_
    refine zz_goto hX 83 dX6_shot_79 (by decide) ?_
    refine zz_vI (x := nI 1) hX zf_M_X6_108 (As := [.int (nI 3)]) (st := []) (m_fails3 sh mi mr hM.1) hM.1 rfl rfl rfl (by decide) (Nat.le_of_ble_eq_true rfl) (Nat.le_of_ble_eq_true rfl) (Nat.le_of_ble_eq_true rfl) dX6_shot_83 ?_
    refine zz_if_eq hX 91 dX6_shot_86 (by decide) (fun c => absurd c (by decide)) (fun _ => ?_)
    refine zz_iconst (v := nI 0) hX dX6_shot_89 rfl ?_
    refine zz_iret hX hr rfl (Nat.le_of_ble_eq_true rfl) (Nat.le_of_ble_eq_true rfl) dX6_shot_90 ?_
    exact ⟨_, rfl, Or.inr (Or.inr (Or.inr ⟨⟨hA0, hA1⟩, ⟨hB0, hB1⟩, (fun h => hC0 (h)), (zm_u2s), (zM_th hM)⟩)), (zr_mf zr_same.rfl' (by unfold zr_mout; omega))⟩
  refine zz_aload_n hX dX6_shot_0 0 rfl rfl ?_
  refine zz_iload_n hX dX6_shot_1 1 rfl rfl ?_
  refine zz_vI (x := zz_bi (zs_ix (nI p) (zv_np S))) hX zf_M_X6_95 (As := [.int (nI p)]) (st := []) (M_isPuppet S sh mi mr hW hM (nI p)) hM.1 rfl rfl rfl (by decide) (Nat.le_of_ble_eq_true rfl) (Nat.le_of_ble_eq_true rfl) (Nat.le_of_ble_eq_true rfl) dX6_shot_2 ?_
  refine zz_if_eqB hX 21 dX6_shot_5 (by decide) (fun c5 => absurd (show zs_ix (nI p) (zv_np S) from hA0) c5) (fun c5 => ?_)
  refine zz_aload_n hX dX6_shot_8 0 rfl rfl ?_
  refine zz_iload hX dX6_shot_9 4 rfl ?_
  refine zz_vI (x := zz_bi (v = -1 ∨ zs_ix v (zv_nv S))) hX zf_M_X6_114 (As := [.int v]) (st := []) (M_isVoice S sh mi mr hW hM v) hM.1 rfl rfl rfl (by decide) (Nat.le_of_ble_eq_true rfl) (Nat.le_of_ble_eq_true rfl) (Nat.le_of_ble_eq_true rfl) dX6_shot_11 ?_
  refine zz_if_eqB hX 21 dX6_shot_14 (by decide) (fun c14 => absurd (show v = -1 ∨ zs_ix v (zv_nv S) from hA1) c14) (fun c14 => ?_)
  refine zz_iconst (v := nI 1) hX dX6_shot_17 rfl ?_
  refine zz_goto hX 22 dX6_shot_18 (by decide) ?_
  refine zz_istore (ls' := [(0, .ref 1), (1, .int (nI p)), (2, .int nx), (3, .int tx), (4, .int v), (5, .int (nI 1))]) hX dX6_shot_22 (Nat.le_of_ble_eq_true rfl) rfl ?_
  refine zz_iload_n hX dX6_shot_24 2 rfl rfl ?_
  refine zz_iconst (v := nI 1) hX dX6_shot_25 rfl ?_
  refine zz_bipush (v := nI 48) hX dX6_shot_26 rfl ?_
  refine zz_sI (x := zz_bi (nI 1 ≤ nx ∧ nx ≤ nI 48)) hX zf_M_X6_91 (As := [.int nx, .int (nI 1), .int (nI 48)]) (st := []) (m_isIn nx (nI 1) (nI 48) sh mi mr) rfl rfl (by decide) (Nat.le_of_ble_eq_true rfl) (Nat.le_of_ble_eq_true rfl) (Nat.le_of_ble_eq_true rfl) dX6_shot_28 ?_
  refine zz_if_eqB hX 47 dX6_shot_31 (by decide) (fun c31 => absurd (show nI 1 ≤ nx ∧ nx ≤ nI 48 from hB0) c31) (fun c31 => ?_)
  refine zz_iload_n hX dX6_shot_34 3 rfl rfl ?_
  refine zz_iconst (v := nI 1) hX dX6_shot_35 rfl ?_
  refine zz_iconst (v := nI 2) hX dX6_shot_36 rfl ?_
  refine zz_sI (x := zz_bi (nI 1 ≤ tx ∧ tx ≤ nI 2)) hX zf_M_X6_91 (As := [.int tx, .int (nI 1), .int (nI 2)]) (st := []) (m_isIn tx (nI 1) (nI 2) sh mi mr) rfl rfl (by decide) (Nat.le_of_ble_eq_true rfl) (Nat.le_of_ble_eq_true rfl) (Nat.le_of_ble_eq_true rfl) dX6_shot_37 ?_
  refine zz_if_eqB hX 47 dX6_shot_40 (by decide) (fun c40 => absurd (show nI 1 ≤ tx ∧ tx ≤ nI 2 from hB1) c40) (fun c40 => ?_)
  refine zz_iconst (v := nI 1) hX dX6_shot_43 rfl ?_
  refine zz_goto hX 48 dX6_shot_44 (by decide) ?_
  refine zz_istore (ls' := [(0, .ref 1), (1, .int (nI p)), (2, .int nx), (3, .int tx), (4, .int v), (5, .int (nI 1)), (6, .int (nI 1))]) hX dX6_shot_48 (Nat.le_of_ble_eq_true rfl) rfl ?_
  refine zz_aload_n hX dX6_shot_50 0 rfl rfl ?_
  refine zz_iload hX dX6_shot_51 5 rfl ?_
  refine zz_if_ne hX 60 dX6_shot_53 (by decide) (fun _ => ?_) (fun c => absurd c (by decide))
  refine zz_iload hX dX6_shot_60 6 rfl ?_
  refine zz_if_ne hX 69 dX6_shot_62 (by decide) (fun _ => ?_) (fun c => absurd c (by decide))
  refine zz_aload_n hX dX6_shot_69 0 rfl rfl ?_
  refine zz_getI (x := nI (zv_ns S)) hX zf_F_X6_102.r hM.1 rfl (((zM_c9 hM).trans s0)) dX6_shot_70 ?_
  refine zz_bipush (v := nI 8) hX dX6_shot_73 rfl ?_
  refine zz_icmp_neN hX (by omega) (by decide) 82 dX6_shot_75 (by decide) (fun c75 => ?_) (fun c75 => absurd c75 (by omega))
  refine zz_iconst (v := nI 0) hX dX6_shot_82 rfl ?_
  refine zz_vI (x := nI 0) hX zf_M_X6_108 (As := [.int (nI 0)]) (st := []) (m_fails0 sh mi mr hM.1) hM.1 rfl rfl rfl (by decide) (Nat.le_of_ble_eq_true rfl) (Nat.le_of_ble_eq_true rfl) (Nat.le_of_ble_eq_true rfl) dX6_shot_83 ?_
  refine zz_if_eq hX 91 dX6_shot_86 (by decide) (fun _ => ?_) (fun c => absurd c (by decide))
  refine zz_aload_n hX dX6_shot_91 0 rfl rfl ?_
  refine zz_getR (y := 110) hX zf_F_X6_31.r hM.1 rfl (zM_r10 hM).1 dX6_shot_92 ?_
  refine zz_aload_n hX dX6_shot_95 0 rfl rfl ?_
  refine zz_getI (x := nI (zv_ns S)) hX zf_F_X6_102.r hM.1 rfl (((zm_u2k (by decide))).trans (((zM_c9 hM).trans s0))) dX6_shot_96 ?_
  refine zz_iload_n hX dX6_shot_99 1 rfl rfl ?_
  refine zz_iast hX (zM_r10 hM).2 (zv_ns S) rfl (by omega) (by decide) dX6_shot_100 ?_
  refine zz_aload_n hX dX6_shot_101 0 rfl rfl ?_
  refine zz_getR (y := 111) hX zf_F_X6_34.r hM.1 rfl (zM_r11 hM).1 dX6_shot_102 ?_
  refine zz_aload_n hX dX6_shot_105 0 rfl rfl ?_
  refine zz_getI (x := nI (zv_ns S)) hX zf_F_X6_102.r hM.1 rfl (((zm_u2l (by decide))).trans (((zm_u2k (by decide))).trans (((zM_c9 hM).trans s0)))) dX6_shot_106 ?_
  refine zz_iload_n hX dX6_shot_109 2 rfl rfl ?_
  refine zz_iast hX (zM_r11 hM).2 (zv_ns S) rfl (by omega) (by decide) dX6_shot_110 ?_
  refine zz_aload_n hX dX6_shot_111 0 rfl rfl ?_
  refine zz_getR (y := 112) hX zf_F_X6_37.r hM.1 rfl (zM_r12 hM).1 dX6_shot_112 ?_
  refine zz_aload_n hX dX6_shot_115 0 rfl rfl ?_
  refine zz_getI (x := nI (zv_ns S)) hX zf_F_X6_102.r hM.1 rfl (((zm_u2l (by decide))).trans (((zm_u2l (by decide))).trans (((zm_u2k (by decide))).trans (((zM_c9 hM).trans s0))))) dX6_shot_116 ?_
  refine zz_iload_n hX dX6_shot_119 3 rfl rfl ?_
  refine zz_iast hX (zM_r12 hM).2 (zv_ns S) rfl (by omega) (by decide) dX6_shot_120 ?_
  refine zz_aload_n hX dX6_shot_121 0 rfl rfl ?_
  refine zz_getR (y := 113) hX zf_F_X6_40.r hM.1 rfl (zM_r13 hM).1 dX6_shot_122 ?_
  refine zz_aload_n hX dX6_shot_125 0 rfl rfl ?_
  refine zz_getI (x := nI (zv_ns S)) hX zf_F_X6_102.r hM.1 rfl (((zm_u2l (by decide))).trans (((zm_u2l (by decide))).trans (((zm_u2l (by decide))).trans (((zm_u2k (by decide))).trans (((zM_c9 hM).trans s0)))))) dX6_shot_126 ?_
  refine zz_iload hX dX6_shot_129 4 rfl ?_
  refine zz_iast hX (zM_r13 hM).2 (zv_ns S) rfl (by omega) (by decide) dX6_shot_131 ?_
  refine zz_aload_n hX dX6_shot_132 0 rfl rfl ?_
  refine zz_getR (y := 114) hX zf_F_X6_43.r hM.1 rfl (zM_r14 hM).1 dX6_shot_133 ?_
  refine zz_aload_n hX dX6_shot_136 0 rfl rfl ?_
  refine zz_getI (x := nI (zv_ns S)) hX zf_F_X6_102.r hM.1 rfl (((zm_u2l (by decide))).trans (((zm_u2l (by decide))).trans (((zm_u2l (by decide))).trans (((zm_u2l (by decide))).trans (((zm_u2k (by decide))).trans (((zM_c9 hM).trans s0))))))) dX6_shot_137 ?_
  refine zz_iconst (v := (-1)) hX dX6_shot_140 rfl ?_
  refine zz_iast hX (zM_r14 hM).2 (zv_ns S) rfl (by omega) (by decide) dX6_shot_141 ?_
  refine zz_aload_n hX dX6_shot_142 0 rfl rfl ?_
  refine zz_dup hX dX6_shot_143 rfl ?_
  refine zz_getI (x := nI (zv_ns S)) hX zf_F_X6_102.r hM.1 rfl (((zm_u2l (by decide))).trans (((zm_u2l (by decide))).trans (((zm_u2l (by decide))).trans (((zm_u2l (by decide))).trans (((zm_u2l (by decide))).trans (((zm_u2k (by decide))).trans (((zM_c9 hM).trans s0)))))))) dX6_shot_144 ?_
  refine zz_iconst (v := nI 1) hX dX6_shot_147 rfl ?_
  refine zz_iadd (z := nI ((zv_ns S) + 1)) hX dX6_shot_148 (nI_add _ _) ?_
  refine zz_putI hX zf_F_X6_102 hM.1 rfl rfl rfl dX6_shot_149 ?_
  refine zz_aload_n hX dX6_shot_152 0 rfl rfl ?_
  refine zz_getI (x := nI ((zv_ns S) + 1)) hX zf_F_X6_102.r hM.1 rfl (zm_u2s) dX6_shot_153 ?_
  refine zz_iconst (v := nI 1) hX dX6_shot_156 rfl ?_
  refine zz_isub (z := nI (((zv_ns S) + 1) - 1)) hX dX6_shot_157 (pk_sub (by omega)) ?_
  refine zz_iret hX hr rfl (Nat.le_of_ble_eq_true rfl) (Nat.le_of_ble_eq_true rfl) dX6_shot_158 ?_
  exact ⟨_, rfl, Or.inl ⟨⟨hA0, hA1⟩, ⟨hB0, hB1⟩, hC0, (((zm_u2k (by decide))).trans (((zm_u2l (by decide))).trans (((zm_u2l (by decide))).trans (((zm_u2l (by decide))).trans (((zm_u2l (by decide))).trans (((zm_u2l (by decide))).trans (zm_u2s))))))), rfl, (by (try rw [z_p]); exact (zM_sc (r := 9) (zM_set (r := 14) (zM_set (r := 13) (zM_set (r := 12) (zM_set (r := 11) (zM_set (r := 10) (zM_th hM) (by decide)) (by decide)) (by decide)) (by decide)) (by decide)) (by decide)))⟩, (zr_mf (zr_mf (zr_mf (zr_mf (zr_mf (zr_mf (zr_mf zr_same.rfl' (by unfold zr_mout; omega)) (by unfold zr_mout; omega)) (by unfold zr_mout; omega)) (by unfold zr_mout; omega)) (by unfold zr_mout; omega)) (by unfold zr_mout; omega)) (by unfold zr_mout; omega))⟩

set_option maxRecDepth 20000 in
theorem MP_assign (S : zS) (sh : zm_Sh) (mi : zm_Mi) (mr : zm_Mr) (hW : zW S) (hM : zM S sh mi mr) (s ax : Int32)  : zz_Con yX6_assign (.code yX6_assign cX6_assign 6 (some Jvm.ClassFile.FieldType.int)) 6 0 0 [.ref 1, .int s, .int ax] sh mi mr (zq_m ((zs_ix s (zv_ns S)) ∧ (zs_ix ax 5)) (True) ((¬ zv_fr S (zn s) ≤ zv_sk S (zn s)) ∧ (0 < zv_sk S (zn s) → (¬ S 14 (zn s) = -1 ∧ ¬ S 17 (zn (S 14 (zn s))) = 0))) (nI 1) (nI 2) (nI 2) (S 14 (zn s)) S (zm_u2 S 14 (zn s) (ax)) sh mi mr) zz_none := by
  refine zz_begin RX6 [(0, .ref 1), (1, .int s), (2, .int ax)] (by decide) rfl rfl (Nat.le_of_ble_eq_true rfl) rfl ?_
  intro Γ D E ad hX hr hN hT
  obtain ⟨hWp, hWv, hWs, hWk, hWr, hWf⟩ := id hW
  obtain ⟨p0, p1, p2, p3, p4, p5⟩ := hWp
  obtain ⟨v0, v1, v2, v3, v4⟩ := hWv
  obtain ⟨s0, s1, s2, s3⟩ := hWs
  obtain ⟨f0, f1, f2, f3⟩ := hWf
  by_cases hA0 : zs_ix s (zv_ns S)
  rotate_left
  · skip
    refine zz_aload_n hX dX6_assign_0 0 rfl rfl ?_
    refine zz_iload_n hX dX6_assign_1 1 rfl rfl ?_
    refine zz_vI (x := zz_bi (zs_ix s (zv_ns S))) hX zf_M_X6_105 (As := [.int s]) (st := []) (M_isShot S sh mi mr hW hM s) hM.1 rfl rfl rfl (by decide) (Nat.le_of_ble_eq_true rfl) (Nat.le_of_ble_eq_true rfl) (Nat.le_of_ble_eq_true rfl) dX6_assign_2 ?_
    refine zz_if_eqB hX 19 dX6_assign_5 (by decide) (fun c5 => ?_) (fun c5 => absurd c5 (show ¬ (zs_ix s (zv_ns S)) from hA0))
    refine zz_iconst (v := nI 0) hX dX6_assign_19 rfl ?_
    refine zz_istore_n (ls' := [(0, .ref 1), (1, .int s), (2, .int ax), (3, .int (nI 0))]) hX dX6_assign_20 rfl (Nat.le_of_ble_eq_true rfl) rfl ?_
    refine zz_iload_n hX dX6_assign_21 3 rfl rfl ?_
    refine zz_if_eq hX 60 dX6_assign_22 (by decide) (fun _ => ?_) (fun c => absurd c (by decide))
    refine zz_iconst (v := nI 0) hX dX6_assign_60 rfl ?_
    refine zz_istore (ls' := [(0, .ref 1), (1, .int s), (2, .int ax), (3, .int (nI 0)), (4, .int (nI 0))]) hX dX6_assign_61 (Nat.le_of_ble_eq_true rfl) rfl ?_
    refine zz_aload_n hX dX6_assign_63 0 rfl rfl ?_
    refine zz_iload_n hX dX6_assign_64 3 rfl rfl ?_
    refine zz_if_ne hX 72 dX6_assign_65 (by decide) (fun c => absurd c (by decide)) (fun _ => ?_)
    refine zz_iconst (v := nI 1) hX dX6_assign_68 rfl ?_
    refine zz_goto hX 82 dX6_assign_69 (by decide) ?_
    refine zz_vI (x := nI 1) hX zf_M_X6_108 (As := [.int (nI 1)]) (st := []) (m_fails1 sh mi mr hM.1) hM.1 rfl rfl rfl (by decide) (Nat.le_of_ble_eq_true rfl) (Nat.le_of_ble_eq_true rfl) (Nat.le_of_ble_eq_true rfl) dX6_assign_82 ?_
    refine zz_if_eq hX 90 dX6_assign_85 (by decide) (fun c => absurd c (by decide)) (fun _ => ?_)
    refine zz_iconst (v := nI 0) hX dX6_assign_88 rfl ?_
    refine zz_iret hX hr rfl (Nat.le_of_ble_eq_true rfl) (Nat.le_of_ble_eq_true rfl) dX6_assign_89 ?_
    exact ⟨_, rfl, Or.inr (Or.inl ⟨(fun h => hA0 (h.1)), (zm_u2s), (zM_th hM)⟩), (zr_mf zr_same.rfl' (by unfold zr_mout; omega))⟩
  obtain ⟨i, hi, rfl⟩ := zs_ix_of hA0 (by omega)
  have z_i : zn (nI i) = i := nI_clamp (n := i) (by omega)
  obtain ⟨b1, b2, b3, b4, b5, b6, b7, b8, b9, b10, b11, b12, b13⟩ := s2 i hi
  have hjn9 := (p2 _ b2).2.2
  by_cases hA1 : zs_ix ax 5
  rotate_left
  · skip
    refine zz_aload_n hX dX6_assign_0 0 rfl rfl ?_
    refine zz_iload_n hX dX6_assign_1 1 rfl rfl ?_
    refine zz_vI (x := zz_bi (zs_ix (nI i) (zv_ns S))) hX zf_M_X6_105 (As := [.int (nI i)]) (st := []) (M_isShot S sh mi mr hW hM (nI i)) hM.1 rfl rfl rfl (by decide) (Nat.le_of_ble_eq_true rfl) (Nat.le_of_ble_eq_true rfl) (Nat.le_of_ble_eq_true rfl) dX6_assign_2 ?_
    refine zz_if_eqB hX 19 dX6_assign_5 (by decide) (fun c5 => absurd (show zs_ix (nI i) (zv_ns S) from hA0) c5) (fun c5 => ?_)
    refine zz_iload_n hX dX6_assign_8 2 rfl rfl ?_
    refine zz_sI (x := zz_bi (zs_ix ax 5)) hX zf_M_X6_120 (As := [.int ax]) (st := []) (m_isAnimator ax sh mi mr) rfl rfl (by decide) (Nat.le_of_ble_eq_true rfl) (Nat.le_of_ble_eq_true rfl) (Nat.le_of_ble_eq_true rfl) dX6_assign_9 ?_
    refine zz_if_eqB hX 19 dX6_assign_12 (by decide) (fun c12 => ?_) (fun c12 => absurd c12 (show ¬ (zs_ix ax 5) from hA1))
    refine zz_iconst (v := nI 0) hX dX6_assign_19 rfl ?_
    refine zz_istore_n (ls' := [(0, .ref 1), (1, .int (nI i)), (2, .int ax), (3, .int (nI 0))]) hX dX6_assign_20 rfl (Nat.le_of_ble_eq_true rfl) rfl ?_
    refine zz_iload_n hX dX6_assign_21 3 rfl rfl ?_
    refine zz_if_eq hX 60 dX6_assign_22 (by decide) (fun _ => ?_) (fun c => absurd c (by decide))
    refine zz_iconst (v := nI 0) hX dX6_assign_60 rfl ?_
    refine zz_istore (ls' := [(0, .ref 1), (1, .int (nI i)), (2, .int ax), (3, .int (nI 0)), (4, .int (nI 0))]) hX dX6_assign_61 (Nat.le_of_ble_eq_true rfl) rfl ?_
    refine zz_aload_n hX dX6_assign_63 0 rfl rfl ?_
    refine zz_iload_n hX dX6_assign_64 3 rfl rfl ?_
    refine zz_if_ne hX 72 dX6_assign_65 (by decide) (fun c => absurd c (by decide)) (fun _ => ?_)
    refine zz_iconst (v := nI 1) hX dX6_assign_68 rfl ?_
    refine zz_goto hX 82 dX6_assign_69 (by decide) ?_
    refine zz_vI (x := nI 1) hX zf_M_X6_108 (As := [.int (nI 1)]) (st := []) (m_fails1 sh mi mr hM.1) hM.1 rfl rfl rfl (by decide) (Nat.le_of_ble_eq_true rfl) (Nat.le_of_ble_eq_true rfl) (Nat.le_of_ble_eq_true rfl) dX6_assign_82 ?_
    refine zz_if_eq hX 90 dX6_assign_85 (by decide) (fun c => absurd c (by decide)) (fun _ => ?_)
    refine zz_iconst (v := nI 0) hX dX6_assign_88 rfl ?_
    refine zz_iret hX hr rfl (Nat.le_of_ble_eq_true rfl) (Nat.le_of_ble_eq_true rfl) dX6_assign_89 ?_
    exact ⟨_, rfl, Or.inr (Or.inl ⟨(fun h => hA1 (h.2)), (zm_u2s), (zM_th hM)⟩), (zr_mf zr_same.rfl' (by unfold zr_mout; omega))⟩
  obtain ⟨a, ha, rfl⟩ := zs_ix_of hA1 (by omega)
  have z_a : zn (nI a) = a := nI_clamp (n := a) (by omega)
  by_cases hC0 : ¬ zv_fr S (zn (nI i)) ≤ zv_sk S (zn (nI i))
  rotate_left
  · skip
    have hC0n : ¬ (¬ zv_fr S (i) ≤ zv_sk S (i)) := by have q9 := hC0; (try rw [z_i] at q9); (try rw [z_a] at q9); exact q9
    refine zz_aload_n hX dX6_assign_0 0 rfl rfl ?_
    refine zz_iload_n hX dX6_assign_1 1 rfl rfl ?_
    refine zz_vI (x := zz_bi (zs_ix (nI i) (zv_ns S))) hX zf_M_X6_105 (As := [.int (nI i)]) (st := []) (M_isShot S sh mi mr hW hM (nI i)) hM.1 rfl rfl rfl (by decide) (Nat.le_of_ble_eq_true rfl) (Nat.le_of_ble_eq_true rfl) (Nat.le_of_ble_eq_true rfl) dX6_assign_2 ?_
    refine zz_if_eqB hX 19 dX6_assign_5 (by decide) (fun c5 => absurd (show zs_ix (nI i) (zv_ns S) from hA0) c5) (fun c5 => ?_)
    refine zz_iload_n hX dX6_assign_8 2 rfl rfl ?_
    refine zz_sI (x := zz_bi (zs_ix (nI a) 5)) hX zf_M_X6_120 (As := [.int (nI a)]) (st := []) (m_isAnimator (nI a) sh mi mr) rfl rfl (by decide) (Nat.le_of_ble_eq_true rfl) (Nat.le_of_ble_eq_true rfl) (Nat.le_of_ble_eq_true rfl) dX6_assign_9 ?_
    refine zz_if_eqB hX 19 dX6_assign_12 (by decide) (fun c12 => absurd (show zs_ix (nI a) 5 from hA1) c12) (fun c12 => ?_)
    refine zz_iconst (v := nI 1) hX dX6_assign_15 rfl ?_
    refine zz_goto hX 20 dX6_assign_16 (by decide) ?_
    refine zz_istore_n (ls' := [(0, .ref 1), (1, .int (nI i)), (2, .int (nI a)), (3, .int (nI 1))]) hX dX6_assign_20 rfl (Nat.le_of_ble_eq_true rfl) rfl ?_
    refine zz_iload_n hX dX6_assign_21 3 rfl rfl ?_
    refine zz_if_eq hX 60 dX6_assign_22 (by decide) (fun c => absurd c (by decide)) (fun _ => ?_)
    refine zz_aload_n hX dX6_assign_25 0 rfl rfl ?_
    refine zz_iload_n hX dX6_assign_26 1 rfl rfl ?_
    refine zz_vI (x := zz_bi (zv_fr S i ≤ zv_sk S i)) hX zf_M_X6_117 (As := [.int (nI i)]) (st := []) (M_isDone S sh mi mr hW hM i hi) hM.1 rfl rfl rfl (by decide) (Nat.le_of_ble_eq_true rfl) (Nat.le_of_ble_eq_true rfl) (Nat.le_of_ble_eq_true rfl) dX6_assign_27 ?_
    refine zz_if_neB hX 60 dX6_assign_30 (by decide) (fun c30 => ?_) (fun c30 => absurd (show zv_fr S i ≤ zv_sk S i from (Classical.byContradiction hC0n)) c30)
    refine zz_iconst (v := nI 0) hX dX6_assign_60 rfl ?_
    refine zz_istore (ls' := [(0, .ref 1), (1, .int (nI i)), (2, .int (nI a)), (3, .int (nI 1)), (4, .int (nI 0))]) hX dX6_assign_61 (Nat.le_of_ble_eq_true rfl) rfl ?_
    refine zz_aload_n hX dX6_assign_63 0 rfl rfl ?_
    refine zz_iload_n hX dX6_assign_64 3 rfl rfl ?_
    refine zz_if_ne hX 72 dX6_assign_65 (by decide) (fun _ => ?_) (fun c => absurd c (by decide))
    refine zz_iload hX dX6_assign_72 4 rfl ?_
    refine zz_if_eq hX 81 dX6_assign_74 (by decide) (fun _ => ?_) (fun c => absurd c (by decide))
    refine zz_iconst (v := nI 2) hX dX6_assign_81 rfl ?_
    refine zz_vI (x := nI 1) hX zf_M_X6_108 (As := [.int (nI 2)]) (st := []) (m_fails2 sh mi mr hM.1) hM.1 rfl rfl rfl (by decide) (Nat.le_of_ble_eq_true rfl) (Nat.le_of_ble_eq_true rfl) (Nat.le_of_ble_eq_true rfl) dX6_assign_82 ?_
    refine zz_if_eq hX 90 dX6_assign_85 (by decide) (fun c => absurd c (by decide)) (fun _ => ?_)
    refine zz_iconst (v := nI 0) hX dX6_assign_88 rfl ?_
    refine zz_iret hX hr rfl (Nat.le_of_ble_eq_true rfl) (Nat.le_of_ble_eq_true rfl) dX6_assign_89 ?_
    exact ⟨_, rfl, Or.inr (Or.inr (Or.inr ⟨⟨hA0, hA1⟩, trivial, (fun h => hC0 (h.1)), (zm_u2s), (zM_th hM)⟩)), (zr_mf zr_same.rfl' (by unfold zr_mout; omega))⟩
  have hC0n : ¬ zv_fr S (i) ≤ zv_sk S (i) := by have q9 := hC0; (try rw [z_i] at q9); (try rw [z_a] at q9); exact q9
  by_cases hC1 : 0 < zv_sk S (zn (nI i)) → (¬ S 14 (zn (nI i)) = -1 ∧ ¬ S 17 (zn (S 14 (zn (nI i)))) = 0)
  rotate_left
  · skip
    have hC1n : ¬ (0 < zv_sk S (i) → (¬ S 14 (i) = -1 ∧ ¬ S 17 (zn (S 14 (i))) = 0)) := by have q9 := hC1; (try rw [z_i] at q9); (try rw [z_a] at q9); exact q9
    refine zz_aload_n hX dX6_assign_0 0 rfl rfl ?_
    refine zz_iload_n hX dX6_assign_1 1 rfl rfl ?_
    refine zz_vI (x := zz_bi (zs_ix (nI i) (zv_ns S))) hX zf_M_X6_105 (As := [.int (nI i)]) (st := []) (M_isShot S sh mi mr hW hM (nI i)) hM.1 rfl rfl rfl (by decide) (Nat.le_of_ble_eq_true rfl) (Nat.le_of_ble_eq_true rfl) (Nat.le_of_ble_eq_true rfl) dX6_assign_2 ?_
    refine zz_if_eqB hX 19 dX6_assign_5 (by decide) (fun c5 => absurd (show zs_ix (nI i) (zv_ns S) from hA0) c5) (fun c5 => ?_)
    refine zz_iload_n hX dX6_assign_8 2 rfl rfl ?_
    refine zz_sI (x := zz_bi (zs_ix (nI a) 5)) hX zf_M_X6_120 (As := [.int (nI a)]) (st := []) (m_isAnimator (nI a) sh mi mr) rfl rfl (by decide) (Nat.le_of_ble_eq_true rfl) (Nat.le_of_ble_eq_true rfl) (Nat.le_of_ble_eq_true rfl) dX6_assign_9 ?_
    refine zz_if_eqB hX 19 dX6_assign_12 (by decide) (fun c12 => absurd (show zs_ix (nI a) 5 from hA1) c12) (fun c12 => ?_)
    refine zz_iconst (v := nI 1) hX dX6_assign_15 rfl ?_
    refine zz_goto hX 20 dX6_assign_16 (by decide) ?_
    refine zz_istore_n (ls' := [(0, .ref 1), (1, .int (nI i)), (2, .int (nI a)), (3, .int (nI 1))]) hX dX6_assign_20 rfl (Nat.le_of_ble_eq_true rfl) rfl ?_
    refine zz_iload_n hX dX6_assign_21 3 rfl rfl ?_
    refine zz_if_eq hX 60 dX6_assign_22 (by decide) (fun c => absurd c (by decide)) (fun _ => ?_)
    refine zz_aload_n hX dX6_assign_25 0 rfl rfl ?_
    refine zz_iload_n hX dX6_assign_26 1 rfl rfl ?_
    refine zz_vI (x := zz_bi (zv_fr S i ≤ zv_sk S i)) hX zf_M_X6_117 (As := [.int (nI i)]) (st := []) (M_isDone S sh mi mr hW hM i hi) hM.1 rfl rfl rfl (by decide) (Nat.le_of_ble_eq_true rfl) (Nat.le_of_ble_eq_true rfl) (Nat.le_of_ble_eq_true rfl) dX6_assign_27 ?_
    refine zz_if_neB hX 60 dX6_assign_30 (by decide) (fun c30 => absurd c30 (show ¬ (zv_fr S i ≤ zv_sk S i) from hC0n)) (fun c30 => ?_)
    refine zz_aload_n hX dX6_assign_33 0 rfl rfl ?_
    refine zz_getR (y := 115) hX zf_F_X6_46.r hM.1 rfl (zM_r15 hM).1 dX6_assign_34 ?_
    refine zz_iload_n hX dX6_assign_37 1 rfl rfl ?_
    refine zz_iald (x := nI (zv_sk S i)) hX (zM_r15 hM).2 i rfl (by omega) (by decide) (((zM_v15 hM (k := i) (by omega)).trans (s2 i hi).2.2.2.2.2.2.2.2.2.2.1)) dX6_assign_38 ?_
    refine zz_if_eqN hX (by omega) 56 dX6_assign_39 (by decide) (fun c39 => absurd (fun h => absurd h (by omega)) hC1n) (fun c39 => ?_)
    have hsk9 := b13 (by omega)
    have hm9 := zs_ix_zn hsk9 (by omega)
    refine zz_aload_n hX dX6_assign_42 0 rfl rfl ?_
    refine zz_getR (y := 117) hX zf_F_X6_52.r hM.1 rfl (zM_r17 hM).1 dX6_assign_43 ?_
    refine zz_aload_n hX dX6_assign_46 0 rfl rfl ?_
    refine zz_getR (y := 114) hX zf_F_X6_43.r hM.1 rfl (zM_r14 hM).1 dX6_assign_47 ?_
    refine zz_iload_n hX dX6_assign_50 1 rfl rfl ?_
    refine zz_iald (x := S 14 i) hX (zM_r14 hM).2 i rfl (by omega) (by decide) ((zM_v14 hM (k := i) (by omega))) dX6_assign_51 ?_
    refine zz_bald (x := S 17 (zn (S 14 i))) hX (zM_r17 hM).2 (zn (S 14 i)) hm9.2 (by omega) (by decide) ((zM_v17 hM (k := zn (S 14 i)) (by omega))) dX6_assign_52 ?_
    refine zz_if_eq hX 60 dX6_assign_53 (by decide) (fun c53 => ?_) (fun c53 => absurd (fun _ => ⟨fun e => zs_ix_m1 (e ▸ hsk9), c53⟩) hC1n)
    refine zz_iconst (v := nI 0) hX dX6_assign_60 rfl ?_
    refine zz_istore (ls' := [(0, .ref 1), (1, .int (nI i)), (2, .int (nI a)), (3, .int (nI 1)), (4, .int (nI 0))]) hX dX6_assign_61 (Nat.le_of_ble_eq_true rfl) rfl ?_
    refine zz_aload_n hX dX6_assign_63 0 rfl rfl ?_
    refine zz_iload_n hX dX6_assign_64 3 rfl rfl ?_
    refine zz_if_ne hX 72 dX6_assign_65 (by decide) (fun _ => ?_) (fun c => absurd c (by decide))
    refine zz_iload hX dX6_assign_72 4 rfl ?_
    refine zz_if_eq hX 81 dX6_assign_74 (by decide) (fun _ => ?_) (fun c => absurd c (by decide))
    refine zz_iconst (v := nI 2) hX dX6_assign_81 rfl ?_
    refine zz_vI (x := nI 1) hX zf_M_X6_108 (As := [.int (nI 2)]) (st := []) (m_fails2 sh mi mr hM.1) hM.1 rfl rfl rfl (by decide) (Nat.le_of_ble_eq_true rfl) (Nat.le_of_ble_eq_true rfl) (Nat.le_of_ble_eq_true rfl) dX6_assign_82 ?_
    refine zz_if_eq hX 90 dX6_assign_85 (by decide) (fun c => absurd c (by decide)) (fun _ => ?_)
    refine zz_iconst (v := nI 0) hX dX6_assign_88 rfl ?_
    refine zz_iret hX hr rfl (Nat.le_of_ble_eq_true rfl) (Nat.le_of_ble_eq_true rfl) dX6_assign_89 ?_
    exact ⟨_, rfl, Or.inr (Or.inr (Or.inr ⟨⟨hA0, hA1⟩, trivial, (fun h => hC1 (h.2)), (zm_u2s), (zM_th hM)⟩)), (zr_mf zr_same.rfl' (by unfold zr_mout; omega))⟩
  have hC1n : 0 < zv_sk S (i) → (¬ S 14 (i) = -1 ∧ ¬ S 17 (zn (S 14 (i))) = 0) := by have q9 := hC1; (try rw [z_i] at q9); (try rw [z_a] at q9); exact q9
  refine zz_aload_n hX dX6_assign_0 0 rfl rfl ?_
  refine zz_iload_n hX dX6_assign_1 1 rfl rfl ?_
  refine zz_vI (x := zz_bi (zs_ix (nI i) (zv_ns S))) hX zf_M_X6_105 (As := [.int (nI i)]) (st := []) (M_isShot S sh mi mr hW hM (nI i)) hM.1 rfl rfl rfl (by decide) (Nat.le_of_ble_eq_true rfl) (Nat.le_of_ble_eq_true rfl) (Nat.le_of_ble_eq_true rfl) dX6_assign_2 ?_
  refine zz_if_eqB hX 19 dX6_assign_5 (by decide) (fun c5 => absurd (show zs_ix (nI i) (zv_ns S) from hA0) c5) (fun c5 => ?_)
  refine zz_iload_n hX dX6_assign_8 2 rfl rfl ?_
  refine zz_sI (x := zz_bi (zs_ix (nI a) 5)) hX zf_M_X6_120 (As := [.int (nI a)]) (st := []) (m_isAnimator (nI a) sh mi mr) rfl rfl (by decide) (Nat.le_of_ble_eq_true rfl) (Nat.le_of_ble_eq_true rfl) (Nat.le_of_ble_eq_true rfl) dX6_assign_9 ?_
  refine zz_if_eqB hX 19 dX6_assign_12 (by decide) (fun c12 => absurd (show zs_ix (nI a) 5 from hA1) c12) (fun c12 => ?_)
  refine zz_iconst (v := nI 1) hX dX6_assign_15 rfl ?_
  refine zz_goto hX 20 dX6_assign_16 (by decide) ?_
  refine zz_istore_n (ls' := [(0, .ref 1), (1, .int (nI i)), (2, .int (nI a)), (3, .int (nI 1))]) hX dX6_assign_20 rfl (Nat.le_of_ble_eq_true rfl) rfl ?_
  refine zz_iload_n hX dX6_assign_21 3 rfl rfl ?_
  refine zz_if_eq hX 60 dX6_assign_22 (by decide) (fun c => absurd c (by decide)) (fun _ => ?_)
  refine zz_aload_n hX dX6_assign_25 0 rfl rfl ?_
  refine zz_iload_n hX dX6_assign_26 1 rfl rfl ?_
  refine zz_vI (x := zz_bi (zv_fr S i ≤ zv_sk S i)) hX zf_M_X6_117 (As := [.int (nI i)]) (st := []) (M_isDone S sh mi mr hW hM i hi) hM.1 rfl rfl rfl (by decide) (Nat.le_of_ble_eq_true rfl) (Nat.le_of_ble_eq_true rfl) (Nat.le_of_ble_eq_true rfl) dX6_assign_27 ?_
  refine zz_if_neB hX 60 dX6_assign_30 (by decide) (fun c30 => absurd c30 (show ¬ (zv_fr S i ≤ zv_sk S i) from hC0n)) (fun c30 => ?_)
  refine zz_aload_n hX dX6_assign_33 0 rfl rfl ?_
  refine zz_getR (y := 115) hX zf_F_X6_46.r hM.1 rfl (zM_r15 hM).1 dX6_assign_34 ?_
  refine zz_iload_n hX dX6_assign_37 1 rfl rfl ?_
  refine zz_iald (x := nI (zv_sk S i)) hX (zM_r15 hM).2 i rfl (by omega) (by decide) (((zM_v15 hM (k := i) (by omega)).trans (s2 i hi).2.2.2.2.2.2.2.2.2.2.1)) dX6_assign_38 ?_
  refine zz_if_eqN hX (by omega) 56 dX6_assign_39 (by decide) (fun c39 => ?_) (fun c39 => ?_)
  · skip
    refine zz_iconst (v := nI 1) hX dX6_assign_56 rfl ?_
    refine zz_goto hX 61 dX6_assign_57 (by decide) ?_
    refine zz_istore (ls' := [(0, .ref 1), (1, .int (nI i)), (2, .int (nI a)), (3, .int (nI 1)), (4, .int (nI 1))]) hX dX6_assign_61 (Nat.le_of_ble_eq_true rfl) rfl ?_
    refine zz_aload_n hX dX6_assign_63 0 rfl rfl ?_
    refine zz_iload_n hX dX6_assign_64 3 rfl rfl ?_
    refine zz_if_ne hX 72 dX6_assign_65 (by decide) (fun _ => ?_) (fun c => absurd c (by decide))
    refine zz_iload hX dX6_assign_72 4 rfl ?_
    refine zz_if_eq hX 81 dX6_assign_74 (by decide) (fun c => absurd c (by decide)) (fun _ => ?_)
    refine zz_iconst (v := nI 0) hX dX6_assign_77 rfl ?_
    refine zz_goto hX 82 dX6_assign_78 (by decide) ?_
    refine zz_vI (x := nI 0) hX zf_M_X6_108 (As := [.int (nI 0)]) (st := []) (m_fails0 sh mi mr hM.1) hM.1 rfl rfl rfl (by decide) (Nat.le_of_ble_eq_true rfl) (Nat.le_of_ble_eq_true rfl) (Nat.le_of_ble_eq_true rfl) dX6_assign_82 ?_
    refine zz_if_eq hX 90 dX6_assign_85 (by decide) (fun _ => ?_) (fun c => absurd c (by decide))
    refine zz_aload_n hX dX6_assign_90 0 rfl rfl ?_
    refine zz_getR (y := 114) hX zf_F_X6_43.r hM.1 rfl (zM_r14 hM).1 dX6_assign_91 ?_
    refine zz_iload_n hX dX6_assign_94 1 rfl rfl ?_
    refine zz_iald (x := S 14 i) hX (zM_r14 hM).2 i rfl (by omega) (by decide) (((zm_u2l (by decide))).trans ((zM_v14 hM (k := i) (by omega)))) dX6_assign_95 ?_
    refine zz_istore (ls' := [(0, .ref 1), (1, .int (nI i)), (2, .int (nI a)), (3, .int (nI 1)), (4, .int (nI 1)), (5, .int (S 14 i))]) hX dX6_assign_96 (Nat.le_of_ble_eq_true rfl) rfl ?_
    refine zz_aload_n hX dX6_assign_98 0 rfl rfl ?_
    refine zz_getR (y := 114) hX zf_F_X6_43.r hM.1 rfl (zM_r14 hM).1 dX6_assign_99 ?_
    refine zz_iload_n hX dX6_assign_102 1 rfl rfl ?_
    refine zz_iload_n hX dX6_assign_103 2 rfl rfl ?_
    refine zz_iast hX (zM_r14 hM).2 i rfl (by omega) (by decide) dX6_assign_104 ?_
    refine zz_iload hX dX6_assign_105 5 rfl ?_
    refine zz_iret hX hr rfl (Nat.le_of_ble_eq_true rfl) (Nat.le_of_ble_eq_true rfl) dX6_assign_107 ?_
    exact ⟨_, rfl, Or.inl ⟨⟨hA0, hA1⟩, trivial, ⟨hC0, hC1⟩, (((zm_u2l (by decide))).trans (zm_u2s)), (by first | rfl | ((try rw [z_i]); (try rw [z_a]); (try rfl))), (by (try rw [z_i]); (try rw [z_a]); exact (zM_set (r := 14) (zM_th hM) (by decide)))⟩, (zr_mf (zr_mf zr_same.rfl' (by unfold zr_mout; omega)) (by unfold zr_mout; omega))⟩
  · skip
    have hsk9 := b13 (by omega)
    have hm9 := zs_ix_zn hsk9 (by omega)
    refine zz_aload_n hX dX6_assign_42 0 rfl rfl ?_
    refine zz_getR (y := 117) hX zf_F_X6_52.r hM.1 rfl (zM_r17 hM).1 dX6_assign_43 ?_
    refine zz_aload_n hX dX6_assign_46 0 rfl rfl ?_
    refine zz_getR (y := 114) hX zf_F_X6_43.r hM.1 rfl (zM_r14 hM).1 dX6_assign_47 ?_
    refine zz_iload_n hX dX6_assign_50 1 rfl rfl ?_
    refine zz_iald (x := S 14 i) hX (zM_r14 hM).2 i rfl (by omega) (by decide) ((zM_v14 hM (k := i) (by omega))) dX6_assign_51 ?_
    refine zz_bald (x := S 17 (zn (S 14 i))) hX (zM_r17 hM).2 (zn (S 14 i)) hm9.2 (by omega) (by decide) ((zM_v17 hM (k := zn (S 14 i)) (by omega))) dX6_assign_52 ?_
    refine zz_if_eq hX 60 dX6_assign_53 (by decide) (fun c53 => absurd c53 (hC1n (by omega)).2) (fun c53 => ?_)
    refine zz_iconst (v := nI 1) hX dX6_assign_56 rfl ?_
    refine zz_goto hX 61 dX6_assign_57 (by decide) ?_
    refine zz_istore (ls' := [(0, .ref 1), (1, .int (nI i)), (2, .int (nI a)), (3, .int (nI 1)), (4, .int (nI 1))]) hX dX6_assign_61 (Nat.le_of_ble_eq_true rfl) rfl ?_
    refine zz_aload_n hX dX6_assign_63 0 rfl rfl ?_
    refine zz_iload_n hX dX6_assign_64 3 rfl rfl ?_
    refine zz_if_ne hX 72 dX6_assign_65 (by decide) (fun _ => ?_) (fun c => absurd c (by decide))
    refine zz_iload hX dX6_assign_72 4 rfl ?_
    refine zz_if_eq hX 81 dX6_assign_74 (by decide) (fun c => absurd c (by decide)) (fun _ => ?_)
    refine zz_iconst (v := nI 0) hX dX6_assign_77 rfl ?_
    refine zz_goto hX 82 dX6_assign_78 (by decide) ?_
    refine zz_vI (x := nI 0) hX zf_M_X6_108 (As := [.int (nI 0)]) (st := []) (m_fails0 sh mi mr hM.1) hM.1 rfl rfl rfl (by decide) (Nat.le_of_ble_eq_true rfl) (Nat.le_of_ble_eq_true rfl) (Nat.le_of_ble_eq_true rfl) dX6_assign_82 ?_
    refine zz_if_eq hX 90 dX6_assign_85 (by decide) (fun _ => ?_) (fun c => absurd c (by decide))
    refine zz_aload_n hX dX6_assign_90 0 rfl rfl ?_
    refine zz_getR (y := 114) hX zf_F_X6_43.r hM.1 rfl (zM_r14 hM).1 dX6_assign_91 ?_
    refine zz_iload_n hX dX6_assign_94 1 rfl rfl ?_
    refine zz_iald (x := S 14 i) hX (zM_r14 hM).2 i rfl (by omega) (by decide) (((zm_u2l (by decide))).trans ((zM_v14 hM (k := i) (by omega)))) dX6_assign_95 ?_
    refine zz_istore (ls' := [(0, .ref 1), (1, .int (nI i)), (2, .int (nI a)), (3, .int (nI 1)), (4, .int (nI 1)), (5, .int (S 14 i))]) hX dX6_assign_96 (Nat.le_of_ble_eq_true rfl) rfl ?_
    refine zz_aload_n hX dX6_assign_98 0 rfl rfl ?_
    refine zz_getR (y := 114) hX zf_F_X6_43.r hM.1 rfl (zM_r14 hM).1 dX6_assign_99 ?_
    refine zz_iload_n hX dX6_assign_102 1 rfl rfl ?_
    refine zz_iload_n hX dX6_assign_103 2 rfl rfl ?_
    refine zz_iast hX (zM_r14 hM).2 i rfl (by omega) (by decide) dX6_assign_104 ?_
    refine zz_iload hX dX6_assign_105 5 rfl ?_
    refine zz_iret hX hr rfl (Nat.le_of_ble_eq_true rfl) (Nat.le_of_ble_eq_true rfl) dX6_assign_107 ?_
    exact ⟨_, rfl, Or.inl ⟨⟨hA0, hA1⟩, trivial, ⟨hC0, hC1⟩, (((zm_u2l (by decide))).trans (zm_u2s)), (by first | rfl | ((try rw [z_i]); (try rw [z_a]); (try rfl))), (by (try rw [z_i]); (try rw [z_a]); exact (zM_set (r := 14) (zM_th hM) (by decide)))⟩, (zr_mf (zr_mf zr_same.rfl' (by unfold zr_mout; omega)) (by unfold zr_mout; omega))⟩

set_option maxRecDepth 20000 in
theorem MP_key (S : zS) (sh : zm_Sh) (mi : zm_Mi) (mr : zm_Mr) (hW : zW S) (hM : zM S sh mi mr) (s jx fx d : Int32)  : zz_Con yX6_key (.code yX6_key cX6_key 8 (some Jvm.ClassFile.FieldType.int)) 6 0 0 [.ref 1, .int s, .int jx, .int fx, .int d] sh mi mr (zq_m ((zs_ix s (zv_ns S)) ∧ (zs_ix jx (zv_jn S (zv_pu S (zn s)))) ∧ (zs_ix fx (zv_fr S (zn s)))) ((nI 0 ≤ d ∧ d ≤ nI 359)) ((¬ fx < nI (zv_sk S (zn s))) ∧ (¬ zp_held S (zn s) (zn fx))) (nI 1) (nI 2) (nI 3) (zp_deg S (zn s) (zn jx) (zn fx)) S (zm_u2 S 18 (48 * (6 * zn s + zn jx) + zn fx) d) sh mi mr) zz_none := by
  refine zz_begin RX6 [(0, .ref 1), (1, .int s), (2, .int jx), (3, .int fx), (4, .int d)] (by decide) rfl rfl (Nat.le_of_ble_eq_true rfl) rfl ?_
  intro Γ D E ad hX hr hN hT
  obtain ⟨hWp, hWv, hWs, hWk, hWr, hWf⟩ := id hW
  obtain ⟨p0, p1, p2, p3, p4, p5⟩ := hWp
  obtain ⟨v0, v1, v2, v3, v4⟩ := hWv
  obtain ⟨s0, s1, s2, s3⟩ := hWs
  obtain ⟨f0, f1, f2, f3⟩ := hWf
  by_cases hA0 : zs_ix s (zv_ns S)
  rotate_left
  · skip
    refine zz_aload_n hX dX6_key_0 0 rfl rfl ?_
    refine zz_iload_n hX dX6_key_1 1 rfl rfl ?_
    refine zz_iload_n hX dX6_key_2 2 rfl rfl ?_
    refine zz_vI (x := zz_bi (zs_ix s (zv_ns S) ∧ zs_ix jx (zv_jn S (zv_pu S (zn s))))) hX zf_M_X6_138 (As := [.int s, .int jx]) (st := []) (M_isJointOf S sh mi mr hW hM s jx) hM.1 rfl rfl rfl (by decide) (Nat.le_of_ble_eq_true rfl) (Nat.le_of_ble_eq_true rfl) (Nat.le_of_ble_eq_true rfl) dX6_key_3 ?_
    refine zz_if_eqB hX 22 dX6_key_6 (by decide) (fun c6 => ?_) (fun c6 => absurd c6 (show ¬ (zs_ix s (zv_ns S) ∧ zs_ix jx (zv_jn S (zv_pu S (zn s)))) from (fun h => hA0 (h.1))))
    refine zz_iconst (v := nI 0) hX dX6_key_22 rfl ?_
    refine zz_istore (ls' := [(0, .ref 1), (1, .int s), (2, .int jx), (3, .int fx), (4, .int d), (5, .int (nI 0))]) hX dX6_key_23 (Nat.le_of_ble_eq_true rfl) rfl ?_
    refine zz_iload hX dX6_key_25 4 rfl ?_
    refine zz_iconst (v := nI 0) hX dX6_key_27 rfl ?_
    refine zz_sipush (v := nI 359) hX dX6_key_28 rfl ?_
    refine zz_sI (x := zz_bi (nI 0 ≤ d ∧ d ≤ nI 359)) hX zf_M_X6_91 (As := [.int d, .int (nI 0), .int (nI 359)]) (st := []) (m_isIn d (nI 0) (nI 359) sh mi mr) rfl rfl (by decide) (Nat.le_of_ble_eq_true rfl) (Nat.le_of_ble_eq_true rfl) (Nat.le_of_ble_eq_true rfl) dX6_key_31 ?_
    refine zz_istore (ls' := [(0, .ref 1), (1, .int s), (2, .int jx), (3, .int fx), (4, .int d), (5, .int (nI 0)), (6, .int (zz_bi (nI 0 ≤ d ∧ d ≤ nI 359)))]) hX dX6_key_34 (Nat.le_of_ble_eq_true rfl) rfl ?_
    refine zz_aload_n hX dX6_key_36 0 rfl rfl ?_
    refine zz_iload hX dX6_key_37 5 rfl ?_
    refine zz_if_ne hX 46 dX6_key_39 (by decide) (fun c => absurd c (by decide)) (fun _ => ?_)
    refine zz_iconst (v := nI 1) hX dX6_key_42 rfl ?_
    refine zz_goto hX 79 dX6_key_43 (by decide) ?_
    refine zz_vI (x := nI 1) hX zf_M_X6_108 (As := [.int (nI 1)]) (st := []) (m_fails1 sh mi mr hM.1) hM.1 rfl rfl rfl (by decide) (Nat.le_of_ble_eq_true rfl) (Nat.le_of_ble_eq_true rfl) (Nat.le_of_ble_eq_true rfl) dX6_key_79 ?_
    refine zz_if_eq hX 87 dX6_key_82 (by decide) (fun c => absurd c (by decide)) (fun _ => ?_)
    refine zz_iconst (v := nI 0) hX dX6_key_85 rfl ?_
    refine zz_iret hX hr rfl (Nat.le_of_ble_eq_true rfl) (Nat.le_of_ble_eq_true rfl) dX6_key_86 ?_
    exact ⟨_, rfl, Or.inr (Or.inl ⟨(fun h => hA0 (h.1)), (zm_u2s), (zM_th hM)⟩), (zr_mf zr_same.rfl' (by unfold zr_mout; omega))⟩
  obtain ⟨i, hi, rfl⟩ := zs_ix_of hA0 (by omega)
  have z_i : zn (nI i) = i := nI_clamp (n := i) (by omega)
  obtain ⟨b1, b2, b3, b4, b5, b6, b7, b8, b9, b10, b11, b12, b13⟩ := s2 i hi
  have hjn9 := (p2 _ b2).2.2
  by_cases hA1 : zs_ix jx (zv_jn S (zv_pu S (zn (nI i))))
  rotate_left
  · skip
    have hA1n : ¬ (zs_ix jx (zv_jn S (zv_pu S (i)))) := by have q9 := hA1; (try rw [z_i] at q9); exact q9
    refine zz_aload_n hX dX6_key_0 0 rfl rfl ?_
    refine zz_iload_n hX dX6_key_1 1 rfl rfl ?_
    refine zz_iload_n hX dX6_key_2 2 rfl rfl ?_
    refine zz_vI (x := zz_bi (zs_ix (nI i) (zv_ns S) ∧ zs_ix jx (zv_jn S (zv_pu S (zn (nI i)))))) hX zf_M_X6_138 (As := [.int (nI i), .int jx]) (st := []) (M_isJointOf S sh mi mr hW hM (nI i) jx) hM.1 rfl rfl rfl (by decide) (Nat.le_of_ble_eq_true rfl) (Nat.le_of_ble_eq_true rfl) (Nat.le_of_ble_eq_true rfl) dX6_key_3 ?_
    refine zz_if_eqB hX 22 dX6_key_6 (by decide) (fun c6 => ?_) (fun c6 => absurd c6 (show ¬ (zs_ix (nI i) (zv_ns S) ∧ zs_ix jx (zv_jn S (zv_pu S (zn (nI i))))) from (fun h => hA1 (h.2))))
    refine zz_iconst (v := nI 0) hX dX6_key_22 rfl ?_
    refine zz_istore (ls' := [(0, .ref 1), (1, .int (nI i)), (2, .int jx), (3, .int fx), (4, .int d), (5, .int (nI 0))]) hX dX6_key_23 (Nat.le_of_ble_eq_true rfl) rfl ?_
    refine zz_iload hX dX6_key_25 4 rfl ?_
    refine zz_iconst (v := nI 0) hX dX6_key_27 rfl ?_
    refine zz_sipush (v := nI 359) hX dX6_key_28 rfl ?_
    refine zz_sI (x := zz_bi (nI 0 ≤ d ∧ d ≤ nI 359)) hX zf_M_X6_91 (As := [.int d, .int (nI 0), .int (nI 359)]) (st := []) (m_isIn d (nI 0) (nI 359) sh mi mr) rfl rfl (by decide) (Nat.le_of_ble_eq_true rfl) (Nat.le_of_ble_eq_true rfl) (Nat.le_of_ble_eq_true rfl) dX6_key_31 ?_
    refine zz_istore (ls' := [(0, .ref 1), (1, .int (nI i)), (2, .int jx), (3, .int fx), (4, .int d), (5, .int (nI 0)), (6, .int (zz_bi (nI 0 ≤ d ∧ d ≤ nI 359)))]) hX dX6_key_34 (Nat.le_of_ble_eq_true rfl) rfl ?_
    refine zz_aload_n hX dX6_key_36 0 rfl rfl ?_
    refine zz_iload hX dX6_key_37 5 rfl ?_
    refine zz_if_ne hX 46 dX6_key_39 (by decide) (fun c => absurd c (by decide)) (fun _ => ?_)
    refine zz_iconst (v := nI 1) hX dX6_key_42 rfl ?_
    refine zz_goto hX 79 dX6_key_43 (by decide) ?_
    refine zz_vI (x := nI 1) hX zf_M_X6_108 (As := [.int (nI 1)]) (st := []) (m_fails1 sh mi mr hM.1) hM.1 rfl rfl rfl (by decide) (Nat.le_of_ble_eq_true rfl) (Nat.le_of_ble_eq_true rfl) (Nat.le_of_ble_eq_true rfl) dX6_key_79 ?_
    refine zz_if_eq hX 87 dX6_key_82 (by decide) (fun c => absurd c (by decide)) (fun _ => ?_)
    refine zz_iconst (v := nI 0) hX dX6_key_85 rfl ?_
    refine zz_iret hX hr rfl (Nat.le_of_ble_eq_true rfl) (Nat.le_of_ble_eq_true rfl) dX6_key_86 ?_
    exact ⟨_, rfl, Or.inr (Or.inl ⟨(fun h => hA1 (h.2.1)), (zm_u2s), (zM_th hM)⟩), (zr_mf zr_same.rfl' (by unfold zr_mout; omega))⟩
  have hA1n : zs_ix jx (zv_jn S (zv_pu S (i))) := by have q9 := hA1; (try rw [z_i] at q9); exact q9
  obtain ⟨j, hj, rfl⟩ := zs_ix_of hA1n (by omega)
  have z_j : zn (nI j) = j := nI_clamp (n := j) (by omega)
  by_cases hA2 : zs_ix fx (zv_fr S (zn (nI i)))
  rotate_left
  · skip
    have hA2n : ¬ (zs_ix fx (zv_fr S (i))) := by have q9 := hA2; (try rw [z_i] at q9); (try rw [z_j] at q9); exact q9
    refine zz_aload_n hX dX6_key_0 0 rfl rfl ?_
    refine zz_iload_n hX dX6_key_1 1 rfl rfl ?_
    refine zz_iload_n hX dX6_key_2 2 rfl rfl ?_
    refine zz_vI (x := zz_bi (zs_ix (nI i) (zv_ns S) ∧ zs_ix (nI j) (zv_jn S (zv_pu S (zn (nI i)))))) hX zf_M_X6_138 (As := [.int (nI i), .int (nI j)]) (st := []) (M_isJointOf S sh mi mr hW hM (nI i) (nI j)) hM.1 rfl rfl rfl (by decide) (Nat.le_of_ble_eq_true rfl) (Nat.le_of_ble_eq_true rfl) (Nat.le_of_ble_eq_true rfl) dX6_key_3 ?_
    refine zz_if_eqB hX 22 dX6_key_6 (by decide) (fun c6 => absurd (show zs_ix (nI i) (zv_ns S) ∧ zs_ix (nI j) (zv_jn S (zv_pu S (zn (nI i)))) from ⟨hA0, hA1⟩) c6) (fun c6 => ?_)
    refine zz_aload_n hX dX6_key_9 0 rfl rfl ?_
    refine zz_iload_n hX dX6_key_10 1 rfl rfl ?_
    refine zz_iload_n hX dX6_key_11 3 rfl rfl ?_
    refine zz_vI (x := zz_bi (zs_ix (nI i) (zv_ns S) ∧ zs_ix fx (zv_fr S (zn (nI i))))) hX zf_M_X6_141 (As := [.int (nI i), .int fx]) (st := []) (M_isFrame S sh mi mr hW hM (nI i) fx) hM.1 rfl rfl rfl (by decide) (Nat.le_of_ble_eq_true rfl) (Nat.le_of_ble_eq_true rfl) (Nat.le_of_ble_eq_true rfl) dX6_key_12 ?_
    refine zz_if_eqB hX 22 dX6_key_15 (by decide) (fun c15 => ?_) (fun c15 => absurd c15 (show ¬ (zs_ix (nI i) (zv_ns S) ∧ zs_ix fx (zv_fr S (zn (nI i)))) from (fun h => hA2 (h.2))))
    refine zz_iconst (v := nI 0) hX dX6_key_22 rfl ?_
    refine zz_istore (ls' := [(0, .ref 1), (1, .int (nI i)), (2, .int (nI j)), (3, .int fx), (4, .int d), (5, .int (nI 0))]) hX dX6_key_23 (Nat.le_of_ble_eq_true rfl) rfl ?_
    refine zz_iload hX dX6_key_25 4 rfl ?_
    refine zz_iconst (v := nI 0) hX dX6_key_27 rfl ?_
    refine zz_sipush (v := nI 359) hX dX6_key_28 rfl ?_
    refine zz_sI (x := zz_bi (nI 0 ≤ d ∧ d ≤ nI 359)) hX zf_M_X6_91 (As := [.int d, .int (nI 0), .int (nI 359)]) (st := []) (m_isIn d (nI 0) (nI 359) sh mi mr) rfl rfl (by decide) (Nat.le_of_ble_eq_true rfl) (Nat.le_of_ble_eq_true rfl) (Nat.le_of_ble_eq_true rfl) dX6_key_31 ?_
    refine zz_istore (ls' := [(0, .ref 1), (1, .int (nI i)), (2, .int (nI j)), (3, .int fx), (4, .int d), (5, .int (nI 0)), (6, .int (zz_bi (nI 0 ≤ d ∧ d ≤ nI 359)))]) hX dX6_key_34 (Nat.le_of_ble_eq_true rfl) rfl ?_
    refine zz_aload_n hX dX6_key_36 0 rfl rfl ?_
    refine zz_iload hX dX6_key_37 5 rfl ?_
    refine zz_if_ne hX 46 dX6_key_39 (by decide) (fun c => absurd c (by decide)) (fun _ => ?_)
    refine zz_iconst (v := nI 1) hX dX6_key_42 rfl ?_
    refine zz_goto hX 79 dX6_key_43 (by decide) ?_
    refine zz_vI (x := nI 1) hX zf_M_X6_108 (As := [.int (nI 1)]) (st := []) (m_fails1 sh mi mr hM.1) hM.1 rfl rfl rfl (by decide) (Nat.le_of_ble_eq_true rfl) (Nat.le_of_ble_eq_true rfl) (Nat.le_of_ble_eq_true rfl) dX6_key_79 ?_
    refine zz_if_eq hX 87 dX6_key_82 (by decide) (fun c => absurd c (by decide)) (fun _ => ?_)
    refine zz_iconst (v := nI 0) hX dX6_key_85 rfl ?_
    refine zz_iret hX hr rfl (Nat.le_of_ble_eq_true rfl) (Nat.le_of_ble_eq_true rfl) dX6_key_86 ?_
    exact ⟨_, rfl, Or.inr (Or.inl ⟨(fun h => hA2 (h.2.2)), (zm_u2s), (zM_th hM)⟩), (zr_mf zr_same.rfl' (by unfold zr_mout; omega))⟩
  have hA2n : zs_ix fx (zv_fr S (i)) := by have q9 := hA2; (try rw [z_i] at q9); (try rw [z_j] at q9); exact q9
  obtain ⟨f, hf, rfl⟩ := zs_ix_of hA2n (by omega)
  have z_f : zn (nI f) = f := nI_clamp (n := f) (by omega)
  by_cases hB0 : nI 0 ≤ d ∧ d ≤ nI 359
  rotate_left
  · skip
    refine zz_aload_n hX dX6_key_0 0 rfl rfl ?_
    refine zz_iload_n hX dX6_key_1 1 rfl rfl ?_
    refine zz_iload_n hX dX6_key_2 2 rfl rfl ?_
    refine zz_vI (x := zz_bi (zs_ix (nI i) (zv_ns S) ∧ zs_ix (nI j) (zv_jn S (zv_pu S (zn (nI i)))))) hX zf_M_X6_138 (As := [.int (nI i), .int (nI j)]) (st := []) (M_isJointOf S sh mi mr hW hM (nI i) (nI j)) hM.1 rfl rfl rfl (by decide) (Nat.le_of_ble_eq_true rfl) (Nat.le_of_ble_eq_true rfl) (Nat.le_of_ble_eq_true rfl) dX6_key_3 ?_
    refine zz_if_eqB hX 22 dX6_key_6 (by decide) (fun c6 => absurd (show zs_ix (nI i) (zv_ns S) ∧ zs_ix (nI j) (zv_jn S (zv_pu S (zn (nI i)))) from ⟨hA0, hA1⟩) c6) (fun c6 => ?_)
    refine zz_aload_n hX dX6_key_9 0 rfl rfl ?_
    refine zz_iload_n hX dX6_key_10 1 rfl rfl ?_
    refine zz_iload_n hX dX6_key_11 3 rfl rfl ?_
    refine zz_vI (x := zz_bi (zs_ix (nI i) (zv_ns S) ∧ zs_ix (nI f) (zv_fr S (zn (nI i))))) hX zf_M_X6_141 (As := [.int (nI i), .int (nI f)]) (st := []) (M_isFrame S sh mi mr hW hM (nI i) (nI f)) hM.1 rfl rfl rfl (by decide) (Nat.le_of_ble_eq_true rfl) (Nat.le_of_ble_eq_true rfl) (Nat.le_of_ble_eq_true rfl) dX6_key_12 ?_
    refine zz_if_eqB hX 22 dX6_key_15 (by decide) (fun c15 => absurd (show zs_ix (nI i) (zv_ns S) ∧ zs_ix (nI f) (zv_fr S (zn (nI i))) from ⟨hA0, hA2⟩) c15) (fun c15 => ?_)
    refine zz_iconst (v := nI 1) hX dX6_key_18 rfl ?_
    refine zz_goto hX 23 dX6_key_19 (by decide) ?_
    refine zz_istore (ls' := [(0, .ref 1), (1, .int (nI i)), (2, .int (nI j)), (3, .int (nI f)), (4, .int d), (5, .int (nI 1))]) hX dX6_key_23 (Nat.le_of_ble_eq_true rfl) rfl ?_
    refine zz_iload hX dX6_key_25 4 rfl ?_
    refine zz_iconst (v := nI 0) hX dX6_key_27 rfl ?_
    refine zz_sipush (v := nI 359) hX dX6_key_28 rfl ?_
    refine zz_sI (x := zz_bi (nI 0 ≤ d ∧ d ≤ nI 359)) hX zf_M_X6_91 (As := [.int d, .int (nI 0), .int (nI 359)]) (st := []) (m_isIn d (nI 0) (nI 359) sh mi mr) rfl rfl (by decide) (Nat.le_of_ble_eq_true rfl) (Nat.le_of_ble_eq_true rfl) (Nat.le_of_ble_eq_true rfl) dX6_key_31 ?_
    refine zz_istore (ls' := [(0, .ref 1), (1, .int (nI i)), (2, .int (nI j)), (3, .int (nI f)), (4, .int d), (5, .int (nI 1)), (6, .int (zz_bi (nI 0 ≤ d ∧ d ≤ nI 359)))]) hX dX6_key_34 (Nat.le_of_ble_eq_true rfl) rfl ?_
    refine zz_aload_n hX dX6_key_36 0 rfl rfl ?_
    refine zz_iload hX dX6_key_37 5 rfl ?_
    refine zz_if_ne hX 46 dX6_key_39 (by decide) (fun _ => ?_) (fun c => absurd c (by decide))
    refine zz_iload hX dX6_key_46 6 rfl ?_
    refine zz_if_neB hX 55 dX6_key_48 (by decide) (fun c48 => absurd c48 (show ¬ (nI 0 ≤ d ∧ d ≤ nI 359) from hB0)) (fun c48 => ?_)
    refine zz_iconst (v := nI 2) hX dX6_key_51 rfl ?_
    refine zz_goto hX 79 dX6_key_52 (by decide) ?_
    refine zz_vI (x := nI 1) hX zf_M_X6_108 (As := [.int (nI 2)]) (st := []) (m_fails2 sh mi mr hM.1) hM.1 rfl rfl rfl (by decide) (Nat.le_of_ble_eq_true rfl) (Nat.le_of_ble_eq_true rfl) (Nat.le_of_ble_eq_true rfl) dX6_key_79 ?_
    refine zz_if_eq hX 87 dX6_key_82 (by decide) (fun c => absurd c (by decide)) (fun _ => ?_)
    refine zz_iconst (v := nI 0) hX dX6_key_85 rfl ?_
    refine zz_iret hX hr rfl (Nat.le_of_ble_eq_true rfl) (Nat.le_of_ble_eq_true rfl) dX6_key_86 ?_
    exact ⟨_, rfl, Or.inr (Or.inr (Or.inl ⟨⟨hA0, hA1, hA2⟩, (fun h => hB0 (h)), (zm_u2s), (zM_th hM)⟩)), (zr_mf zr_same.rfl' (by unfold zr_mout; omega))⟩
  by_cases hC0 : ¬ (nI f) < nI (zv_sk S (zn (nI i)))
  rotate_left
  · skip
    have hC0n : ¬ (¬ (nI f) < nI (zv_sk S (i))) := by have q9 := hC0; (try rw [z_i] at q9); (try rw [z_j] at q9); (try rw [z_f] at q9); exact q9
    have hC0m : f < zv_sk S i := Classical.byContradiction fun q => hC0n (fun z => q ((nI_ltI (by omega) (by omega)).mp z))
    refine zz_aload_n hX dX6_key_0 0 rfl rfl ?_
    refine zz_iload_n hX dX6_key_1 1 rfl rfl ?_
    refine zz_iload_n hX dX6_key_2 2 rfl rfl ?_
    refine zz_vI (x := zz_bi (zs_ix (nI i) (zv_ns S) ∧ zs_ix (nI j) (zv_jn S (zv_pu S (zn (nI i)))))) hX zf_M_X6_138 (As := [.int (nI i), .int (nI j)]) (st := []) (M_isJointOf S sh mi mr hW hM (nI i) (nI j)) hM.1 rfl rfl rfl (by decide) (Nat.le_of_ble_eq_true rfl) (Nat.le_of_ble_eq_true rfl) (Nat.le_of_ble_eq_true rfl) dX6_key_3 ?_
    refine zz_if_eqB hX 22 dX6_key_6 (by decide) (fun c6 => absurd (show zs_ix (nI i) (zv_ns S) ∧ zs_ix (nI j) (zv_jn S (zv_pu S (zn (nI i)))) from ⟨hA0, hA1⟩) c6) (fun c6 => ?_)
    refine zz_aload_n hX dX6_key_9 0 rfl rfl ?_
    refine zz_iload_n hX dX6_key_10 1 rfl rfl ?_
    refine zz_iload_n hX dX6_key_11 3 rfl rfl ?_
    refine zz_vI (x := zz_bi (zs_ix (nI i) (zv_ns S) ∧ zs_ix (nI f) (zv_fr S (zn (nI i))))) hX zf_M_X6_141 (As := [.int (nI i), .int (nI f)]) (st := []) (M_isFrame S sh mi mr hW hM (nI i) (nI f)) hM.1 rfl rfl rfl (by decide) (Nat.le_of_ble_eq_true rfl) (Nat.le_of_ble_eq_true rfl) (Nat.le_of_ble_eq_true rfl) dX6_key_12 ?_
    refine zz_if_eqB hX 22 dX6_key_15 (by decide) (fun c15 => absurd (show zs_ix (nI i) (zv_ns S) ∧ zs_ix (nI f) (zv_fr S (zn (nI i))) from ⟨hA0, hA2⟩) c15) (fun c15 => ?_)
    refine zz_iconst (v := nI 1) hX dX6_key_18 rfl ?_
    refine zz_goto hX 23 dX6_key_19 (by decide) ?_
    refine zz_istore (ls' := [(0, .ref 1), (1, .int (nI i)), (2, .int (nI j)), (3, .int (nI f)), (4, .int d), (5, .int (nI 1))]) hX dX6_key_23 (Nat.le_of_ble_eq_true rfl) rfl ?_
    refine zz_iload hX dX6_key_25 4 rfl ?_
    refine zz_iconst (v := nI 0) hX dX6_key_27 rfl ?_
    refine zz_sipush (v := nI 359) hX dX6_key_28 rfl ?_
    refine zz_sI (x := zz_bi (nI 0 ≤ d ∧ d ≤ nI 359)) hX zf_M_X6_91 (As := [.int d, .int (nI 0), .int (nI 359)]) (st := []) (m_isIn d (nI 0) (nI 359) sh mi mr) rfl rfl (by decide) (Nat.le_of_ble_eq_true rfl) (Nat.le_of_ble_eq_true rfl) (Nat.le_of_ble_eq_true rfl) dX6_key_31 ?_
    refine zz_istore (ls' := [(0, .ref 1), (1, .int (nI i)), (2, .int (nI j)), (3, .int (nI f)), (4, .int d), (5, .int (nI 1)), (6, .int (zz_bi (nI 0 ≤ d ∧ d ≤ nI 359)))]) hX dX6_key_34 (Nat.le_of_ble_eq_true rfl) rfl ?_
    refine zz_aload_n hX dX6_key_36 0 rfl rfl ?_
    refine zz_iload hX dX6_key_37 5 rfl ?_
    refine zz_if_ne hX 46 dX6_key_39 (by decide) (fun _ => ?_) (fun c => absurd c (by decide))
    refine zz_iload hX dX6_key_46 6 rfl ?_
    refine zz_if_neB hX 55 dX6_key_48 (by decide) (fun c48 => ?_) (fun c48 => absurd (show nI 0 ≤ d ∧ d ≤ nI 359 from hB0) c48)
    refine zz_iload_n hX dX6_key_55 3 rfl rfl ?_
    refine zz_aload_n hX dX6_key_56 0 rfl rfl ?_
    refine zz_getR (y := 115) hX zf_F_X6_46.r hM.1 rfl (zM_r15 hM).1 dX6_key_57 ?_
    refine zz_iload_n hX dX6_key_60 1 rfl rfl ?_
    refine zz_iald (x := nI (zv_sk S i)) hX (zM_r15 hM).2 i rfl (by omega) (by decide) (((zM_v15 hM (k := i) (by omega)).trans (s2 i hi).2.2.2.2.2.2.2.2.2.2.1)) dX6_key_61 ?_
    refine zz_icmp_ltN hX (by omega) (by omega) 74 dX6_key_62 (by decide) (fun c62 => ?_) (fun c62 => absurd c62 (by omega))
    refine zz_iconst (v := nI 3) hX dX6_key_74 rfl ?_
    refine zz_goto hX 79 dX6_key_75 (by decide) ?_
    refine zz_vI (x := nI 1) hX zf_M_X6_108 (As := [.int (nI 3)]) (st := []) (m_fails3 sh mi mr hM.1) hM.1 rfl rfl rfl (by decide) (Nat.le_of_ble_eq_true rfl) (Nat.le_of_ble_eq_true rfl) (Nat.le_of_ble_eq_true rfl) dX6_key_79 ?_
    refine zz_if_eq hX 87 dX6_key_82 (by decide) (fun c => absurd c (by decide)) (fun _ => ?_)
    refine zz_iconst (v := nI 0) hX dX6_key_85 rfl ?_
    refine zz_iret hX hr rfl (Nat.le_of_ble_eq_true rfl) (Nat.le_of_ble_eq_true rfl) dX6_key_86 ?_
    exact ⟨_, rfl, Or.inr (Or.inr (Or.inr ⟨⟨hA0, hA1, hA2⟩, hB0, (fun h => hC0 (h.1)), (zm_u2s), (zM_th hM)⟩)), (zr_mf zr_same.rfl' (by unfold zr_mout; omega))⟩
  have hC0n : ¬ (nI f) < nI (zv_sk S (i)) := by have q9 := hC0; (try rw [z_i] at q9); (try rw [z_j] at q9); (try rw [z_f] at q9); exact q9
  have hC0m : ¬ f < zv_sk S i := fun q => hC0n ((nI_ltI (by omega) (by omega)).mpr q)
  by_cases hC1 : ¬ zp_held S (zn (nI i)) (zn (nI f))
  rotate_left
  · skip
    have hC1n : ¬ (¬ zp_held S (i) (f)) := by have q9 := hC1; (try rw [z_i] at q9); (try rw [z_j] at q9); (try rw [z_f] at q9); exact q9
    refine zz_aload_n hX dX6_key_0 0 rfl rfl ?_
    refine zz_iload_n hX dX6_key_1 1 rfl rfl ?_
    refine zz_iload_n hX dX6_key_2 2 rfl rfl ?_
    refine zz_vI (x := zz_bi (zs_ix (nI i) (zv_ns S) ∧ zs_ix (nI j) (zv_jn S (zv_pu S (zn (nI i)))))) hX zf_M_X6_138 (As := [.int (nI i), .int (nI j)]) (st := []) (M_isJointOf S sh mi mr hW hM (nI i) (nI j)) hM.1 rfl rfl rfl (by decide) (Nat.le_of_ble_eq_true rfl) (Nat.le_of_ble_eq_true rfl) (Nat.le_of_ble_eq_true rfl) dX6_key_3 ?_
    refine zz_if_eqB hX 22 dX6_key_6 (by decide) (fun c6 => absurd (show zs_ix (nI i) (zv_ns S) ∧ zs_ix (nI j) (zv_jn S (zv_pu S (zn (nI i)))) from ⟨hA0, hA1⟩) c6) (fun c6 => ?_)
    refine zz_aload_n hX dX6_key_9 0 rfl rfl ?_
    refine zz_iload_n hX dX6_key_10 1 rfl rfl ?_
    refine zz_iload_n hX dX6_key_11 3 rfl rfl ?_
    refine zz_vI (x := zz_bi (zs_ix (nI i) (zv_ns S) ∧ zs_ix (nI f) (zv_fr S (zn (nI i))))) hX zf_M_X6_141 (As := [.int (nI i), .int (nI f)]) (st := []) (M_isFrame S sh mi mr hW hM (nI i) (nI f)) hM.1 rfl rfl rfl (by decide) (Nat.le_of_ble_eq_true rfl) (Nat.le_of_ble_eq_true rfl) (Nat.le_of_ble_eq_true rfl) dX6_key_12 ?_
    refine zz_if_eqB hX 22 dX6_key_15 (by decide) (fun c15 => absurd (show zs_ix (nI i) (zv_ns S) ∧ zs_ix (nI f) (zv_fr S (zn (nI i))) from ⟨hA0, hA2⟩) c15) (fun c15 => ?_)
    refine zz_iconst (v := nI 1) hX dX6_key_18 rfl ?_
    refine zz_goto hX 23 dX6_key_19 (by decide) ?_
    refine zz_istore (ls' := [(0, .ref 1), (1, .int (nI i)), (2, .int (nI j)), (3, .int (nI f)), (4, .int d), (5, .int (nI 1))]) hX dX6_key_23 (Nat.le_of_ble_eq_true rfl) rfl ?_
    refine zz_iload hX dX6_key_25 4 rfl ?_
    refine zz_iconst (v := nI 0) hX dX6_key_27 rfl ?_
    refine zz_sipush (v := nI 359) hX dX6_key_28 rfl ?_
    refine zz_sI (x := zz_bi (nI 0 ≤ d ∧ d ≤ nI 359)) hX zf_M_X6_91 (As := [.int d, .int (nI 0), .int (nI 359)]) (st := []) (m_isIn d (nI 0) (nI 359) sh mi mr) rfl rfl (by decide) (Nat.le_of_ble_eq_true rfl) (Nat.le_of_ble_eq_true rfl) (Nat.le_of_ble_eq_true rfl) dX6_key_31 ?_
    refine zz_istore (ls' := [(0, .ref 1), (1, .int (nI i)), (2, .int (nI j)), (3, .int (nI f)), (4, .int d), (5, .int (nI 1)), (6, .int (zz_bi (nI 0 ≤ d ∧ d ≤ nI 359)))]) hX dX6_key_34 (Nat.le_of_ble_eq_true rfl) rfl ?_
    refine zz_aload_n hX dX6_key_36 0 rfl rfl ?_
    refine zz_iload hX dX6_key_37 5 rfl ?_
    refine zz_if_ne hX 46 dX6_key_39 (by decide) (fun _ => ?_) (fun c => absurd c (by decide))
    refine zz_iload hX dX6_key_46 6 rfl ?_
    refine zz_if_neB hX 55 dX6_key_48 (by decide) (fun c48 => ?_) (fun c48 => absurd (show nI 0 ≤ d ∧ d ≤ nI 359 from hB0) c48)
    refine zz_iload_n hX dX6_key_55 3 rfl rfl ?_
    refine zz_aload_n hX dX6_key_56 0 rfl rfl ?_
    refine zz_getR (y := 115) hX zf_F_X6_46.r hM.1 rfl (zM_r15 hM).1 dX6_key_57 ?_
    refine zz_iload_n hX dX6_key_60 1 rfl rfl ?_
    refine zz_iald (x := nI (zv_sk S i)) hX (zM_r15 hM).2 i rfl (by omega) (by decide) (((zM_v15 hM (k := i) (by omega)).trans (s2 i hi).2.2.2.2.2.2.2.2.2.2.1)) dX6_key_61 ?_
    refine zz_icmp_ltN hX (by omega) (by omega) 74 dX6_key_62 (by decide) (fun c62 => absurd c62 (by omega)) (fun c62 => ?_)
    refine zz_aload_n hX dX6_key_65 0 rfl rfl ?_
    refine zz_iload_n hX dX6_key_66 1 rfl rfl ?_
    refine zz_iload_n hX dX6_key_67 3 rfl rfl ?_
    refine zz_vI (x := zz_bi (zp_held S i f)) hX zf_M_X6_123 (As := [.int (nI i), .int (nI f)]) (st := [.ref 1]) (M_isHeld S sh mi mr hW hM i hi f (by omega)) hM.1 rfl rfl rfl (by decide) (Nat.le_of_ble_eq_true rfl) (Nat.le_of_ble_eq_true rfl) (Nat.le_of_ble_eq_true rfl) dX6_key_68 ?_
    refine zz_if_eqB hX 78 dX6_key_71 (by decide) (fun c71 => absurd (show zp_held S i f from (Classical.byContradiction hC1n)) c71) (fun c71 => ?_)
    refine zz_iconst (v := nI 3) hX dX6_key_74 rfl ?_
    refine zz_goto hX 79 dX6_key_75 (by decide) ?_
    refine zz_vI (x := nI 1) hX zf_M_X6_108 (As := [.int (nI 3)]) (st := []) (m_fails3 sh mi mr hM.1) hM.1 rfl rfl rfl (by decide) (Nat.le_of_ble_eq_true rfl) (Nat.le_of_ble_eq_true rfl) (Nat.le_of_ble_eq_true rfl) dX6_key_79 ?_
    refine zz_if_eq hX 87 dX6_key_82 (by decide) (fun c => absurd c (by decide)) (fun _ => ?_)
    refine zz_iconst (v := nI 0) hX dX6_key_85 rfl ?_
    refine zz_iret hX hr rfl (Nat.le_of_ble_eq_true rfl) (Nat.le_of_ble_eq_true rfl) dX6_key_86 ?_
    exact ⟨_, rfl, Or.inr (Or.inr (Or.inr ⟨⟨hA0, hA1, hA2⟩, hB0, (fun h => hC1 (h.2)), (zm_u2s), (zM_th hM)⟩)), (zr_mf zr_same.rfl' (by unfold zr_mout; omega))⟩
  have hC1n : ¬ zp_held S (i) (f) := by have q9 := hC1; (try rw [z_i] at q9); (try rw [z_j] at q9); (try rw [z_f] at q9); exact q9
  refine zz_aload_n hX dX6_key_0 0 rfl rfl ?_
  refine zz_iload_n hX dX6_key_1 1 rfl rfl ?_
  refine zz_iload_n hX dX6_key_2 2 rfl rfl ?_
  refine zz_vI (x := zz_bi (zs_ix (nI i) (zv_ns S) ∧ zs_ix (nI j) (zv_jn S (zv_pu S (zn (nI i)))))) hX zf_M_X6_138 (As := [.int (nI i), .int (nI j)]) (st := []) (M_isJointOf S sh mi mr hW hM (nI i) (nI j)) hM.1 rfl rfl rfl (by decide) (Nat.le_of_ble_eq_true rfl) (Nat.le_of_ble_eq_true rfl) (Nat.le_of_ble_eq_true rfl) dX6_key_3 ?_
  refine zz_if_eqB hX 22 dX6_key_6 (by decide) (fun c6 => absurd (show zs_ix (nI i) (zv_ns S) ∧ zs_ix (nI j) (zv_jn S (zv_pu S (zn (nI i)))) from ⟨hA0, hA1⟩) c6) (fun c6 => ?_)
  refine zz_aload_n hX dX6_key_9 0 rfl rfl ?_
  refine zz_iload_n hX dX6_key_10 1 rfl rfl ?_
  refine zz_iload_n hX dX6_key_11 3 rfl rfl ?_
  refine zz_vI (x := zz_bi (zs_ix (nI i) (zv_ns S) ∧ zs_ix (nI f) (zv_fr S (zn (nI i))))) hX zf_M_X6_141 (As := [.int (nI i), .int (nI f)]) (st := []) (M_isFrame S sh mi mr hW hM (nI i) (nI f)) hM.1 rfl rfl rfl (by decide) (Nat.le_of_ble_eq_true rfl) (Nat.le_of_ble_eq_true rfl) (Nat.le_of_ble_eq_true rfl) dX6_key_12 ?_
  refine zz_if_eqB hX 22 dX6_key_15 (by decide) (fun c15 => absurd (show zs_ix (nI i) (zv_ns S) ∧ zs_ix (nI f) (zv_fr S (zn (nI i))) from ⟨hA0, hA2⟩) c15) (fun c15 => ?_)
  refine zz_iconst (v := nI 1) hX dX6_key_18 rfl ?_
  refine zz_goto hX 23 dX6_key_19 (by decide) ?_
  refine zz_istore (ls' := [(0, .ref 1), (1, .int (nI i)), (2, .int (nI j)), (3, .int (nI f)), (4, .int d), (5, .int (nI 1))]) hX dX6_key_23 (Nat.le_of_ble_eq_true rfl) rfl ?_
  refine zz_iload hX dX6_key_25 4 rfl ?_
  refine zz_iconst (v := nI 0) hX dX6_key_27 rfl ?_
  refine zz_sipush (v := nI 359) hX dX6_key_28 rfl ?_
  refine zz_sI (x := zz_bi (nI 0 ≤ d ∧ d ≤ nI 359)) hX zf_M_X6_91 (As := [.int d, .int (nI 0), .int (nI 359)]) (st := []) (m_isIn d (nI 0) (nI 359) sh mi mr) rfl rfl (by decide) (Nat.le_of_ble_eq_true rfl) (Nat.le_of_ble_eq_true rfl) (Nat.le_of_ble_eq_true rfl) dX6_key_31 ?_
  refine zz_istore (ls' := [(0, .ref 1), (1, .int (nI i)), (2, .int (nI j)), (3, .int (nI f)), (4, .int d), (5, .int (nI 1)), (6, .int (zz_bi (nI 0 ≤ d ∧ d ≤ nI 359)))]) hX dX6_key_34 (Nat.le_of_ble_eq_true rfl) rfl ?_
  refine zz_aload_n hX dX6_key_36 0 rfl rfl ?_
  refine zz_iload hX dX6_key_37 5 rfl ?_
  refine zz_if_ne hX 46 dX6_key_39 (by decide) (fun _ => ?_) (fun c => absurd c (by decide))
  refine zz_iload hX dX6_key_46 6 rfl ?_
  refine zz_if_neB hX 55 dX6_key_48 (by decide) (fun c48 => ?_) (fun c48 => absurd (show nI 0 ≤ d ∧ d ≤ nI 359 from hB0) c48)
  refine zz_iload_n hX dX6_key_55 3 rfl rfl ?_
  refine zz_aload_n hX dX6_key_56 0 rfl rfl ?_
  refine zz_getR (y := 115) hX zf_F_X6_46.r hM.1 rfl (zM_r15 hM).1 dX6_key_57 ?_
  refine zz_iload_n hX dX6_key_60 1 rfl rfl ?_
  refine zz_iald (x := nI (zv_sk S i)) hX (zM_r15 hM).2 i rfl (by omega) (by decide) (((zM_v15 hM (k := i) (by omega)).trans (s2 i hi).2.2.2.2.2.2.2.2.2.2.1)) dX6_key_61 ?_
  refine zz_icmp_ltN hX (by omega) (by omega) 74 dX6_key_62 (by decide) (fun c62 => absurd c62 (by omega)) (fun c62 => ?_)
  refine zz_aload_n hX dX6_key_65 0 rfl rfl ?_
  refine zz_iload_n hX dX6_key_66 1 rfl rfl ?_
  refine zz_iload_n hX dX6_key_67 3 rfl rfl ?_
  refine zz_vI (x := zz_bi (zp_held S i f)) hX zf_M_X6_123 (As := [.int (nI i), .int (nI f)]) (st := [.ref 1]) (M_isHeld S sh mi mr hW hM i hi f (by omega)) hM.1 rfl rfl rfl (by decide) (Nat.le_of_ble_eq_true rfl) (Nat.le_of_ble_eq_true rfl) (Nat.le_of_ble_eq_true rfl) dX6_key_68 ?_
  refine zz_if_eqB hX 78 dX6_key_71 (by decide) (fun c71 => ?_) (fun c71 => absurd c71 (show ¬ (zp_held S i f) from hC1n))
  refine zz_iconst (v := nI 0) hX dX6_key_78 rfl ?_
  refine zz_vI (x := nI 0) hX zf_M_X6_108 (As := [.int (nI 0)]) (st := []) (m_fails0 sh mi mr hM.1) hM.1 rfl rfl rfl (by decide) (Nat.le_of_ble_eq_true rfl) (Nat.le_of_ble_eq_true rfl) (Nat.le_of_ble_eq_true rfl) dX6_key_79 ?_
  refine zz_if_eq hX 87 dX6_key_82 (by decide) (fun _ => ?_) (fun c => absurd c (by decide))
  refine zz_aload_n hX dX6_key_87 0 rfl rfl ?_
  refine zz_iload_n hX dX6_key_88 1 rfl rfl ?_
  refine zz_iload_n hX dX6_key_89 2 rfl rfl ?_
  refine zz_iload_n hX dX6_key_90 3 rfl rfl ?_
  refine zz_vI (x := zp_deg S i j f) hX zf_M_X6_144 (As := [.int (nI i), .int (nI j), .int (nI f)]) (st := []) (M_degreeAt S sh (zm_u2 mi 1 30 (nI 0)) mr hW (zM_th hM) i hi j (by omega) f (by omega)) hM.1 rfl rfl rfl (by decide) (Nat.le_of_ble_eq_true rfl) (Nat.le_of_ble_eq_true rfl) (Nat.le_of_ble_eq_true rfl) dX6_key_91 ?_
  refine zz_istore (ls' := [(0, .ref 1), (1, .int (nI i)), (2, .int (nI j)), (3, .int (nI f)), (4, .int d), (5, .int (nI 1)), (6, .int (zz_bi (nI 0 ≤ d ∧ d ≤ nI 359))), (7, .int (zp_deg S i j f))]) hX dX6_key_94 (Nat.le_of_ble_eq_true rfl) rfl ?_
  refine zz_aload_n hX dX6_key_96 0 rfl rfl ?_
  refine zz_getR (y := 118) hX zf_F_X6_56.r hM.1 rfl (zM_r18 hM).1 dX6_key_97 ?_
  refine zz_aload_n hX dX6_key_100 0 rfl rfl ?_
  refine zz_iload_n hX dX6_key_101 1 rfl rfl ?_
  refine zz_iload_n hX dX6_key_102 2 rfl rfl ?_
  refine zz_vI (x := nI (48 * (6 * i + j))) hX zf_M_X6_127 (As := [.int (nI i), .int (nI j)]) (st := [.ref 118]) (m_row sh (zm_u2 mi 1 30 (nI 0)) mr i j) hM.1 rfl rfl rfl (by decide) (Nat.le_of_ble_eq_true rfl) (Nat.le_of_ble_eq_true rfl) (Nat.le_of_ble_eq_true rfl) dX6_key_103 ?_
  refine zz_iload_n hX dX6_key_106 3 rfl rfl ?_
  refine zz_iadd (z := nI (48 * (6 * i + j) + f)) hX dX6_key_107 (nI_add _ _) ?_
  refine zz_iload hX dX6_key_108 4 rfl ?_
  refine zz_iast hX (zM_r18 hM).2 (48 * (6 * i + j) + f) rfl (by omega) (by decide) dX6_key_110 ?_
  refine zz_iload hX dX6_key_111 7 rfl ?_
  refine zz_iret hX hr rfl (Nat.le_of_ble_eq_true rfl) (Nat.le_of_ble_eq_true rfl) dX6_key_113 ?_
  exact ⟨_, rfl, Or.inl ⟨⟨hA0, hA1, hA2⟩, hB0, ⟨hC0, hC1⟩, (((zm_u2l (by decide))).trans (zm_u2s)), (by first | rfl | ((try rw [z_i]); (try rw [z_j]); (try rw [z_f]); (try rfl))), (by (try rw [z_i]); (try rw [z_j]); (try rw [z_f]); exact (zM_set (r := 18) (zM_th hM) (by decide)))⟩, (zr_mf (zr_mf zr_same.rfl' (by unfold zr_mout; omega)) (by unfold zr_mout; omega))⟩

set_option maxRecDepth 20000 in
theorem MP_camera (S : zS) (sh : zm_Sh) (mi : zm_Mi) (mr : zm_Mr) (hW : zW S) (hM : zM S sh mi mr) (s fx x : Int32)  : zz_Con yX6_camera (.code yX6_camera cX6_camera 5 (some Jvm.ClassFile.FieldType.int)) 6 0 0 [.ref 1, .int s, .int fx, .int x] sh mi mr (zq_m ((zs_ix s (zv_ns S)) ∧ (zs_ix fx (zv_fr S (zn s)))) (((-999) ≤ x ∧ x ≤ nI 999)) ((¬ fx < nI (zv_sk S (zn s)))) (nI 1) (nI 2) (nI 3) (zp_place S (zn s) (zn fx)) S (zm_u2 S 19 (48 * zn s + zn fx) x) sh mi mr) zz_none := by
  refine zz_begin RX6 [(0, .ref 1), (1, .int s), (2, .int fx), (3, .int x)] (by decide) rfl rfl (Nat.le_of_ble_eq_true rfl) rfl ?_
  intro Γ D E ad hX hr hN hT
  obtain ⟨hWp, hWv, hWs, hWk, hWr, hWf⟩ := id hW
  obtain ⟨p0, p1, p2, p3, p4, p5⟩ := hWp
  obtain ⟨v0, v1, v2, v3, v4⟩ := hWv
  obtain ⟨s0, s1, s2, s3⟩ := hWs
  obtain ⟨f0, f1, f2, f3⟩ := hWf
  by_cases hA0 : zs_ix s (zv_ns S)
  rotate_left
  · skip
    refine zz_aload_n hX dX6_camera_0 0 rfl rfl ?_
    refine zz_aload_n hX dX6_camera_1 0 rfl rfl ?_
    refine zz_iload_n hX dX6_camera_2 1 rfl rfl ?_
    refine zz_iload_n hX dX6_camera_3 2 rfl rfl ?_
    refine zz_vI (x := zz_bi (zs_ix s (zv_ns S) ∧ zs_ix fx (zv_fr S (zn s)))) hX zf_M_X6_141 (As := [.int s, .int fx]) (st := [.ref 1]) (M_isFrame S sh mi mr hW hM s fx) hM.1 rfl rfl rfl (by decide) (Nat.le_of_ble_eq_true rfl) (Nat.le_of_ble_eq_true rfl) (Nat.le_of_ble_eq_true rfl) dX6_camera_4 ?_
    refine zz_if_neB hX 14 dX6_camera_7 (by decide) (fun c7 => absurd c7 (show ¬ (zs_ix s (zv_ns S) ∧ zs_ix fx (zv_fr S (zn s))) from (fun h => hA0 (h.1)))) (fun c7 => ?_)
    refine zz_iconst (v := nI 1) hX dX6_camera_10 rfl ?_
    refine zz_goto hX 46 dX6_camera_11 (by decide) ?_
    refine zz_vI (x := nI 1) hX zf_M_X6_108 (As := [.int (nI 1)]) (st := []) (m_fails1 sh mi mr hM.1) hM.1 rfl rfl rfl (by decide) (Nat.le_of_ble_eq_true rfl) (Nat.le_of_ble_eq_true rfl) (Nat.le_of_ble_eq_true rfl) dX6_camera_46 ?_
    refine zz_if_eq hX 54 dX6_camera_49 (by decide) (fun c => absurd c (by decide)) (fun _ => ?_)
    refine zz_iconst (v := nI 0) hX dX6_camera_52 rfl ?_
    refine zz_iret hX hr rfl (Nat.le_of_ble_eq_true rfl) (Nat.le_of_ble_eq_true rfl) dX6_camera_53 ?_
    exact ⟨_, rfl, Or.inr (Or.inl ⟨(fun h => hA0 (h.1)), (zm_u2s), (zM_th hM)⟩), (zr_mf zr_same.rfl' (by unfold zr_mout; omega))⟩
  obtain ⟨i, hi, rfl⟩ := zs_ix_of hA0 (by omega)
  have z_i : zn (nI i) = i := nI_clamp (n := i) (by omega)
  obtain ⟨b1, b2, b3, b4, b5, b6, b7, b8, b9, b10, b11, b12, b13⟩ := s2 i hi
  have hjn9 := (p2 _ b2).2.2
  by_cases hA1 : zs_ix fx (zv_fr S (zn (nI i)))
  rotate_left
  · skip
    have hA1n : ¬ (zs_ix fx (zv_fr S (i))) := by have q9 := hA1; (try rw [z_i] at q9); exact q9
    refine zz_aload_n hX dX6_camera_0 0 rfl rfl ?_
    refine zz_aload_n hX dX6_camera_1 0 rfl rfl ?_
    refine zz_iload_n hX dX6_camera_2 1 rfl rfl ?_
    refine zz_iload_n hX dX6_camera_3 2 rfl rfl ?_
    refine zz_vI (x := zz_bi (zs_ix (nI i) (zv_ns S) ∧ zs_ix fx (zv_fr S (zn (nI i))))) hX zf_M_X6_141 (As := [.int (nI i), .int fx]) (st := [.ref 1]) (M_isFrame S sh mi mr hW hM (nI i) fx) hM.1 rfl rfl rfl (by decide) (Nat.le_of_ble_eq_true rfl) (Nat.le_of_ble_eq_true rfl) (Nat.le_of_ble_eq_true rfl) dX6_camera_4 ?_
    refine zz_if_neB hX 14 dX6_camera_7 (by decide) (fun c7 => absurd c7 (show ¬ (zs_ix (nI i) (zv_ns S) ∧ zs_ix fx (zv_fr S (zn (nI i)))) from (fun h => hA1 (h.2)))) (fun c7 => ?_)
    refine zz_iconst (v := nI 1) hX dX6_camera_10 rfl ?_
    refine zz_goto hX 46 dX6_camera_11 (by decide) ?_
    refine zz_vI (x := nI 1) hX zf_M_X6_108 (As := [.int (nI 1)]) (st := []) (m_fails1 sh mi mr hM.1) hM.1 rfl rfl rfl (by decide) (Nat.le_of_ble_eq_true rfl) (Nat.le_of_ble_eq_true rfl) (Nat.le_of_ble_eq_true rfl) dX6_camera_46 ?_
    refine zz_if_eq hX 54 dX6_camera_49 (by decide) (fun c => absurd c (by decide)) (fun _ => ?_)
    refine zz_iconst (v := nI 0) hX dX6_camera_52 rfl ?_
    refine zz_iret hX hr rfl (Nat.le_of_ble_eq_true rfl) (Nat.le_of_ble_eq_true rfl) dX6_camera_53 ?_
    exact ⟨_, rfl, Or.inr (Or.inl ⟨(fun h => hA1 (h.2)), (zm_u2s), (zM_th hM)⟩), (zr_mf zr_same.rfl' (by unfold zr_mout; omega))⟩
  have hA1n : zs_ix fx (zv_fr S (i)) := by have q9 := hA1; (try rw [z_i] at q9); exact q9
  obtain ⟨f, hf, rfl⟩ := zs_ix_of hA1n (by omega)
  have z_f : zn (nI f) = f := nI_clamp (n := f) (by omega)
  by_cases hB0 : (-999) ≤ x ∧ x ≤ nI 999
  rotate_left
  · skip
    refine zz_aload_n hX dX6_camera_0 0 rfl rfl ?_
    refine zz_aload_n hX dX6_camera_1 0 rfl rfl ?_
    refine zz_iload_n hX dX6_camera_2 1 rfl rfl ?_
    refine zz_iload_n hX dX6_camera_3 2 rfl rfl ?_
    refine zz_vI (x := zz_bi (zs_ix (nI i) (zv_ns S) ∧ zs_ix (nI f) (zv_fr S (zn (nI i))))) hX zf_M_X6_141 (As := [.int (nI i), .int (nI f)]) (st := [.ref 1]) (M_isFrame S sh mi mr hW hM (nI i) (nI f)) hM.1 rfl rfl rfl (by decide) (Nat.le_of_ble_eq_true rfl) (Nat.le_of_ble_eq_true rfl) (Nat.le_of_ble_eq_true rfl) dX6_camera_4 ?_
    refine zz_if_neB hX 14 dX6_camera_7 (by decide) (fun c7 => ?_) (fun c7 => absurd (show zs_ix (nI i) (zv_ns S) ∧ zs_ix (nI f) (zv_fr S (zn (nI i))) from ⟨hA0, hA1⟩) c7)
    refine zz_iload_n hX dX6_camera_14 3 rfl rfl ?_
    refine zz_sipush (v := (-999)) hX dX6_camera_15 rfl ?_
    refine zz_sipush (v := nI 999) hX dX6_camera_18 rfl ?_
    refine zz_sI (x := zz_bi ((-999) ≤ x ∧ x ≤ nI 999)) hX zf_M_X6_91 (As := [.int x, .int (-999), .int (nI 999)]) (st := [.ref 1]) (m_isIn x (-999) (nI 999) sh mi mr) rfl rfl (by decide) (Nat.le_of_ble_eq_true rfl) (Nat.le_of_ble_eq_true rfl) (Nat.le_of_ble_eq_true rfl) dX6_camera_21 ?_
    refine zz_if_neB hX 31 dX6_camera_24 (by decide) (fun c24 => absurd c24 (show ¬ ((-999) ≤ x ∧ x ≤ nI 999) from hB0)) (fun c24 => ?_)
    refine zz_iconst (v := nI 2) hX dX6_camera_27 rfl ?_
    refine zz_goto hX 46 dX6_camera_28 (by decide) ?_
    refine zz_vI (x := nI 1) hX zf_M_X6_108 (As := [.int (nI 2)]) (st := []) (m_fails2 sh mi mr hM.1) hM.1 rfl rfl rfl (by decide) (Nat.le_of_ble_eq_true rfl) (Nat.le_of_ble_eq_true rfl) (Nat.le_of_ble_eq_true rfl) dX6_camera_46 ?_
    refine zz_if_eq hX 54 dX6_camera_49 (by decide) (fun c => absurd c (by decide)) (fun _ => ?_)
    refine zz_iconst (v := nI 0) hX dX6_camera_52 rfl ?_
    refine zz_iret hX hr rfl (Nat.le_of_ble_eq_true rfl) (Nat.le_of_ble_eq_true rfl) dX6_camera_53 ?_
    exact ⟨_, rfl, Or.inr (Or.inr (Or.inl ⟨⟨hA0, hA1⟩, (fun h => hB0 (h)), (zm_u2s), (zM_th hM)⟩)), (zr_mf zr_same.rfl' (by unfold zr_mout; omega))⟩
  by_cases hC0 : ¬ (nI f) < nI (zv_sk S (zn (nI i)))
  rotate_left
  · skip
    have hC0n : ¬ (¬ (nI f) < nI (zv_sk S (i))) := by have q9 := hC0; (try rw [z_i] at q9); (try rw [z_f] at q9); exact q9
    have hC0m : f < zv_sk S i := Classical.byContradiction fun q => hC0n (fun z => q ((nI_ltI (by omega) (by omega)).mp z))
    refine zz_aload_n hX dX6_camera_0 0 rfl rfl ?_
    refine zz_aload_n hX dX6_camera_1 0 rfl rfl ?_
    refine zz_iload_n hX dX6_camera_2 1 rfl rfl ?_
    refine zz_iload_n hX dX6_camera_3 2 rfl rfl ?_
    refine zz_vI (x := zz_bi (zs_ix (nI i) (zv_ns S) ∧ zs_ix (nI f) (zv_fr S (zn (nI i))))) hX zf_M_X6_141 (As := [.int (nI i), .int (nI f)]) (st := [.ref 1]) (M_isFrame S sh mi mr hW hM (nI i) (nI f)) hM.1 rfl rfl rfl (by decide) (Nat.le_of_ble_eq_true rfl) (Nat.le_of_ble_eq_true rfl) (Nat.le_of_ble_eq_true rfl) dX6_camera_4 ?_
    refine zz_if_neB hX 14 dX6_camera_7 (by decide) (fun c7 => ?_) (fun c7 => absurd (show zs_ix (nI i) (zv_ns S) ∧ zs_ix (nI f) (zv_fr S (zn (nI i))) from ⟨hA0, hA1⟩) c7)
    refine zz_iload_n hX dX6_camera_14 3 rfl rfl ?_
    refine zz_sipush (v := (-999)) hX dX6_camera_15 rfl ?_
    refine zz_sipush (v := nI 999) hX dX6_camera_18 rfl ?_
    refine zz_sI (x := zz_bi ((-999) ≤ x ∧ x ≤ nI 999)) hX zf_M_X6_91 (As := [.int x, .int (-999), .int (nI 999)]) (st := [.ref 1]) (m_isIn x (-999) (nI 999) sh mi mr) rfl rfl (by decide) (Nat.le_of_ble_eq_true rfl) (Nat.le_of_ble_eq_true rfl) (Nat.le_of_ble_eq_true rfl) dX6_camera_21 ?_
    refine zz_if_neB hX 31 dX6_camera_24 (by decide) (fun c24 => ?_) (fun c24 => absurd (show (-999) ≤ x ∧ x ≤ nI 999 from hB0) c24)
    refine zz_iload_n hX dX6_camera_31 2 rfl rfl ?_
    refine zz_aload_n hX dX6_camera_32 0 rfl rfl ?_
    refine zz_getR (y := 115) hX zf_F_X6_46.r hM.1 rfl (zM_r15 hM).1 dX6_camera_33 ?_
    refine zz_iload_n hX dX6_camera_36 1 rfl rfl ?_
    refine zz_iald (x := nI (zv_sk S i)) hX (zM_r15 hM).2 i rfl (by omega) (by decide) (((zM_v15 hM (k := i) (by omega)).trans (s2 i hi).2.2.2.2.2.2.2.2.2.2.1)) dX6_camera_37 ?_
    refine zz_icmp_geN hX (by omega) (by omega) 45 dX6_camera_38 (by decide) (fun c38 => absurd c38 (by omega)) (fun c38 => ?_)
    refine zz_iconst (v := nI 3) hX dX6_camera_41 rfl ?_
    refine zz_goto hX 46 dX6_camera_42 (by decide) ?_
    refine zz_vI (x := nI 1) hX zf_M_X6_108 (As := [.int (nI 3)]) (st := []) (m_fails3 sh mi mr hM.1) hM.1 rfl rfl rfl (by decide) (Nat.le_of_ble_eq_true rfl) (Nat.le_of_ble_eq_true rfl) (Nat.le_of_ble_eq_true rfl) dX6_camera_46 ?_
    refine zz_if_eq hX 54 dX6_camera_49 (by decide) (fun c => absurd c (by decide)) (fun _ => ?_)
    refine zz_iconst (v := nI 0) hX dX6_camera_52 rfl ?_
    refine zz_iret hX hr rfl (Nat.le_of_ble_eq_true rfl) (Nat.le_of_ble_eq_true rfl) dX6_camera_53 ?_
    exact ⟨_, rfl, Or.inr (Or.inr (Or.inr ⟨⟨hA0, hA1⟩, hB0, (fun h => hC0 (h)), (zm_u2s), (zM_th hM)⟩)), (zr_mf zr_same.rfl' (by unfold zr_mout; omega))⟩
  have hC0n : ¬ (nI f) < nI (zv_sk S (i)) := by have q9 := hC0; (try rw [z_i] at q9); (try rw [z_f] at q9); exact q9
  have hC0m : ¬ f < zv_sk S i := fun q => hC0n ((nI_ltI (by omega) (by omega)).mpr q)
  refine zz_aload_n hX dX6_camera_0 0 rfl rfl ?_
  refine zz_aload_n hX dX6_camera_1 0 rfl rfl ?_
  refine zz_iload_n hX dX6_camera_2 1 rfl rfl ?_
  refine zz_iload_n hX dX6_camera_3 2 rfl rfl ?_
  refine zz_vI (x := zz_bi (zs_ix (nI i) (zv_ns S) ∧ zs_ix (nI f) (zv_fr S (zn (nI i))))) hX zf_M_X6_141 (As := [.int (nI i), .int (nI f)]) (st := [.ref 1]) (M_isFrame S sh mi mr hW hM (nI i) (nI f)) hM.1 rfl rfl rfl (by decide) (Nat.le_of_ble_eq_true rfl) (Nat.le_of_ble_eq_true rfl) (Nat.le_of_ble_eq_true rfl) dX6_camera_4 ?_
  refine zz_if_neB hX 14 dX6_camera_7 (by decide) (fun c7 => ?_) (fun c7 => absurd (show zs_ix (nI i) (zv_ns S) ∧ zs_ix (nI f) (zv_fr S (zn (nI i))) from ⟨hA0, hA1⟩) c7)
  refine zz_iload_n hX dX6_camera_14 3 rfl rfl ?_
  refine zz_sipush (v := (-999)) hX dX6_camera_15 rfl ?_
  refine zz_sipush (v := nI 999) hX dX6_camera_18 rfl ?_
  refine zz_sI (x := zz_bi ((-999) ≤ x ∧ x ≤ nI 999)) hX zf_M_X6_91 (As := [.int x, .int (-999), .int (nI 999)]) (st := [.ref 1]) (m_isIn x (-999) (nI 999) sh mi mr) rfl rfl (by decide) (Nat.le_of_ble_eq_true rfl) (Nat.le_of_ble_eq_true rfl) (Nat.le_of_ble_eq_true rfl) dX6_camera_21 ?_
  refine zz_if_neB hX 31 dX6_camera_24 (by decide) (fun c24 => ?_) (fun c24 => absurd (show (-999) ≤ x ∧ x ≤ nI 999 from hB0) c24)
  refine zz_iload_n hX dX6_camera_31 2 rfl rfl ?_
  refine zz_aload_n hX dX6_camera_32 0 rfl rfl ?_
  refine zz_getR (y := 115) hX zf_F_X6_46.r hM.1 rfl (zM_r15 hM).1 dX6_camera_33 ?_
  refine zz_iload_n hX dX6_camera_36 1 rfl rfl ?_
  refine zz_iald (x := nI (zv_sk S i)) hX (zM_r15 hM).2 i rfl (by omega) (by decide) (((zM_v15 hM (k := i) (by omega)).trans (s2 i hi).2.2.2.2.2.2.2.2.2.2.1)) dX6_camera_37 ?_
  refine zz_icmp_geN hX (by omega) (by omega) 45 dX6_camera_38 (by decide) (fun c38 => ?_) (fun c38 => absurd c38 (by omega))
  refine zz_iconst (v := nI 0) hX dX6_camera_45 rfl ?_
  refine zz_vI (x := nI 0) hX zf_M_X6_108 (As := [.int (nI 0)]) (st := []) (m_fails0 sh mi mr hM.1) hM.1 rfl rfl rfl (by decide) (Nat.le_of_ble_eq_true rfl) (Nat.le_of_ble_eq_true rfl) (Nat.le_of_ble_eq_true rfl) dX6_camera_46 ?_
  refine zz_if_eq hX 54 dX6_camera_49 (by decide) (fun _ => ?_) (fun c => absurd c (by decide))
  refine zz_aload_n hX dX6_camera_54 0 rfl rfl ?_
  refine zz_iload_n hX dX6_camera_55 1 rfl rfl ?_
  refine zz_iload_n hX dX6_camera_56 2 rfl rfl ?_
  refine zz_vI (x := zp_place S i f) hX zf_M_X6_148 (As := [.int (nI i), .int (nI f)]) (st := []) (M_placeAt S sh (zm_u2 mi 1 30 (nI 0)) mr hW (zM_th hM) i hi f (by omega)) hM.1 rfl rfl rfl (by decide) (Nat.le_of_ble_eq_true rfl) (Nat.le_of_ble_eq_true rfl) (Nat.le_of_ble_eq_true rfl) dX6_camera_57 ?_
  refine zz_istore (ls' := [(0, .ref 1), (1, .int (nI i)), (2, .int (nI f)), (3, .int x), (4, .int (zp_place S i f))]) hX dX6_camera_60 (Nat.le_of_ble_eq_true rfl) rfl ?_
  refine zz_aload_n hX dX6_camera_62 0 rfl rfl ?_
  refine zz_getR (y := 119) hX zf_F_X6_59.r hM.1 rfl (zM_r19 hM).1 dX6_camera_63 ?_
  refine zz_bipush (v := nI 48) hX dX6_camera_66 rfl ?_
  refine zz_iload_n hX dX6_camera_68 1 rfl rfl ?_
  refine zz_imul (z := nI (48 * i)) hX dX6_camera_69 (pk_mul _ _) ?_
  refine zz_iload_n hX dX6_camera_70 2 rfl rfl ?_
  refine zz_iadd (z := nI (48 * i + f)) hX dX6_camera_71 (nI_add _ _) ?_
  refine zz_iload_n hX dX6_camera_72 3 rfl rfl ?_
  refine zz_iast hX (zM_r19 hM).2 (48 * i + f) rfl (by omega) (by decide) dX6_camera_73 ?_
  refine zz_iload hX dX6_camera_74 4 rfl ?_
  refine zz_iret hX hr rfl (Nat.le_of_ble_eq_true rfl) (Nat.le_of_ble_eq_true rfl) dX6_camera_76 ?_
  exact ⟨_, rfl, Or.inl ⟨⟨hA0, hA1⟩, hB0, hC0, (((zm_u2l (by decide))).trans (zm_u2s)), (by first | rfl | ((try rw [z_i]); (try rw [z_f]); (try rfl))), (by (try rw [z_i]); (try rw [z_f]); exact (zM_set (r := 19) (zM_th hM) (by decide)))⟩, (zr_mf (zr_mf zr_same.rfl' (by unfold zr_mout; omega)) (by unfold zr_mout; omega))⟩

set_option maxRecDepth 20000 in
theorem MP_anew (S : zS) (sh : zm_Sh) (mi : zm_Mi) (mr : zm_Mr) (hW : zW S) (hM : zM S sh mi mr) (s fx : Int32)  : zz_Con yX6_anew (.code yX6_anew cX6_anew 5 (some Jvm.ClassFile.FieldType.int)) 6 0 0 [.ref 1, .int s, .int fx] sh mi mr (zq_m ((zs_ix s (zv_ns S)) ∧ (zs_ix fx (zv_fr S (zn s)))) (True) ((fx < nI (zv_sk S (zn s))) ∧ (zp_cut S s = -1)) (nI 1) (nI 0) (nI 2) (nI (zv_sk S (zn s) - zn fx)) S (zm_u2 S 15 (zn s) (nI (zn fx))) sh mi mr) zz_none := by
  refine zz_begin RX6 [(0, .ref 1), (1, .int s), (2, .int fx)] (by decide) rfl rfl (Nat.le_of_ble_eq_true rfl) rfl ?_
  intro Γ D E ad hX hr hN hT
  obtain ⟨hWp, hWv, hWs, hWk, hWr, hWf⟩ := id hW
  obtain ⟨p0, p1, p2, p3, p4, p5⟩ := hWp
  obtain ⟨v0, v1, v2, v3, v4⟩ := hWv
  obtain ⟨s0, s1, s2, s3⟩ := hWs
  obtain ⟨f0, f1, f2, f3⟩ := hWf
  by_cases hA0 : zs_ix s (zv_ns S)
  rotate_left
  · skip
    refine zz_aload_n hX dX6_anew_0 0 rfl rfl ?_
    refine zz_iload_n hX dX6_anew_1 1 rfl rfl ?_
    refine zz_iload_n hX dX6_anew_2 2 rfl rfl ?_
    refine zz_vI (x := zz_bi (zs_ix s (zv_ns S) ∧ zs_ix fx (zv_fr S (zn s)))) hX zf_M_X6_141 (As := [.int s, .int fx]) (st := []) (M_isFrame S sh mi mr hW hM s fx) hM.1 rfl rfl rfl (by decide) (Nat.le_of_ble_eq_true rfl) (Nat.le_of_ble_eq_true rfl) (Nat.le_of_ble_eq_true rfl) dX6_anew_3 ?_
    refine zz_if_eqB hX 31 dX6_anew_6 (by decide) (fun c6 => ?_) (fun c6 => absurd c6 (show ¬ (zs_ix s (zv_ns S) ∧ zs_ix fx (zv_fr S (zn s))) from (fun h => hA0 (h.1))))
    refine zz_iconst (v := nI 0) hX dX6_anew_31 rfl ?_
    refine zz_istore_n (ls' := [(0, .ref 1), (1, .int s), (2, .int fx), (3, .int (nI 0))]) hX dX6_anew_32 rfl (Nat.le_of_ble_eq_true rfl) rfl ?_
    refine zz_aload_n hX dX6_anew_33 0 rfl rfl ?_
    refine zz_aload_n hX dX6_anew_34 0 rfl rfl ?_
    refine zz_iload_n hX dX6_anew_35 1 rfl rfl ?_
    refine zz_iload_n hX dX6_anew_36 2 rfl rfl ?_
    refine zz_vI (x := zz_bi (zs_ix s (zv_ns S) ∧ zs_ix fx (zv_fr S (zn s)))) hX zf_M_X6_141 (As := [.int s, .int fx]) (st := [.ref 1]) (M_isFrame S sh mi mr hW hM s fx) hM.1 rfl rfl rfl (by decide) (Nat.le_of_ble_eq_true rfl) (Nat.le_of_ble_eq_true rfl) (Nat.le_of_ble_eq_true rfl) dX6_anew_37 ?_
    refine zz_if_neB hX 47 dX6_anew_40 (by decide) (fun c40 => absurd c40 (show ¬ (zs_ix s (zv_ns S) ∧ zs_ix fx (zv_fr S (zn s))) from (fun h => hA0 (h.1)))) (fun c40 => ?_)
    refine zz_iconst (v := nI 1) hX dX6_anew_43 rfl ?_
    refine zz_goto hX 56 dX6_anew_44 (by decide) ?_
    refine zz_vI (x := nI 1) hX zf_M_X6_108 (As := [.int (nI 1)]) (st := []) (m_fails1 sh mi mr hM.1) hM.1 rfl rfl rfl (by decide) (Nat.le_of_ble_eq_true rfl) (Nat.le_of_ble_eq_true rfl) (Nat.le_of_ble_eq_true rfl) dX6_anew_56 ?_
    refine zz_if_eq hX 64 dX6_anew_59 (by decide) (fun c => absurd c (by decide)) (fun _ => ?_)
    refine zz_iconst (v := nI 0) hX dX6_anew_62 rfl ?_
    refine zz_iret hX hr rfl (Nat.le_of_ble_eq_true rfl) (Nat.le_of_ble_eq_true rfl) dX6_anew_63 ?_
    exact ⟨_, rfl, Or.inr (Or.inl ⟨(fun h => hA0 (h.1)), (zm_u2s), (zM_th hM)⟩), (zr_mf zr_same.rfl' (by unfold zr_mout; omega))⟩
  obtain ⟨i, hi, rfl⟩ := zs_ix_of hA0 (by omega)
  have z_i : zn (nI i) = i := nI_clamp (n := i) (by omega)
  obtain ⟨b1, b2, b3, b4, b5, b6, b7, b8, b9, b10, b11, b12, b13⟩ := s2 i hi
  have hjn9 := (p2 _ b2).2.2
  by_cases hA1 : zs_ix fx (zv_fr S (zn (nI i)))
  rotate_left
  · skip
    have hA1n : ¬ (zs_ix fx (zv_fr S (i))) := by have q9 := hA1; (try rw [z_i] at q9); exact q9
    refine zz_aload_n hX dX6_anew_0 0 rfl rfl ?_
    refine zz_iload_n hX dX6_anew_1 1 rfl rfl ?_
    refine zz_iload_n hX dX6_anew_2 2 rfl rfl ?_
    refine zz_vI (x := zz_bi (zs_ix (nI i) (zv_ns S) ∧ zs_ix fx (zv_fr S (zn (nI i))))) hX zf_M_X6_141 (As := [.int (nI i), .int fx]) (st := []) (M_isFrame S sh mi mr hW hM (nI i) fx) hM.1 rfl rfl rfl (by decide) (Nat.le_of_ble_eq_true rfl) (Nat.le_of_ble_eq_true rfl) (Nat.le_of_ble_eq_true rfl) dX6_anew_3 ?_
    refine zz_if_eqB hX 31 dX6_anew_6 (by decide) (fun c6 => ?_) (fun c6 => absurd c6 (show ¬ (zs_ix (nI i) (zv_ns S) ∧ zs_ix fx (zv_fr S (zn (nI i)))) from (fun h => hA1 (h.2))))
    refine zz_iconst (v := nI 0) hX dX6_anew_31 rfl ?_
    refine zz_istore_n (ls' := [(0, .ref 1), (1, .int (nI i)), (2, .int fx), (3, .int (nI 0))]) hX dX6_anew_32 rfl (Nat.le_of_ble_eq_true rfl) rfl ?_
    refine zz_aload_n hX dX6_anew_33 0 rfl rfl ?_
    refine zz_aload_n hX dX6_anew_34 0 rfl rfl ?_
    refine zz_iload_n hX dX6_anew_35 1 rfl rfl ?_
    refine zz_iload_n hX dX6_anew_36 2 rfl rfl ?_
    refine zz_vI (x := zz_bi (zs_ix (nI i) (zv_ns S) ∧ zs_ix fx (zv_fr S (zn (nI i))))) hX zf_M_X6_141 (As := [.int (nI i), .int fx]) (st := [.ref 1]) (M_isFrame S sh mi mr hW hM (nI i) fx) hM.1 rfl rfl rfl (by decide) (Nat.le_of_ble_eq_true rfl) (Nat.le_of_ble_eq_true rfl) (Nat.le_of_ble_eq_true rfl) dX6_anew_37 ?_
    refine zz_if_neB hX 47 dX6_anew_40 (by decide) (fun c40 => absurd c40 (show ¬ (zs_ix (nI i) (zv_ns S) ∧ zs_ix fx (zv_fr S (zn (nI i)))) from (fun h => hA1 (h.2)))) (fun c40 => ?_)
    refine zz_iconst (v := nI 1) hX dX6_anew_43 rfl ?_
    refine zz_goto hX 56 dX6_anew_44 (by decide) ?_
    refine zz_vI (x := nI 1) hX zf_M_X6_108 (As := [.int (nI 1)]) (st := []) (m_fails1 sh mi mr hM.1) hM.1 rfl rfl rfl (by decide) (Nat.le_of_ble_eq_true rfl) (Nat.le_of_ble_eq_true rfl) (Nat.le_of_ble_eq_true rfl) dX6_anew_56 ?_
    refine zz_if_eq hX 64 dX6_anew_59 (by decide) (fun c => absurd c (by decide)) (fun _ => ?_)
    refine zz_iconst (v := nI 0) hX dX6_anew_62 rfl ?_
    refine zz_iret hX hr rfl (Nat.le_of_ble_eq_true rfl) (Nat.le_of_ble_eq_true rfl) dX6_anew_63 ?_
    exact ⟨_, rfl, Or.inr (Or.inl ⟨(fun h => hA1 (h.2)), (zm_u2s), (zM_th hM)⟩), (zr_mf zr_same.rfl' (by unfold zr_mout; omega))⟩
  have hA1n : zs_ix fx (zv_fr S (i)) := by have q9 := hA1; (try rw [z_i] at q9); exact q9
  obtain ⟨f, hf, rfl⟩ := zs_ix_of hA1n (by omega)
  have z_f : zn (nI f) = f := nI_clamp (n := f) (by omega)
  by_cases hC0 : (nI f) < nI (zv_sk S (zn (nI i)))
  rotate_left
  · skip
    have hC0n : ¬ ((nI f) < nI (zv_sk S (i))) := by have q9 := hC0; (try rw [z_i] at q9); (try rw [z_f] at q9); exact q9
    have hC0m : ¬ f < zv_sk S i := fun q => hC0n ((nI_ltI (by omega) (by omega)).mpr q)
    have hK9 : ¬ zs_ix (nI f) (zv_sk S (zn (nI i))) := by rw [z_i]; exact zs_ix_not hC0m (by omega)
    refine zz_aload_n hX dX6_anew_0 0 rfl rfl ?_
    refine zz_iload_n hX dX6_anew_1 1 rfl rfl ?_
    refine zz_iload_n hX dX6_anew_2 2 rfl rfl ?_
    refine zz_vI (x := zz_bi (zs_ix (nI i) (zv_ns S) ∧ zs_ix (nI f) (zv_fr S (zn (nI i))))) hX zf_M_X6_141 (As := [.int (nI i), .int (nI f)]) (st := []) (M_isFrame S sh mi mr hW hM (nI i) (nI f)) hM.1 rfl rfl rfl (by decide) (Nat.le_of_ble_eq_true rfl) (Nat.le_of_ble_eq_true rfl) (Nat.le_of_ble_eq_true rfl) dX6_anew_3 ?_
    refine zz_if_eqB hX 31 dX6_anew_6 (by decide) (fun c6 => absurd (show zs_ix (nI i) (zv_ns S) ∧ zs_ix (nI f) (zv_fr S (zn (nI i))) from ⟨hA0, hA1⟩) c6) (fun c6 => ?_)
    refine zz_aload_n hX dX6_anew_9 0 rfl rfl ?_
    refine zz_iload_n hX dX6_anew_10 1 rfl rfl ?_
    refine zz_iload_n hX dX6_anew_11 2 rfl rfl ?_
    refine zz_vI (x := zz_bi (zs_ix (nI i) (zv_ns S) ∧ zs_ix (nI f) (zv_sk S (zn (nI i))))) hX zf_M_X6_193 (As := [.int (nI i), .int (nI f)]) (st := []) (M_isStruck S sh mi mr hW hM (nI i) (nI f)) hM.1 rfl rfl rfl (by decide) (Nat.le_of_ble_eq_true rfl) (Nat.le_of_ble_eq_true rfl) (Nat.le_of_ble_eq_true rfl) dX6_anew_12 ?_
    refine zz_if_eqB hX 31 dX6_anew_15 (by decide) (fun c15 => ?_) (fun c15 => absurd c15 (show ¬ (zs_ix (nI i) (zv_ns S) ∧ zs_ix (nI f) (zv_sk S (zn (nI i)))) from (fun h => hK9 (h.2))))
    refine zz_iconst (v := nI 0) hX dX6_anew_31 rfl ?_
    refine zz_istore_n (ls' := [(0, .ref 1), (1, .int (nI i)), (2, .int (nI f)), (3, .int (nI 0))]) hX dX6_anew_32 rfl (Nat.le_of_ble_eq_true rfl) rfl ?_
    refine zz_aload_n hX dX6_anew_33 0 rfl rfl ?_
    refine zz_aload_n hX dX6_anew_34 0 rfl rfl ?_
    refine zz_iload_n hX dX6_anew_35 1 rfl rfl ?_
    refine zz_iload_n hX dX6_anew_36 2 rfl rfl ?_
    refine zz_vI (x := zz_bi (zs_ix (nI i) (zv_ns S) ∧ zs_ix (nI f) (zv_fr S (zn (nI i))))) hX zf_M_X6_141 (As := [.int (nI i), .int (nI f)]) (st := [.ref 1]) (M_isFrame S sh mi mr hW hM (nI i) (nI f)) hM.1 rfl rfl rfl (by decide) (Nat.le_of_ble_eq_true rfl) (Nat.le_of_ble_eq_true rfl) (Nat.le_of_ble_eq_true rfl) dX6_anew_37 ?_
    refine zz_if_neB hX 47 dX6_anew_40 (by decide) (fun c40 => ?_) (fun c40 => absurd (show zs_ix (nI i) (zv_ns S) ∧ zs_ix (nI f) (zv_fr S (zn (nI i))) from ⟨hA0, hA1⟩) c40)
    refine zz_iload_n hX dX6_anew_47 3 rfl rfl ?_
    refine zz_if_eq hX 55 dX6_anew_48 (by decide) (fun _ => ?_) (fun c => absurd c (by decide))
    refine zz_iconst (v := nI 2) hX dX6_anew_55 rfl ?_
    refine zz_vI (x := nI 1) hX zf_M_X6_108 (As := [.int (nI 2)]) (st := []) (m_fails2 sh mi mr hM.1) hM.1 rfl rfl rfl (by decide) (Nat.le_of_ble_eq_true rfl) (Nat.le_of_ble_eq_true rfl) (Nat.le_of_ble_eq_true rfl) dX6_anew_56 ?_
    refine zz_if_eq hX 64 dX6_anew_59 (by decide) (fun c => absurd c (by decide)) (fun _ => ?_)
    refine zz_iconst (v := nI 0) hX dX6_anew_62 rfl ?_
    refine zz_iret hX hr rfl (Nat.le_of_ble_eq_true rfl) (Nat.le_of_ble_eq_true rfl) dX6_anew_63 ?_
    exact ⟨_, rfl, Or.inr (Or.inr (Or.inr ⟨⟨hA0, hA1⟩, trivial, (fun h => hC0 (h.1)), (zm_u2s), (zM_th hM)⟩)), (zr_mf zr_same.rfl' (by unfold zr_mout; omega))⟩
  have hC0n : (nI f) < nI (zv_sk S (i)) := by have q9 := hC0; (try rw [z_i] at q9); (try rw [z_f] at q9); exact q9
  have hC0m : f < zv_sk S i := (nI_ltI (by omega) (by omega)).mp hC0n
  have hK9 : zs_ix (nI f) (zv_sk S (zn (nI i))) := by rw [z_i]; exact zs_ix_nI hC0m (by omega)
  by_cases hC1 : zp_cut S (nI i) = -1
  rotate_left
  · skip
    refine zz_aload_n hX dX6_anew_0 0 rfl rfl ?_
    refine zz_iload_n hX dX6_anew_1 1 rfl rfl ?_
    refine zz_iload_n hX dX6_anew_2 2 rfl rfl ?_
    refine zz_vI (x := zz_bi (zs_ix (nI i) (zv_ns S) ∧ zs_ix (nI f) (zv_fr S (zn (nI i))))) hX zf_M_X6_141 (As := [.int (nI i), .int (nI f)]) (st := []) (M_isFrame S sh mi mr hW hM (nI i) (nI f)) hM.1 rfl rfl rfl (by decide) (Nat.le_of_ble_eq_true rfl) (Nat.le_of_ble_eq_true rfl) (Nat.le_of_ble_eq_true rfl) dX6_anew_3 ?_
    refine zz_if_eqB hX 31 dX6_anew_6 (by decide) (fun c6 => absurd (show zs_ix (nI i) (zv_ns S) ∧ zs_ix (nI f) (zv_fr S (zn (nI i))) from ⟨hA0, hA1⟩) c6) (fun c6 => ?_)
    refine zz_aload_n hX dX6_anew_9 0 rfl rfl ?_
    refine zz_iload_n hX dX6_anew_10 1 rfl rfl ?_
    refine zz_iload_n hX dX6_anew_11 2 rfl rfl ?_
    refine zz_vI (x := zz_bi (zs_ix (nI i) (zv_ns S) ∧ zs_ix (nI f) (zv_sk S (zn (nI i))))) hX zf_M_X6_193 (As := [.int (nI i), .int (nI f)]) (st := []) (M_isStruck S sh mi mr hW hM (nI i) (nI f)) hM.1 rfl rfl rfl (by decide) (Nat.le_of_ble_eq_true rfl) (Nat.le_of_ble_eq_true rfl) (Nat.le_of_ble_eq_true rfl) dX6_anew_12 ?_
    refine zz_if_eqB hX 31 dX6_anew_15 (by decide) (fun c15 => absurd (show zs_ix (nI i) (zv_ns S) ∧ zs_ix (nI f) (zv_sk S (zn (nI i))) from ⟨hA0, hK9⟩) c15) (fun c15 => ?_)
    refine zz_aload_n hX dX6_anew_18 0 rfl rfl ?_
    refine zz_iload_n hX dX6_anew_19 1 rfl rfl ?_
    refine zz_vI (x := zp_cut S (nI i)) hX zf_M_X6_196 (As := [.int (nI i)]) (st := []) (M_inFilm S sh mi mr hW hM (nI i)) hM.1 rfl rfl rfl (by decide) (Nat.le_of_ble_eq_true rfl) (Nat.le_of_ble_eq_true rfl) (Nat.le_of_ble_eq_true rfl) dX6_anew_20 ?_
    refine zz_iconst (v := (-1)) hX dX6_anew_23 rfl ?_
    refine zz_icmp_ne hX 31 dX6_anew_24 (by decide) (fun c24 => ?_) (fun c24 => absurd c24 hC1)
    refine zz_iconst (v := nI 0) hX dX6_anew_31 rfl ?_
    refine zz_istore_n (ls' := [(0, .ref 1), (1, .int (nI i)), (2, .int (nI f)), (3, .int (nI 0))]) hX dX6_anew_32 rfl (Nat.le_of_ble_eq_true rfl) rfl ?_
    refine zz_aload_n hX dX6_anew_33 0 rfl rfl ?_
    refine zz_aload_n hX dX6_anew_34 0 rfl rfl ?_
    refine zz_iload_n hX dX6_anew_35 1 rfl rfl ?_
    refine zz_iload_n hX dX6_anew_36 2 rfl rfl ?_
    refine zz_vI (x := zz_bi (zs_ix (nI i) (zv_ns S) ∧ zs_ix (nI f) (zv_fr S (zn (nI i))))) hX zf_M_X6_141 (As := [.int (nI i), .int (nI f)]) (st := [.ref 1]) (M_isFrame S sh mi mr hW hM (nI i) (nI f)) hM.1 rfl rfl rfl (by decide) (Nat.le_of_ble_eq_true rfl) (Nat.le_of_ble_eq_true rfl) (Nat.le_of_ble_eq_true rfl) dX6_anew_37 ?_
    refine zz_if_neB hX 47 dX6_anew_40 (by decide) (fun c40 => ?_) (fun c40 => absurd (show zs_ix (nI i) (zv_ns S) ∧ zs_ix (nI f) (zv_fr S (zn (nI i))) from ⟨hA0, hA1⟩) c40)
    refine zz_iload_n hX dX6_anew_47 3 rfl rfl ?_
    refine zz_if_eq hX 55 dX6_anew_48 (by decide) (fun _ => ?_) (fun c => absurd c (by decide))
    refine zz_iconst (v := nI 2) hX dX6_anew_55 rfl ?_
    refine zz_vI (x := nI 1) hX zf_M_X6_108 (As := [.int (nI 2)]) (st := []) (m_fails2 sh mi mr hM.1) hM.1 rfl rfl rfl (by decide) (Nat.le_of_ble_eq_true rfl) (Nat.le_of_ble_eq_true rfl) (Nat.le_of_ble_eq_true rfl) dX6_anew_56 ?_
    refine zz_if_eq hX 64 dX6_anew_59 (by decide) (fun c => absurd c (by decide)) (fun _ => ?_)
    refine zz_iconst (v := nI 0) hX dX6_anew_62 rfl ?_
    refine zz_iret hX hr rfl (Nat.le_of_ble_eq_true rfl) (Nat.le_of_ble_eq_true rfl) dX6_anew_63 ?_
    exact ⟨_, rfl, Or.inr (Or.inr (Or.inr ⟨⟨hA0, hA1⟩, trivial, (fun h => hC1 (h.2)), (zm_u2s), (zM_th hM)⟩)), (zr_mf zr_same.rfl' (by unfold zr_mout; omega))⟩
  refine zz_aload_n hX dX6_anew_0 0 rfl rfl ?_
  refine zz_iload_n hX dX6_anew_1 1 rfl rfl ?_
  refine zz_iload_n hX dX6_anew_2 2 rfl rfl ?_
  refine zz_vI (x := zz_bi (zs_ix (nI i) (zv_ns S) ∧ zs_ix (nI f) (zv_fr S (zn (nI i))))) hX zf_M_X6_141 (As := [.int (nI i), .int (nI f)]) (st := []) (M_isFrame S sh mi mr hW hM (nI i) (nI f)) hM.1 rfl rfl rfl (by decide) (Nat.le_of_ble_eq_true rfl) (Nat.le_of_ble_eq_true rfl) (Nat.le_of_ble_eq_true rfl) dX6_anew_3 ?_
  refine zz_if_eqB hX 31 dX6_anew_6 (by decide) (fun c6 => absurd (show zs_ix (nI i) (zv_ns S) ∧ zs_ix (nI f) (zv_fr S (zn (nI i))) from ⟨hA0, hA1⟩) c6) (fun c6 => ?_)
  refine zz_aload_n hX dX6_anew_9 0 rfl rfl ?_
  refine zz_iload_n hX dX6_anew_10 1 rfl rfl ?_
  refine zz_iload_n hX dX6_anew_11 2 rfl rfl ?_
  refine zz_vI (x := zz_bi (zs_ix (nI i) (zv_ns S) ∧ zs_ix (nI f) (zv_sk S (zn (nI i))))) hX zf_M_X6_193 (As := [.int (nI i), .int (nI f)]) (st := []) (M_isStruck S sh mi mr hW hM (nI i) (nI f)) hM.1 rfl rfl rfl (by decide) (Nat.le_of_ble_eq_true rfl) (Nat.le_of_ble_eq_true rfl) (Nat.le_of_ble_eq_true rfl) dX6_anew_12 ?_
  refine zz_if_eqB hX 31 dX6_anew_15 (by decide) (fun c15 => absurd (show zs_ix (nI i) (zv_ns S) ∧ zs_ix (nI f) (zv_sk S (zn (nI i))) from ⟨hA0, hK9⟩) c15) (fun c15 => ?_)
  refine zz_aload_n hX dX6_anew_18 0 rfl rfl ?_
  refine zz_iload_n hX dX6_anew_19 1 rfl rfl ?_
  refine zz_vI (x := zp_cut S (nI i)) hX zf_M_X6_196 (As := [.int (nI i)]) (st := []) (M_inFilm S sh mi mr hW hM (nI i)) hM.1 rfl rfl rfl (by decide) (Nat.le_of_ble_eq_true rfl) (Nat.le_of_ble_eq_true rfl) (Nat.le_of_ble_eq_true rfl) dX6_anew_20 ?_
  refine zz_iconst (v := (-1)) hX dX6_anew_23 rfl ?_
  refine zz_icmp_ne hX 31 dX6_anew_24 (by decide) (fun c24 => absurd hC1 c24) (fun c24 => ?_)
  refine zz_iconst (v := nI 1) hX dX6_anew_27 rfl ?_
  refine zz_goto hX 32 dX6_anew_28 (by decide) ?_
  refine zz_istore_n (ls' := [(0, .ref 1), (1, .int (nI i)), (2, .int (nI f)), (3, .int (nI 1))]) hX dX6_anew_32 rfl (Nat.le_of_ble_eq_true rfl) rfl ?_
  refine zz_aload_n hX dX6_anew_33 0 rfl rfl ?_
  refine zz_aload_n hX dX6_anew_34 0 rfl rfl ?_
  refine zz_iload_n hX dX6_anew_35 1 rfl rfl ?_
  refine zz_iload_n hX dX6_anew_36 2 rfl rfl ?_
  refine zz_vI (x := zz_bi (zs_ix (nI i) (zv_ns S) ∧ zs_ix (nI f) (zv_fr S (zn (nI i))))) hX zf_M_X6_141 (As := [.int (nI i), .int (nI f)]) (st := [.ref 1]) (M_isFrame S sh mi mr hW hM (nI i) (nI f)) hM.1 rfl rfl rfl (by decide) (Nat.le_of_ble_eq_true rfl) (Nat.le_of_ble_eq_true rfl) (Nat.le_of_ble_eq_true rfl) dX6_anew_37 ?_
  refine zz_if_neB hX 47 dX6_anew_40 (by decide) (fun c40 => ?_) (fun c40 => absurd (show zs_ix (nI i) (zv_ns S) ∧ zs_ix (nI f) (zv_fr S (zn (nI i))) from ⟨hA0, hA1⟩) c40)
  refine zz_iload_n hX dX6_anew_47 3 rfl rfl ?_
  refine zz_if_eq hX 55 dX6_anew_48 (by decide) (fun c => absurd c (by decide)) (fun _ => ?_)
  refine zz_iconst (v := nI 0) hX dX6_anew_51 rfl ?_
  refine zz_goto hX 56 dX6_anew_52 (by decide) ?_
  refine zz_vI (x := nI 0) hX zf_M_X6_108 (As := [.int (nI 0)]) (st := []) (m_fails0 sh mi mr hM.1) hM.1 rfl rfl rfl (by decide) (Nat.le_of_ble_eq_true rfl) (Nat.le_of_ble_eq_true rfl) (Nat.le_of_ble_eq_true rfl) dX6_anew_56 ?_
  refine zz_if_eq hX 64 dX6_anew_59 (by decide) (fun _ => ?_) (fun c => absurd c (by decide))
  refine zz_aload_n hX dX6_anew_64 0 rfl rfl ?_
  refine zz_getR (y := 115) hX zf_F_X6_46.r hM.1 rfl (zM_r15 hM).1 dX6_anew_65 ?_
  refine zz_iload_n hX dX6_anew_68 1 rfl rfl ?_
  refine zz_iald (x := nI (zv_sk S i)) hX (zM_r15 hM).2 i rfl (by omega) (by decide) (((zm_u2l (by decide))).trans (((zM_v15 hM (k := i) (by omega)).trans (s2 i hi).2.2.2.2.2.2.2.2.2.2.1))) dX6_anew_69 ?_
  refine zz_iload_n hX dX6_anew_70 2 rfl rfl ?_
  refine zz_isub (z := nI ((zv_sk S i) - f)) hX dX6_anew_71 (pk_sub (by omega)) ?_
  refine zz_istore (ls' := [(0, .ref 1), (1, .int (nI i)), (2, .int (nI f)), (3, .int (nI 1)), (4, .int (nI ((zv_sk S i) - f)))]) hX dX6_anew_72 (Nat.le_of_ble_eq_true rfl) rfl ?_
  refine zz_aload_n hX dX6_anew_74 0 rfl rfl ?_
  refine zz_getR (y := 115) hX zf_F_X6_46.r hM.1 rfl (zM_r15 hM).1 dX6_anew_75 ?_
  refine zz_iload_n hX dX6_anew_78 1 rfl rfl ?_
  refine zz_iload_n hX dX6_anew_79 2 rfl rfl ?_
  refine zz_iast hX (zM_r15 hM).2 i rfl (by omega) (by decide) dX6_anew_80 ?_
  refine zz_iload hX dX6_anew_81 4 rfl ?_
  refine zz_iret hX hr rfl (Nat.le_of_ble_eq_true rfl) (Nat.le_of_ble_eq_true rfl) dX6_anew_83 ?_
  exact ⟨_, rfl, Or.inl ⟨⟨hA0, hA1⟩, trivial, ⟨hC0, hC1⟩, (((zm_u2l (by decide))).trans (zm_u2s)), (by first | rfl | ((try rw [z_i]); (try rw [z_f]); (try rfl))), (by (try rw [z_i]); (try rw [z_f]); exact (zM_set (r := 15) (zM_th hM) (by decide)))⟩, (zr_mf (zr_mf zr_same.rfl' (by unfold zr_mout; omega)) (by unfold zr_mout; omega))⟩

set_option maxRecDepth 20000 in
theorem MP_cut (S : zS) (sh : zm_Sh) (mi : zm_Mi) (mr : zm_Mr) (hW : zW S) (hM : zM S sh mi mr) (s : Int32)  : zz_Con yX6_cut (.code yX6_cut cX6_cut 2 (some Jvm.ClassFile.FieldType.int)) 6 0 0 [.ref 1, .int s] sh mi mr (zq_m ((zs_ix s (zv_ns S))) (True) ((zv_fr S (zn s) ≤ zv_sk S (zn s)) ∧ (zp_cut S s = -1)) (nI 1) (nI 0) (nI 2) (zp_film (zt_cut S (zn s))) S (zt_cut S (zn s)) sh mi mr) zz_none := by
  refine zz_begin RX6 [(0, .ref 1), (1, .int s)] (by decide) rfl rfl (Nat.le_of_ble_eq_true rfl) rfl ?_
  intro Γ D E ad hX hr hN hT
  obtain ⟨hWp, hWv, hWs, hWk, hWr, hWf⟩ := id hW
  obtain ⟨p0, p1, p2, p3, p4, p5⟩ := hWp
  obtain ⟨v0, v1, v2, v3, v4⟩ := hWv
  obtain ⟨s0, s1, s2, s3⟩ := hWs
  obtain ⟨f0, f1, f2, f3⟩ := hWf
  by_cases hA0 : zs_ix s (zv_ns S)
  rotate_left
  · skip
    refine zz_aload_n hX dX6_cut_0 0 rfl rfl ?_
    refine zz_aload_n hX dX6_cut_1 0 rfl rfl ?_
    refine zz_iload_n hX dX6_cut_2 1 rfl rfl ?_
    refine zz_vI (x := zz_bi (zs_ix s (zv_ns S))) hX zf_M_X6_105 (As := [.int s]) (st := [.ref 1]) (M_isShot S sh mi mr hW hM s) hM.1 rfl rfl rfl (by decide) (Nat.le_of_ble_eq_true rfl) (Nat.le_of_ble_eq_true rfl) (Nat.le_of_ble_eq_true rfl) dX6_cut_3 ?_
    refine zz_if_neB hX 13 dX6_cut_6 (by decide) (fun c6 => absurd c6 (show ¬ (zs_ix s (zv_ns S)) from hA0)) (fun c6 => ?_)
    refine zz_iconst (v := nI 1) hX dX6_cut_9 rfl ?_
    refine zz_goto hX 35 dX6_cut_10 (by decide) ?_
    refine zz_vI (x := nI 1) hX zf_M_X6_108 (As := [.int (nI 1)]) (st := []) (m_fails1 sh mi mr hM.1) hM.1 rfl rfl rfl (by decide) (Nat.le_of_ble_eq_true rfl) (Nat.le_of_ble_eq_true rfl) (Nat.le_of_ble_eq_true rfl) dX6_cut_35 ?_
    refine zz_if_eq hX 43 dX6_cut_38 (by decide) (fun c => absurd c (by decide)) (fun _ => ?_)
    refine zz_iconst (v := nI 0) hX dX6_cut_41 rfl ?_
    refine zz_iret hX hr rfl (Nat.le_of_ble_eq_true rfl) (Nat.le_of_ble_eq_true rfl) dX6_cut_42 ?_
    exact ⟨_, rfl, Or.inr (Or.inl ⟨(fun h => hA0 (h)), (zm_u2s), (zM_th hM)⟩), (zr_mf zr_same.rfl' (by unfold zr_mout; omega))⟩
  obtain ⟨i, hi, rfl⟩ := zs_ix_of hA0 (by omega)
  have z_i : zn (nI i) = i := nI_clamp (n := i) (by omega)
  obtain ⟨b1, b2, b3, b4, b5, b6, b7, b8, b9, b10, b11, b12, b13⟩ := s2 i hi
  have hjn9 := (p2 _ b2).2.2
  by_cases hC0 : zv_fr S (zn (nI i)) ≤ zv_sk S (zn (nI i))
  rotate_left
  · skip
    have hC0n : ¬ (zv_fr S (i) ≤ zv_sk S (i)) := by have q9 := hC0; (try rw [z_i] at q9); exact q9
    refine zz_aload_n hX dX6_cut_0 0 rfl rfl ?_
    refine zz_aload_n hX dX6_cut_1 0 rfl rfl ?_
    refine zz_iload_n hX dX6_cut_2 1 rfl rfl ?_
    refine zz_vI (x := zz_bi (zs_ix (nI i) (zv_ns S))) hX zf_M_X6_105 (As := [.int (nI i)]) (st := [.ref 1]) (M_isShot S sh mi mr hW hM (nI i)) hM.1 rfl rfl rfl (by decide) (Nat.le_of_ble_eq_true rfl) (Nat.le_of_ble_eq_true rfl) (Nat.le_of_ble_eq_true rfl) dX6_cut_3 ?_
    refine zz_if_neB hX 13 dX6_cut_6 (by decide) (fun c6 => ?_) (fun c6 => absurd (show zs_ix (nI i) (zv_ns S) from hA0) c6)
    refine zz_aload_n hX dX6_cut_13 0 rfl rfl ?_
    refine zz_iload_n hX dX6_cut_14 1 rfl rfl ?_
    refine zz_vI (x := zz_bi (zv_fr S i ≤ zv_sk S i)) hX zf_M_X6_117 (As := [.int (nI i)]) (st := [.ref 1]) (M_isDone S sh mi mr hW hM i hi) hM.1 rfl rfl rfl (by decide) (Nat.le_of_ble_eq_true rfl) (Nat.le_of_ble_eq_true rfl) (Nat.le_of_ble_eq_true rfl) dX6_cut_15 ?_
    refine zz_if_eqB hX 30 dX6_cut_18 (by decide) (fun c18 => ?_) (fun c18 => absurd c18 (show ¬ (zv_fr S i ≤ zv_sk S i) from hC0n))
    refine zz_iconst (v := nI 2) hX dX6_cut_30 rfl ?_
    refine zz_goto hX 35 dX6_cut_31 (by decide) ?_
    refine zz_vI (x := nI 1) hX zf_M_X6_108 (As := [.int (nI 2)]) (st := []) (m_fails2 sh mi mr hM.1) hM.1 rfl rfl rfl (by decide) (Nat.le_of_ble_eq_true rfl) (Nat.le_of_ble_eq_true rfl) (Nat.le_of_ble_eq_true rfl) dX6_cut_35 ?_
    refine zz_if_eq hX 43 dX6_cut_38 (by decide) (fun c => absurd c (by decide)) (fun _ => ?_)
    refine zz_iconst (v := nI 0) hX dX6_cut_41 rfl ?_
    refine zz_iret hX hr rfl (Nat.le_of_ble_eq_true rfl) (Nat.le_of_ble_eq_true rfl) dX6_cut_42 ?_
    exact ⟨_, rfl, Or.inr (Or.inr (Or.inr ⟨hA0, trivial, (fun h => hC0 (h.1)), (zm_u2s), (zM_th hM)⟩)), (zr_mf zr_same.rfl' (by unfold zr_mout; omega))⟩
  have hC0n : zv_fr S (i) ≤ zv_sk S (i) := by have q9 := hC0; (try rw [z_i] at q9); exact q9
  by_cases hC1 : zp_cut S (nI i) = -1
  rotate_left
  · skip
    refine zz_aload_n hX dX6_cut_0 0 rfl rfl ?_
    refine zz_aload_n hX dX6_cut_1 0 rfl rfl ?_
    refine zz_iload_n hX dX6_cut_2 1 rfl rfl ?_
    refine zz_vI (x := zz_bi (zs_ix (nI i) (zv_ns S))) hX zf_M_X6_105 (As := [.int (nI i)]) (st := [.ref 1]) (M_isShot S sh mi mr hW hM (nI i)) hM.1 rfl rfl rfl (by decide) (Nat.le_of_ble_eq_true rfl) (Nat.le_of_ble_eq_true rfl) (Nat.le_of_ble_eq_true rfl) dX6_cut_3 ?_
    refine zz_if_neB hX 13 dX6_cut_6 (by decide) (fun c6 => ?_) (fun c6 => absurd (show zs_ix (nI i) (zv_ns S) from hA0) c6)
    refine zz_aload_n hX dX6_cut_13 0 rfl rfl ?_
    refine zz_iload_n hX dX6_cut_14 1 rfl rfl ?_
    refine zz_vI (x := zz_bi (zv_fr S i ≤ zv_sk S i)) hX zf_M_X6_117 (As := [.int (nI i)]) (st := [.ref 1]) (M_isDone S sh mi mr hW hM i hi) hM.1 rfl rfl rfl (by decide) (Nat.le_of_ble_eq_true rfl) (Nat.le_of_ble_eq_true rfl) (Nat.le_of_ble_eq_true rfl) dX6_cut_15 ?_
    refine zz_if_eqB hX 30 dX6_cut_18 (by decide) (fun c18 => absurd (show zv_fr S i ≤ zv_sk S i from hC0n) c18) (fun c18 => ?_)
    refine zz_aload_n hX dX6_cut_21 0 rfl rfl ?_
    refine zz_iload_n hX dX6_cut_22 1 rfl rfl ?_
    refine zz_vI (x := zp_cut S (nI i)) hX zf_M_X6_196 (As := [.int (nI i)]) (st := [.ref 1]) (M_inFilm S sh mi mr hW hM (nI i)) hM.1 rfl rfl rfl (by decide) (Nat.le_of_ble_eq_true rfl) (Nat.le_of_ble_eq_true rfl) (Nat.le_of_ble_eq_true rfl) dX6_cut_23 ?_
    refine zz_iconst (v := (-1)) hX dX6_cut_26 rfl ?_
    refine zz_icmp_eq hX 34 dX6_cut_27 (by decide) (fun c27 => absurd c27 hC1) (fun c27 => ?_)
    refine zz_iconst (v := nI 2) hX dX6_cut_30 rfl ?_
    refine zz_goto hX 35 dX6_cut_31 (by decide) ?_
    refine zz_vI (x := nI 1) hX zf_M_X6_108 (As := [.int (nI 2)]) (st := []) (m_fails2 sh mi mr hM.1) hM.1 rfl rfl rfl (by decide) (Nat.le_of_ble_eq_true rfl) (Nat.le_of_ble_eq_true rfl) (Nat.le_of_ble_eq_true rfl) dX6_cut_35 ?_
    refine zz_if_eq hX 43 dX6_cut_38 (by decide) (fun c => absurd c (by decide)) (fun _ => ?_)
    refine zz_iconst (v := nI 0) hX dX6_cut_41 rfl ?_
    refine zz_iret hX hr rfl (Nat.le_of_ble_eq_true rfl) (Nat.le_of_ble_eq_true rfl) dX6_cut_42 ?_
    exact ⟨_, rfl, Or.inr (Or.inr (Or.inr ⟨hA0, trivial, (fun h => hC1 (h.2)), (zm_u2s), (zM_th hM)⟩)), (zr_mf zr_same.rfl' (by unfold zr_mout; omega))⟩
  have h9 := zp_cut_none hW hi hC1
  have h98 := h9.2
  refine zz_aload_n hX dX6_cut_0 0 rfl rfl ?_
  refine zz_aload_n hX dX6_cut_1 0 rfl rfl ?_
  refine zz_iload_n hX dX6_cut_2 1 rfl rfl ?_
  refine zz_vI (x := zz_bi (zs_ix (nI i) (zv_ns S))) hX zf_M_X6_105 (As := [.int (nI i)]) (st := [.ref 1]) (M_isShot S sh mi mr hW hM (nI i)) hM.1 rfl rfl rfl (by decide) (Nat.le_of_ble_eq_true rfl) (Nat.le_of_ble_eq_true rfl) (Nat.le_of_ble_eq_true rfl) dX6_cut_3 ?_
  refine zz_if_neB hX 13 dX6_cut_6 (by decide) (fun c6 => ?_) (fun c6 => absurd (show zs_ix (nI i) (zv_ns S) from hA0) c6)
  refine zz_aload_n hX dX6_cut_13 0 rfl rfl ?_
  refine zz_iload_n hX dX6_cut_14 1 rfl rfl ?_
  refine zz_vI (x := zz_bi (zv_fr S i ≤ zv_sk S i)) hX zf_M_X6_117 (As := [.int (nI i)]) (st := [.ref 1]) (M_isDone S sh mi mr hW hM i hi) hM.1 rfl rfl rfl (by decide) (Nat.le_of_ble_eq_true rfl) (Nat.le_of_ble_eq_true rfl) (Nat.le_of_ble_eq_true rfl) dX6_cut_15 ?_
  refine zz_if_eqB hX 30 dX6_cut_18 (by decide) (fun c18 => absurd (show zv_fr S i ≤ zv_sk S i from hC0n) c18) (fun c18 => ?_)
  refine zz_aload_n hX dX6_cut_21 0 rfl rfl ?_
  refine zz_iload_n hX dX6_cut_22 1 rfl rfl ?_
  refine zz_vI (x := zp_cut S (nI i)) hX zf_M_X6_196 (As := [.int (nI i)]) (st := [.ref 1]) (M_inFilm S sh mi mr hW hM (nI i)) hM.1 rfl rfl rfl (by decide) (Nat.le_of_ble_eq_true rfl) (Nat.le_of_ble_eq_true rfl) (Nat.le_of_ble_eq_true rfl) dX6_cut_23 ?_
  refine zz_iconst (v := (-1)) hX dX6_cut_26 rfl ?_
  refine zz_icmp_eq hX 34 dX6_cut_27 (by decide) (fun c27 => ?_) (fun c27 => absurd hC1 c27)
  refine zz_iconst (v := nI 0) hX dX6_cut_34 rfl ?_
  refine zz_vI (x := nI 0) hX zf_M_X6_108 (As := [.int (nI 0)]) (st := []) (m_fails0 sh mi mr hM.1) hM.1 rfl rfl rfl (by decide) (Nat.le_of_ble_eq_true rfl) (Nat.le_of_ble_eq_true rfl) (Nat.le_of_ble_eq_true rfl) dX6_cut_35 ?_
  refine zz_if_eq hX 43 dX6_cut_38 (by decide) (fun _ => ?_) (fun c => absurd c (by decide))
  refine zz_aload_n hX dX6_cut_43 0 rfl rfl ?_
  refine zz_getR (y := 129) hX zf_F_X6_80.r hM.1 rfl (zM_r29 hM).1 dX6_cut_44 ?_
  refine zz_aload_n hX dX6_cut_47 0 rfl rfl ?_
  refine zz_getI (x := nI (zv_nf S)) hX zf_F_X6_190.r hM.1 rfl (((zm_u2k (by decide))).trans (((zM_c28 hM).trans f0))) dX6_cut_48 ?_
  refine zz_iload_n hX dX6_cut_51 1 rfl rfl ?_
  refine zz_iast hX (zM_r29 hM).2 (zv_nf S) rfl (by omega) (by decide) dX6_cut_52 ?_
  refine zz_aload_n hX dX6_cut_53 0 rfl rfl ?_
  refine zz_dup hX dX6_cut_54 rfl ?_
  refine zz_getI (x := nI (zv_nf S)) hX zf_F_X6_190.r hM.1 rfl (((zm_u2l (by decide))).trans (((zm_u2k (by decide))).trans (((zM_c28 hM).trans f0)))) dX6_cut_55 ?_
  refine zz_iconst (v := nI 1) hX dX6_cut_58 rfl ?_
  refine zz_iadd (z := nI ((zv_nf S) + 1)) hX dX6_cut_59 (nI_add _ _) ?_
  refine zz_putI hX zf_F_X6_190 hM.1 rfl rfl rfl dX6_cut_60 ?_
  refine zz_aload_n hX dX6_cut_63 0 rfl rfl ?_
  refine zz_vI (x := zp_film (zt_cut S i)) hX zf_M_X6_198 (As := []) (st := []) (M_framesInFilm (zt_cut S i) sh (zm_u2 (zm_u2 (zm_u2 mi 1 30 (nI 0)) 129 (zv_nf S) (nI i)) 1 28 (nI ((zv_nf S) + 1))) mr (zW_cut hW hi h9.1 h9.2) (zM_sc (r := 28) (zM_set (r := 29) (zM_th hM) (by decide)) (by decide))) hM.1 rfl rfl rfl (by decide) (Nat.le_of_ble_eq_true rfl) (Nat.le_of_ble_eq_true rfl) (Nat.le_of_ble_eq_true rfl) dX6_cut_64 ?_
  refine zz_iret hX hr rfl (Nat.le_of_ble_eq_true rfl) (Nat.le_of_ble_eq_true rfl) dX6_cut_67 ?_
  exact ⟨_, rfl, Or.inl ⟨hA0, trivial, ⟨hC0, hC1⟩, (((zm_u2k (by decide))).trans (((zm_u2l (by decide))).trans (zm_u2s))), (by first | rfl | ((try rw [z_i]); (try rfl))), (by (try rw [z_i]); exact (zM_sc (r := 28) (zM_set (r := 29) (zM_th hM) (by decide)) (by decide)))⟩, (zr_mf (zr_mf (zr_mf zr_same.rfl' (by unfold zr_mout; omega)) (by unfold zr_mout; omega)) (by unfold zr_mout; omega))⟩

theorem zs_addsub {a x s : Int32} : a + (x - s) = a + x - s := by rw [Int32.sub_eq_add_neg, Int32.sub_eq_add_neg, Int32.add_assoc]
theorem zs_lt_n {a b : Int32} (h : a < b) : ¬ b ≤ a := fun q => by rw [zs_le] at q; rw [zs_lt] at h; omega
theorem zs_nle2 {a b : Int32} (h : ¬ a < b) : b ≤ a := zs_nlt h
set_option maxRecDepth 20000 in
theorem MP_film (S : zS) (sh : zm_Sh) (mi : zm_Mi) (mr : zm_Mr) (hW : zW S) (hM : zM S sh mi mr) (x : Int32)  : zz_Con yX6_film (.code yX6_film cX6_film 4 (some Jvm.ClassFile.FieldType.int)) 6 0 0 [.ref 1, .int x] sh mi mr (zq_m (((0 : Int32) ≤ x)) (True) (True) (nI 1) (nI 0) (nI 0) (zp_atfilm S x) S S sh mi mr) zz_none := by
  refine zz_begin RX6 [(0, .ref 1), (1, .int x)] (by decide) rfl rfl (Nat.le_of_ble_eq_true rfl) rfl ?_
  intro Γ D E ad hX hr hN hT
  obtain ⟨hWp, hWv, hWs, hWk, hWr, hWf⟩ := id hW
  obtain ⟨p0, p1, p2, p3, p4, p5⟩ := hWp
  obtain ⟨v0, v1, v2, v3, v4⟩ := hWv
  obtain ⟨s0, s1, s2, s3⟩ := hWs
  obtain ⟨f0, f1, f2, f3⟩ := hWf
  by_cases hA0 : (0 : Int32) ≤ x
  rotate_left
  · skip
    refine zz_aload_n hX dX6_film_0 0 rfl rfl ?_
    refine zz_iload_n hX dX6_film_1 1 rfl rfl ?_
    refine zz_if_lt hX 9 dX6_film_2 (by decide) (fun c2 => ?_) (fun c2 => absurd (zs_nle2 c2) hA0)
    refine zz_iconst (v := nI 1) hX dX6_film_9 rfl ?_
    refine zz_vI (x := nI 1) hX zf_M_X6_108 (As := [.int (nI 1)]) (st := []) (m_fails1 sh mi mr hM.1) hM.1 rfl rfl rfl (by decide) (Nat.le_of_ble_eq_true rfl) (Nat.le_of_ble_eq_true rfl) (Nat.le_of_ble_eq_true rfl) dX6_film_10 ?_
    refine zz_if_eq hX 18 dX6_film_13 (by decide) (fun c => absurd c (by decide)) (fun _ => ?_)
    refine zz_iconst (v := nI 0) hX dX6_film_16 rfl ?_
    refine zz_iret hX hr rfl (Nat.le_of_ble_eq_true rfl) (Nat.le_of_ble_eq_true rfl) dX6_film_17 ?_
    exact ⟨_, rfl, Or.inr (Or.inl ⟨(fun h => hA0 (h)), (zm_u2s), (zM_th hM)⟩), (zr_mf zr_same.rfl' (by unfold zr_mout; omega))⟩
  refine zz_aload_n hX dX6_film_0 0 rfl rfl ?_
  refine zz_iload_n hX dX6_film_1 1 rfl rfl ?_
  refine zz_if_lt hX 9 dX6_film_2 (by decide) (fun c2 => absurd hA0 (zs_lt_n c2)) (fun c2 => ?_)
  refine zz_iconst (v := nI 0) hX dX6_film_5 rfl ?_
  refine zz_goto hX 10 dX6_film_6 (by decide) ?_
  refine zz_vI (x := nI 0) hX zf_M_X6_108 (As := [.int (nI 0)]) (st := []) (m_fails0 sh mi mr hM.1) hM.1 rfl rfl rfl (by decide) (Nat.le_of_ble_eq_true rfl) (Nat.le_of_ble_eq_true rfl) (Nat.le_of_ble_eq_true rfl) dX6_film_10 ?_
  refine zz_if_eq hX 18 dX6_film_13 (by decide) (fun _ => ?_) (fun c => absurd c (by decide))
  refine zz_iload_n hX dX6_film_18 1 rfl rfl ?_
  refine zz_istore_n (ls' := [(0, .ref 1), (1, .int x), (2, .int x)]) hX dX6_film_19 rfl (Nat.le_of_ble_eq_true rfl) rfl ?_
  refine zz_iconst (v := nI 0) hX dX6_film_20 rfl ?_
  refine zz_istore_n (ls' := [(0, .ref 1), (1, .int x), (2, .int x), (3, .int (nI 0))]) hX dX6_film_21 rfl (Nat.le_of_ble_eq_true rfl) rfl ?_
  refine zz_lcl (ls' := [(0, .ref 1), (1, .int x), (2, .int (x - zs_sum (fun q => S 11 (zv_fl S q)) 0)), (3, .int (nI 0))]) (by rw [show x - zs_sum (fun q => S 11 (zv_fl S q)) 0 = x from Int32.sub_zero _]) ?_
  have L22 : ∀ (k22 : Nat) (k : Nat), zv_nf S - k < k22 → (k ≤ zv_nf S) → (zp_atfilm S x = zs_fst (fun k => x - zs_sum (fun q => S 11 (zv_fl S q)) k < S 11 (zv_fl S k)) (fun k => nI 100 * S 29 k + x - zs_sum (fun q => S 11 (zv_fl S q)) k) (zv_nf S - k) k) → zz Γ (D, E, 4, ad, sh) (zz_End Γ (D, E, 4, ad, sh) (zq_m (((0 : Int32) ≤ x)) (True) (True) (nI 1) (nI 0) (nI 0) (zp_atfilm S x) S S sh mi mr) zz_none 0 0) 0 0 sh (zm_u2 mi 1 30 (nI 0)) mr 22 [(0, .ref 1), (1, .int x), (2, .int (x - zs_sum (fun q => S 11 (zv_fl S q)) k)), (3, .int (nI k))] [] := by
    intro k22
    induction k22 with
    | zero => intro k hk22; exact absurd hk22 (Nat.not_lt_zero _)
    | succ k22 ih22 =>
      intro k hk22 hk9 hall
      refine zz_iload_n hX dX6_film_22 3 rfl rfl ?_
      refine zz_aload_n hX dX6_film_23 0 rfl rfl ?_
      refine zz_getI (x := nI (zv_nf S)) hX zf_F_X6_190.r hM.1 rfl (((zm_u2k (by decide))).trans (((zM_c28 hM).trans f0))) dX6_film_24 ?_
      refine zz_icmp_geN hX (by omega) (by omega) 77 dX6_film_27 (by decide) (fun c27 => ?_) (fun c27 => ?_)
      · skip
        refine zz_iconst (v := (-1)) hX dX6_film_77 rfl ?_
        refine zz_iret hX hr rfl (Nat.le_of_ble_eq_true rfl) (Nat.le_of_ble_eq_true rfl) dX6_film_78 ?_
        exact ⟨_, rfl, Or.inl ⟨hA0, trivial, trivial, (zm_u2s), (by rw [hall, zs_fst_end (by omega)]), (by exact (zM_th hM))⟩, (zr_mf zr_same.rfl' (by unfold zr_mout; omega))⟩
      · skip
        refine zz_iload_n hX dX6_film_30 2 rfl rfl ?_
        refine zz_aload_n hX dX6_film_31 0 rfl rfl ?_
        refine zz_getR (y := 111) hX zf_F_X6_34.r hM.1 rfl (zM_r11 hM).1 dX6_film_32 ?_
        refine zz_aload_n hX dX6_film_35 0 rfl rfl ?_
        refine zz_getR (y := 129) hX zf_F_X6_80.r hM.1 rfl (zM_r29 hM).1 dX6_film_36 ?_
        refine zz_iload_n hX dX6_film_39 3 rfl rfl ?_
        refine zz_iald (x := nI (zv_fl S k)) hX (zM_r29 hM).2 k rfl (by omega) (by decide) (((zm_u2l (by decide))).trans (((zM_v29 hM (k := k) (by omega)).trans (f2 k c27).1))) dX6_film_40 ?_
        refine zz_iald (x := S 11 (zv_fl S k)) hX (zM_r11 hM).2 (zv_fl S k) rfl (by have := (f2 k c27).2; omega) (by decide) (((zm_u2l (by decide))).trans ((zM_v11 hM (k := zv_fl S k) (by have := (f2 k c27).2; omega)))) dX6_film_41 ?_
        refine zz_icmp_ge hX 57 dX6_film_42 (by decide) (fun c42 => ?_) (fun c42 => ?_)
        · skip
          refine zz_iload_n hX dX6_film_57 2 rfl rfl ?_
          refine zz_aload_n hX dX6_film_58 0 rfl rfl ?_
          refine zz_getR (y := 111) hX zf_F_X6_34.r hM.1 rfl (zM_r11 hM).1 dX6_film_59 ?_
          refine zz_aload_n hX dX6_film_62 0 rfl rfl ?_
          refine zz_getR (y := 129) hX zf_F_X6_80.r hM.1 rfl (zM_r29 hM).1 dX6_film_63 ?_
          refine zz_iload_n hX dX6_film_66 3 rfl rfl ?_
          refine zz_iald (x := nI (zv_fl S k)) hX (zM_r29 hM).2 k rfl (by omega) (by decide) (((zm_u2l (by decide))).trans (((zM_v29 hM (k := k) (by omega)).trans (f2 k c27).1))) dX6_film_67 ?_
          refine zz_iald (x := S 11 (zv_fl S k)) hX (zM_r11 hM).2 (zv_fl S k) rfl (by have := (f2 k c27).2; omega) (by decide) (((zm_u2l (by decide))).trans ((zM_v11 hM (k := zv_fl S k) (by have := (f2 k c27).2; omega)))) dX6_film_68 ?_
          refine zz_isub (z := (x - zs_sum (fun q => S 11 (zv_fl S q)) k) - (S 11 (zv_fl S k))) hX dX6_film_69 rfl ?_
          refine zz_istore_n (ls' := [(0, .ref 1), (1, .int x), (2, .int ((x - zs_sum (fun q => S 11 (zv_fl S q)) k) - (S 11 (zv_fl S k)))), (3, .int (nI k))]) hX dX6_film_70 rfl (Nat.le_of_ble_eq_true rfl) rfl ?_
          refine zz_iinc (v := nI (k + 1)) (ls' := [(0, .ref 1), (1, .int x), (2, .int ((x - zs_sum (fun q => S 11 (zv_fl S q)) k) - (S 11 (zv_fl S k)))), (3, .int (nI (k + 1)))]) hX dX6_film_71 3 rfl (nI_1 _) (Nat.le_of_ble_eq_true rfl) rfl ?_
          refine zz_goto hX 22 dX6_film_74 (by decide) ?_
          refine zz_lcl (ls' := [(0, .ref 1), (1, .int x), (2, .int (x - zs_sum (fun q => S 11 (zv_fl S q)) (k + 1))), (3, .int (nI (k + 1)))]) (by rw [show x - zs_sum (fun q => S 11 (zv_fl S q)) k - S 11 (zv_fl S k) = x - zs_sum (fun q => S 11 (zv_fl S q)) (k + 1) from zs_subsub]) ?_
          exact ih22 (k + 1) (by omega) (by omega) (hall.trans (zs_fst_step c27 (fun h => by rw [zs_lt] at h; rw [zs_le] at c42; omega)))
        · skip
          refine zz_bipush (v := nI 100) hX dX6_film_45 rfl ?_
          refine zz_aload_n hX dX6_film_47 0 rfl rfl ?_
          refine zz_getR (y := 129) hX zf_F_X6_80.r hM.1 rfl (zM_r29 hM).1 dX6_film_48 ?_
          refine zz_iload_n hX dX6_film_51 3 rfl rfl ?_
          refine zz_iald (x := nI (zv_fl S k)) hX (zM_r29 hM).2 k rfl (by omega) (by decide) (((zm_u2l (by decide))).trans (((zM_v29 hM (k := k) (by omega)).trans (f2 k c27).1))) dX6_film_52 ?_
          refine zz_imul (z := nI (100 * (zv_fl S k))) hX dX6_film_53 (pk_mul _ _) ?_
          refine zz_iload_n hX dX6_film_54 2 rfl rfl ?_
          refine zz_iadd (z := (nI (100 * (zv_fl S k))) + (x - zs_sum (fun q => S 11 (zv_fl S q)) k)) hX dX6_film_55 rfl ?_
          refine zz_iret hX hr rfl (Nat.le_of_ble_eq_true rfl) (Nat.le_of_ble_eq_true rfl) dX6_film_56 ?_
          exact ⟨_, rfl, Or.inl ⟨hA0, trivial, trivial, (zm_u2s), (by rw [hall, zs_fst_hit (g := (fun k => x - zs_sum (fun q => S 11 (zv_fl S q)) k < S 11 (zv_fl S k))) (v := (fun k => nI 100 * S 29 k + x - zs_sum (fun q => S 11 (zv_fl S q)) k)) c27 (zs_nle c42), zs_addsub, show nI (100 * zv_fl S k) = nI 100 * S 29 k from by rw [(f2 k c27).1]; exact (pk_mul _ _).symm]), (by exact (zM_th hM))⟩, (zr_mf zr_same.rfl' (by unfold zr_mout; omega))⟩
  exact L22 ((zv_nf S - 0 + 1)) 0 (by omega) (Nat.zero_le _) rfl

