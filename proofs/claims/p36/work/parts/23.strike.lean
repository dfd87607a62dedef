/-! ===== striking: the walk ===== -/
theorem zp_deg_c {S T : zS} {i j f : Nat} (h12 : T 12 = S 12) (h18 : T 18 = S 18) : zp_deg T i j f = zp_deg S i j f := by
  unfold zp_deg zv_st
  rw [h12, h18]
theorem zt_pz_r {S : zS} {i r : Nat} (h2 : r ≠ 2) (h3 : r ≠ 3) (h22 : r ≠ 22) (h23 : r ≠ 23) : zt_pz S i r = S r := (zt_pose_r _ _ _ _ h2 h3 h22 _).trans (zm_u2r h23)
theorem zt_want_r {S : zS} {i r : Nat} (h4 : r ≠ 4) : zt_want S i r = S r := by
  unfold zt_want
  split
  · rfl
  · exact zm_u2r h4
theorem zt_hold_r {S : zS} {i r : Nat} (h22 : r ≠ 22) (h23 : r ≠ 23) : zt_hold S i r = S r := zt_hj_r S i _ h22 h23 _
theorem zs_pf_0 (stp : Nat) : zs_pf stp 0 = 0 := by unfold zs_pf; split <;> rfl
theorem zv_same {S T : zS} {i : Nat} (h1 : T 1 = S 1) (h9 : T 9 = S 9) (h10 : T 10 = S 10) (h11 : T 11 = S 11) (h14 : T 14 = S 14) (h15 : T 15 = S 15) : zv_ns T = zv_ns S ∧ zv_sk T i = zv_sk S i ∧ zv_fr T i = zv_fr S i ∧ zv_pu T i = zv_pu S i ∧ (∀ p, zv_jn T p = zv_jn S p) ∧ T 14 i = S 14 i := by
  unfold zv_ns zv_sk zv_fr zv_pu zv_jn
  rw [h1, h9, h10, h11, h14, h15]
  exact ⟨rfl, rfl, rfl, rfl, fun _ => rfl, rfl⟩
theorem zp_bar_0 {S : zS} {i : Nat} (h : nI (zp_bar S i) = nI 0) : zp_bar S i = 0 ∧ zv_sk S i < zv_fr S i ∧ ¬ S 14 i = -1 := by
  have h7 : zp_bar S i ≤ 7 := by
    unfold zp_bar zp_pbar
    repeat' split
    all_goals omega
  have h0 : zp_bar S i = 0 := (nI_eq (by omega) (by decide)).mp h
  refine ⟨h0, ?_, fun q => ?_⟩
  · refine Nat.lt_of_not_le (fun q => ?_)
    unfold zp_bar at h0
    rw [if_pos q] at h0
    cases h0
  · unfold zp_bar at h0
    rw [if_pos q] at h0
    split at h0 <;> cases h0
def zq_pn (S' : zS) (i : Nat) (sh : zm_Sh) (mi : zm_Mi) (mr : zm_Mr) : Option Value → zm_Sh → zm_Mi → zm_Mr → Prop := fun v s m r => v = none ∧ s = sh ∧ r = mr ∧ zW S' ∧ zR S' sh m mr ∧ zR_nf S' m i (fun l => l = 1000 + 100 * i + 7 ∨ (1000 + 100 * i + 40 ≤ l ∧ l < 1000 + 100 * i + 40 + zv_jn S' (zv_pu S' i))) ∧ zr_same zr_out sh mi mr sh m mr
theorem K_sheetDegreeT (S T : zS) (sh : zm_Sh) (mi : zm_Mi) (mr : zm_Mr) (hW : zW T) (hR : zR T sh mi mr) (hT : ∀ r, r ≠ 2 → r ≠ 3 → r ≠ 22 → r ≠ 23 → T r = S r) (i : Nat) (hi : i < zv_ns S) (j : Nat) (hj : j < zv_jn S (zv_pu S i)) (f : Nat) (hf : f < zv_fr S i) : zz_Con yX2_sheetDegree (.code yX2_sheetDegree cX2_sheetDegree 3 (some Jvm.ClassFile.FieldType.int)) 4 0 0 [.ref (1000 + 100 * i), .int (nI j), .int (nI f)] sh mi mr (zz_q (some (.int (zp_deg S i j f))) sh mi mr) zz_none := by
  obtain ⟨e1, e2, e3, e4, e5, e6⟩ := zv_same (i := i) (hT 1 (by decide) (by decide) (by decide) (by decide)) (hT 9 (by decide) (by decide) (by decide) (by decide)) (hT 10 (by decide) (by decide) (by decide) (by decide)) (hT 11 (by decide) (by decide) (by decide) (by decide)) (hT 14 (by decide) (by decide) (by decide) (by decide)) (hT 15 (by decide) (by decide) (by decide) (by decide))
  have h := K_sheetDegree T sh mi mr hW hR i (by rw [e1]; exact hi) j (by rw [e4, e5]; exact hj) f (by rw [e3]; exact hf)
  rw [zp_deg_c (S := S) (hT 12 (by decide) (by decide) (by decide) (by decide)) (hT 18 (by decide) (by decide) (by decide) (by decide))] at h
  exact h

set_option maxRecDepth 20000 in
theorem K_poseNext (S : zS) (sh : zm_Sh) (mi : zm_Mi) (mr : zm_Mr) (hW : zW S) (hR : zR S sh mi mr) (i : Nat) (hi : i < zv_ns S) (hk : zv_sk S i < zv_fr S i) : zz_Con yX5_poseNext (.code yX5_poseNext cX5_poseNext 6 none) 5 0 0 [.ref 2, .ref (1000 + 100 * i), .int (nI (zv_sk S i))] sh mi mr (zq_pn (zt_pz (zt_want S i) i) i sh mi mr) zz_none := by
  refine zz_begin RX5 [(0, .ref 2), (1, .ref (1000 + 100 * i)), (2, .int (nI (zv_sk S i)))] (by decide) rfl rfl (Nat.le_of_ble_eq_true rfl) rfl ?_
  intro Γ D E ad hX hr hN hT
  obtain ⟨hRm, hRp, hRv, hRs, hRf⟩ := id hR
  obtain ⟨m1, m2, m3, m4, m5, m6, m7, m8, m9, m10, m11, m12, m13, m14, m15, m16, m17, m18, m19, m20⟩ := hRm
  obtain ⟨hWp, hWv, hWs, hWk, hWr, hWf⟩ := id hW
  obtain ⟨p0, p1, p2, p3, p4, p5⟩ := hWp
  obtain ⟨v0, v1, v2, v3, v4⟩ := hWv
  obtain ⟨s0, s1, s2, s3⟩ := hWs
  obtain ⟨f0, f1, f2, f3⟩ := hWf
  obtain ⟨a1, a2, a3, a4, a5, a6, a7, a8⟩ := zR_sh hW hR hi
  obtain ⟨t1, t2, t3, t4, t5, t6, t7, t8, t9, t10⟩ := a3
  obtain ⟨r1, r2, r3, r4, r5, r6, r7, r8, r9, r10, r11, r12, r13, r14, r15⟩ := t10
  obtain ⟨u1, u2, u3, u4, u5, u6, u7, u8, u9, u10⟩ := hRs i hi
  obtain ⟨b1, b2, b3, b4, b5, b6, b7, b8, b9, b10, b11, b12, b13⟩ := s2 i hi
  generalize hQ9 : (zz_End Γ (D, E, 6, ad, sh) (zq_pn (zt_pz (zt_want S i) i) i sh mi mr) zz_none 0 0) = Q9
  have L25 : ∀ (T : zS) (m0 : zm_Mi), zW T → zR T sh m0 mr → i < zv_ns T → zv_sk T i < zv_fr T i → zt_pz T i = zt_pz (zt_want S i) i → zr_same zr_out sh mi mr sh m0 mr → ∀ u : Int32, zz Γ (D, E, 6, ad, sh) Q9 0 0 sh m0 mr 25 [(0, .ref 2), (1, .ref (1000 + 100 * i)), (2, .int (nI (zv_sk T i))), (3, .int u)] [] := by
    intro S m0 hW hR hi hk hz hsm u
    obtain ⟨hRm, hRp, hRv, hRs, hRf⟩ := id hR
    obtain ⟨m1, m2, m3, m4, m5, m6, m7, m8, m9, m10, m11, m12, m13, m14, m15, m16, m17, m18, m19, m20⟩ := hRm
    obtain ⟨hWp, hWv, hWs, hWk, hWr, hWf⟩ := id hW
    obtain ⟨p0, p1, p2, p3, p4, p5⟩ := hWp
    obtain ⟨v0, v1, v2, v3, v4⟩ := hWv
    obtain ⟨s0, s1, s2, s3⟩ := hWs
    obtain ⟨f0, f1, f2, f3⟩ := hWf
    obtain ⟨a1, a2, a3, a4, a5, a6, a7, a8⟩ := zR_sh hW hR hi
    obtain ⟨t1, t2, t3, t4, t5, t6, t7, t8, t9, t10⟩ := a3
    obtain ⟨r1, r2, r3, r4, r5, r6, r7, r8, r9, r10, r11, r12, r13, r14, r15⟩ := t10
    obtain ⟨u1, u2, u3, u4, u5, u6, u7, u8, u9, u10⟩ := hRs i hi
    obtain ⟨b1, b2, b3, b4, b5, b6, b7, b8, b9, b10, b11, b12, b13⟩ := s2 i hi
    refine zz_aload_n hX dX5_poseNext_25 1 rfl rfl ?_
    refine zz_getR (y := (1000 + 100 * i + 5)) hX zf_F_X5_182 t1 rfl t5 dX5_poseNext_26 ?_
    refine zz_getR (y := (1000 + 100 * i + 7)) hX zf_F_X5_256 r1 rfl r3 dX5_poseNext_29 ?_
    refine zz_iload_n hX dX5_poseNext_32 2 rfl rfl ?_
    refine zz_aload_n hX dX5_poseNext_33 0 rfl rfl ?_
    refine zz_aload_n hX dX5_poseNext_34 1 rfl rfl ?_
    refine zz_iload_n hX dX5_poseNext_35 2 rfl rfl ?_
    refine zz_vI (x := zp_mouth S i (zv_sk S i)) hX zf_M_X5_231 (As := [.ref (1000 + 100 * i), .int (nI (zv_sk S i))]) (st := [.int (nI (zv_sk S i)), .ref (1000 + 100 * i + 7)]) (K_sheetMouth S sh m0 mr hW hR i hi (zv_sk S i) (by omega)) m1 rfl rfl rfl (by decide) (Nat.le_of_ble_eq_true rfl) (Nat.le_of_ble_eq_true rfl) (Nat.le_of_ble_eq_true rfl) dX5_poseNext_36 ?_
    refine zz_iast hX r9 (zv_sk S i) rfl (by omega) (by omega) dX5_poseNext_39 ?_
    refine zz_iconst (v := nI 0) hX dX5_poseNext_40 rfl ?_
    refine zz_istore (ls' := [(0, .ref 2), (1, .ref (1000 + 100 * i)), (2, .int (nI (zv_sk S i))), (3, .int u), (4, .int (nI 0))]) hX dX5_poseNext_41 (Nat.le_of_ble_eq_true rfl) rfl ?_
    obtain ⟨⟨w9, r9, n9⟩, -⟩ := zR_step (l := 1000 + 100 * i + 7) (r := 23) (x := zp_mouth S i (zv_sk S i)) (R := fun _ => False) hW hR hi rfl hk (fun _ _ _ _ h => h.elim) (by omega)
    have e0 : (zt_pose (zm_u2 S 23 (48 * i + zv_sk S i) (zp_mouth S i (zv_sk S i))) (zv_pu S i) i (zv_sk S i) 0) = (zm_u2 S 23 (48 * i + zv_sk S i) (zp_mouth S i (zv_sk S i))) := rfl
    rw [← e0] at w9 r9 n9
    have L43 : ∀ (k43 : Nat) (j : Nat) (mj : zm_Mi), zv_jn S (zv_pu S i) - j < k43 → (j ≤ zv_jn S (zv_pu S i)) → (zW (zt_pose (zm_u2 S 23 (48 * i + zv_sk S i) (zp_mouth S i (zv_sk S i))) (zv_pu S i) i (zv_sk S i) j)) → (zR (zt_pose (zm_u2 S 23 (48 * i + zv_sk S i) (zp_mouth S i (zv_sk S i))) (zv_pu S i) i (zv_sk S i) j) sh mj mr) → (zR_nf (zt_pose (zm_u2 S 23 (48 * i + zv_sk S i) (zp_mouth S i (zv_sk S i))) (zv_pu S i) i (zv_sk S i) j) mj i (fun l => l = 1000 + 100 * i + 7 ∨ (1000 + 100 * i + 40 ≤ l ∧ l < 1000 + 100 * i + 40 + j))) → (zr_same zr_out sh mi mr sh mj mr) → zz Γ (D, E, 6, ad, sh) Q9 0 0 sh mj mr 43 [(0, .ref 2), (1, .ref (1000 + 100 * i)), (2, .int (nI (zv_sk S i))), (3, .int u), (4, .int (nI j))] [] := by
      intro k43
      induction k43 with
      | zero => intro j mj hk43; exact absurd hk43 (Nat.not_lt_zero _)
      | succ k43 ih43 =>
        intro j mj hk43 hj9 hWj hRj hNj hSj
        have hTr : ∀ r, r ≠ 2 → r ≠ 3 → r ≠ 22 → r ≠ 23 → (zt_pose (zm_u2 S 23 (48 * i + zv_sk S i) (zp_mouth S i (zv_sk S i))) (zv_pu S i) i (zv_sk S i) j) r = S r := fun r h2 h3 h22 h23 => (zt_pose_r _ _ _ _ h2 h3 h22 j).trans (zm_u2r h23)
        have d9 : ∀ r, r = 0 ∨ r = 1 ∨ (9 ≤ r ∧ r ≤ 15) → (zt_pose (zm_u2 S 23 (48 * i + zv_sk S i) (zp_mouth S i (zv_sk S i))) (zv_pu S i) i (zv_sk S i) j) r = S r := fun r h => hTr r (by omega) (by omega) (by omega) (by omega)
        obtain ⟨q1, q2, q3, q4, q5, q6⟩ := zv_same (i := i) (d9 1 (by omega)) (d9 9 (by omega)) (d9 10 (by omega)) (d9 11 (by omega)) (d9 14 (by omega)) (d9 15 (by omega))
        have pT : zv_pu S i < zv_np (zt_pose (zm_u2 S 23 (48 * i + zv_sk S i) (zp_mouth S i (zv_sk S i))) (zv_pu S i) i (zv_sk S i) j) := by show _ < zn ((zt_pose (zm_u2 S 23 (48 * i + zv_sk S i) (zp_mouth S i (zv_sk S i))) (zv_pu S i) i (zv_sk S i) j) 0 0); rw [d9 0 (by omega)]; exact b2
        have jj : mj (200 + 4 * zv_pu S i) 0 = nI (zv_jn S (zv_pu S i)) := (hRj.2.1 _ pT).2.2.1.trans (by rw [d9 1 (by omega)]; exact (p2 _ b2).1)
        refine zz_iload hX dX5_poseNext_43 4 rfl ?_
        refine zz_aload_n hX dX5_poseNext_45 1 rfl rfl ?_
        refine zz_getR (y := (200 + 4 * zv_pu S i)) hX zf_F_X5_134 t1 rfl t2 dX5_poseNext_46 ?_
        refine zz_getI (x := nI (zv_jn S (zv_pu S i))) hX zf_F_X5_287 (hRp (zv_pu S i) b2).2.1.1 rfl (jj) dX5_poseNext_49 ?_
        refine zz_icmp_geN hX (by omega) (by omega) 95 dX5_poseNext_52 (by decide) (fun c52 => ?_) (fun c52 => ?_)
        · skip
          obtain rfl : j = zv_jn S (zv_pu S i) := by omega
          subst hQ9
          refine zz_vret hX hr (Nat.le_of_ble_eq_true rfl) (Nat.le_of_ble_eq_true rfl) dX5_poseNext_95 ?_
          rw [← hz]
          exact ⟨rfl, rfl, rfl, hWj, hRj, hNj.to (fun l hl => by rw [show zv_jn (zt_pz S i) (zv_pu (zt_pz S i) i) = zv_jn S (zv_pu S i) from (by rw [show zv_pu (zt_pz S i) i = zv_pu S i from q4]; exact q5 _)] at hl; exact hl), hSj⟩
        · skip
          refine zz_aload_n hX dX5_poseNext_55 1 rfl rfl ?_
          refine zz_iload hX dX5_poseNext_56 4 rfl ?_
          refine zz_iload_n hX dX5_poseNext_58 2 rfl rfl ?_
          refine zz_vI (x := zp_deg S i j (zv_sk S i)) hX zf_M_X5_154 (As := [.int (nI j), .int (nI (zv_sk S i))]) (st := []) (K_sheetDegreeT S (zt_pose (zm_u2 S 23 (48 * i + zv_sk S i) (zp_mouth S i (zv_sk S i))) (zv_pu S i) i (zv_sk S i) j) sh mj mr hWj hRj hTr i hi j c52 (zv_sk S i) hk) t1 rfl rfl rfl (by decide) (Nat.le_of_ble_eq_true rfl) (Nat.le_of_ble_eq_true rfl) (Nat.le_of_ble_eq_true rfl) dX5_poseNext_59 ?_
          refine zz_istore (ls' := [(0, .ref 2), (1, .ref (1000 + 100 * i)), (2, .int (nI (zv_sk S i))), (3, .int u), (4, .int (nI j)), (5, .int (zp_deg S i j (zv_sk S i)))]) hX dX5_poseNext_62 (Nat.le_of_ble_eq_true rfl) rfl ?_
          refine zz_aload_n hX dX5_poseNext_64 1 rfl rfl ?_
          refine zz_getR (y := (200 + 4 * zv_pu S i)) hX zf_F_X5_134 t1 rfl t2 dX5_poseNext_65 ?_
          refine zz_iload hX dX5_poseNext_68 4 rfl ?_
          refine zz_iload hX dX5_poseNext_70 5 rfl ?_
          refine zz_vN hX zf_M_X5_329 (As := [.int (nI j), .int (zp_deg S i j (zv_sk S i))]) (st := []) (k_turn sh mj mr (200 + 4 * zv_pu S i) (200 + 4 * zv_pu S i + 2) (200 + 4 * zv_pu S i + 1) (zv_jn S (zv_pu S i)) a1 (hRp (zv_pu S i) b2).2.1.1 (hRp (zv_pu S i) b2).2.1.2.2.1 (hRp (zv_pu S i) b2).2.1.2.1 (hRp (zv_pu S i) b2).2.1.2.2.2.2.2.1 (hRp (zv_pu S i) b2).2.1.2.2.2.2.1 (by omega) j c52 (zp_deg S i j (zv_sk S i))) (hRp (zv_pu S i) b2).2.1.1 rfl rfl rfl (by decide) (Nat.le_of_ble_eq_true rfl) (Nat.le_of_ble_eq_true rfl) (Nat.le_of_ble_eq_true rfl) dX5_poseNext_72 ?_
          refine zz_aload_n hX dX5_poseNext_75 1 rfl rfl ?_
          refine zz_getR (y := (1000 + 100 * i + 5)) hX zf_F_X5_182 t1 rfl t5 dX5_poseNext_76 ?_
          refine zz_getR (y := (1000 + 100 * i + 6)) hX zf_F_X5_252 r1 rfl r2 dX5_poseNext_79 ?_
          refine zz_iload hX dX5_poseNext_82 4 rfl ?_
          refine zz_aald (y := (1000 + 100 * i + 40 + j)) hX r8 (by decide) (by decide) j rfl (by omega) (by omega) (r14 j c52) dX5_poseNext_84 ?_
          refine zz_iload_n hX dX5_poseNext_85 2 rfl rfl ?_
          refine zz_iload hX dX5_poseNext_86 5 rfl ?_
          refine zz_iast hX (r15 j c52) (zv_sk S i) rfl (by omega) (by omega) dX5_poseNext_88 ?_
          refine zz_iinc (v := nI (j + 1)) (ls' := [(0, .ref 2), (1, .ref (1000 + 100 * i)), (2, .int (nI (zv_sk S i))), (3, .int u), (4, .int (nI (j + 1))), (5, .int (zp_deg S i j (zv_sk S i)))]) hX dX5_poseNext_89 4 rfl (nI_1 _) (Nat.le_of_ble_eq_true rfl) rfl ?_
          refine zz_goto hX 43 dX5_poseNext_92 (by decide) ?_
          have e9 : (zt_pose (zm_u2 S 23 (48 * i + zv_sk S i) (zp_mouth S i (zv_sk S i))) (zv_pu S i) i (zv_sk S i) (j + 1)) = zt_pj (zt_pose (zm_u2 S 23 (48 * i + zv_sk S i) (zp_mouth S i (zv_sk S i))) (zv_pu S i) i (zv_sk S i) j) (zv_pu S i) i j (zv_sk S i) (zp_deg S i j (zv_sk S i)) := by
            show zt_pj (zt_pose (zm_u2 S 23 (48 * i + zv_sk S i) (zp_mouth S i (zv_sk S i))) (zv_pu S i) i (zv_sk S i) j) (zv_pu S i) i j (zv_sk S i) (zp_deg (zm_u2 S 23 (48 * i + zv_sk S i) (zp_mouth S i (zv_sk S i))) i j (zv_sk S i)) = _
            rw [zp_deg_c (S := S) (zm_u2r (by decide)) (zm_u2r (by decide))]
          obtain ⟨st1, st2, st3⟩ := zt_pj_ok (f := zv_sk S i) hWj hRj (by rw [q1]; exact hi) (by rw [q2, q3]; exact hk) pT (by rw [q5]; exact c52) q2.symm (zp_deg_in hW i j (zv_sk S i) (by omega)) hNj
          rw [← e9] at st1 st2 st3
          refine zz_pick (ls' := [(0, .ref 2), (1, .ref (1000 + 100 * i)), (2, .int (nI (zv_sk S i))), (3, .int u), (4, .int (nI (j + 1)))]) [0, 1, 2, 3, 4] rfl ?_
          exact ih43 (j + 1) (zm_u2 (zm_u2 (zm_u2 mj (200 + 4 * zv_pu S i + 2) j (mj (200 + 4 * zv_pu S i + 2) j + zs_abs (zs_sw (mj (200 + 4 * zv_pu S i + 1) j) (zp_deg S i j (zv_sk S i))))) (200 + 4 * zv_pu S i + 1) j (zp_deg S i j (zv_sk S i))) (1000 + 100 * i + 40 + j) (zv_sk S i) (zp_deg S i j (zv_sk S i))) (by omega) (by omega) st1 st2 (st3.to (fun l hl => by omega)) (zr_fr (zr_fr (zr_fr hSj (by unfold zr_out; omega)) (by unfold zr_out; omega)) (by unfold zr_out; omega))
    exact L43 ((zv_jn S (zv_pu S i) - 0 + 1)) 0 _ (by omega) (Nat.zero_le _) w9 r9 (n9.to (fun l hl => Or.inl (by omega))) (zr_fr hsm (by unfold zr_out; omega))
  refine zz_aload_n hX dX5_poseNext_0 0 rfl rfl ?_
  refine zz_aload_n hX dX5_poseNext_1 1 rfl rfl ?_
  refine zz_iload_n hX dX5_poseNext_2 2 rfl rfl ?_
  refine zz_vI (x := zp_want S i (zv_sk S i)) hX zf_M_X5_313 (As := [.ref (1000 + 100 * i), .int (nI (zv_sk S i))]) (st := []) (K_mouthWanted S sh mi mr hW hR i hi (zv_sk S i) (by omega)) m1 rfl rfl rfl (by decide) (Nat.le_of_ble_eq_true rfl) (Nat.le_of_ble_eq_true rfl) (Nat.le_of_ble_eq_true rfl) dX5_poseNext_3 ?_
  refine zz_istore_n (ls' := [(0, .ref 2), (1, .ref (1000 + 100 * i)), (2, .int (nI (zv_sk S i))), (3, .int (zp_want S i (zv_sk S i)))]) hX dX5_poseNext_6 rfl (Nat.le_of_ble_eq_true rfl) rfl ?_
  refine zz_iload_n hX dX5_poseNext_7 3 rfl rfl ?_
  refine zz_iconst (v := (-1)) hX dX5_poseNext_8 rfl ?_
  refine zz_icmp_eq hX 25 dX5_poseNext_9 (by decide) (fun c9 => ?_) (fun c9 => ?_)
  · skip
    exact L25 S mi hW hR hi hk (by rw [show zt_want S i = S from if_pos c9]) zr_same.rfl' _
  · skip
    have hm9 := zs_ix_zn ((zp_want_in hW hi (zv_sk S i)).resolve_left c9) (by omega)
    refine zz_aload_n hX dX5_poseNext_12 1 rfl rfl ?_
    refine zz_getR (y := (200 + 4 * zv_pu S i)) hX zf_F_X5_134 t1 rfl t2 dX5_poseNext_13 ?_
    refine zz_getR (y := (200 + 4 * zv_pu S i + 3)) hX zf_F_X5_80 (hRp (zv_pu S i) b2).2.1.1 rfl (hRp (zv_pu S i) b2).2.1.2.2.2.1 dX5_poseNext_16 ?_
    refine zz_iload_n hX dX5_poseNext_19 3 rfl rfl ?_
    refine zz_dup2 hX dX5_poseNext_20 rfl rfl ?_
    refine zz_iald (x := S 4 (10 * zv_pu S i + (zn (zp_want S i (zv_sk S i))))) hX (hRp (zv_pu S i) b2).2.1.2.2.2.2.2.2 (zn (zp_want S i (zv_sk S i))) hm9.2 (by omega) (by decide) (((hRp (zv_pu S i) b2).2.2.2.2.2 (zn (zp_want S i (zv_sk S i))) (by omega))) dX5_poseNext_21 ?_
    refine zz_iconst (v := nI 1) hX dX5_poseNext_22 rfl ?_
    refine zz_isub (z := (S 4 (10 * zv_pu S i + (zn (zp_want S i (zv_sk S i))))) - (nI 1)) hX dX5_poseNext_23 rfl ?_
    refine zz_iast hX (hRp (zv_pu S i) b2).2.1.2.2.2.2.2.2 (zn (zp_want S i (zv_sk S i))) hm9.2 (by omega) (by decide) dX5_poseNext_24 ?_
    have g9 : ∀ r, r ≠ 4 → (zm_u2 S 4 (10 * zv_pu S i + zn (zp_want S i (zv_sk S i))) (S 4 (10 * zv_pu S i + zn (zp_want S i (zv_sk S i))) - nI 1)) r = S r := fun r h => zm_u2r h
    have wT : zW (zm_u2 S 4 (10 * zv_pu S i + zn (zp_want S i (zv_sk S i))) (S 4 (10 * zv_pu S i + zn (zp_want S i (zv_sk S i))) - nI 1)) := zW_set hW (by unfold zs_str; omega) (fun h => by omega) (fun h => by omega) (fun _ => by omega) (fun h => by omega) (fun h => by omega) (fun h => by omega) (by omega) (fun h => by omega)
    have rT : zR (zm_u2 S 4 (10 * zv_pu S i + zn (zp_want S i (zv_sk S i))) (S 4 (10 * zv_pu S i + zn (zp_want S i (zv_sk S i))) - nI 1)) sh (zm_u2 mi (200 + 4 * zv_pu S i + 3) (zn (zp_want S i (zv_sk S i))) ((S 4 (10 * zv_pu S i + (zn (zp_want S i (zv_sk S i))))) - (nI 1))) mr := zR_set hW hR (Or.inr (Or.inl ⟨zv_pu S i, b2, by omega⟩)) (by unfold zs_str; omega)
    have iT : i < zv_ns (zm_u2 S 4 (10 * zv_pu S i + zn (zp_want S i (zv_sk S i))) (S 4 (10 * zv_pu S i + zn (zp_want S i (zv_sk S i))) - nI 1)) := by show i < zn ((zm_u2 S 4 (10 * zv_pu S i + zn (zp_want S i (zv_sk S i))) (S 4 (10 * zv_pu S i + zn (zp_want S i (zv_sk S i))) - nI 1)) 9 0); rw [g9 9 (by decide)]; exact hi
    have kT : zv_sk (zm_u2 S 4 (10 * zv_pu S i + zn (zp_want S i (zv_sk S i))) (S 4 (10 * zv_pu S i + zn (zp_want S i (zv_sk S i))) - nI 1)) i < zv_fr (zm_u2 S 4 (10 * zv_pu S i + zn (zp_want S i (zv_sk S i))) (S 4 (10 * zv_pu S i + zn (zp_want S i (zv_sk S i))) - nI 1)) i := by show zn ((zm_u2 S 4 (10 * zv_pu S i + zn (zp_want S i (zv_sk S i))) (S 4 (10 * zv_pu S i + zn (zp_want S i (zv_sk S i))) - nI 1)) 15 i) < zn ((zm_u2 S 4 (10 * zv_pu S i + zn (zp_want S i (zv_sk S i))) (S 4 (10 * zv_pu S i + zn (zp_want S i (zv_sk S i))) - nI 1)) 11 i); rw [g9 15 (by decide), g9 11 (by decide)]; exact hk
    exact L25 (zm_u2 S 4 (10 * zv_pu S i + zn (zp_want S i (zv_sk S i))) (S 4 (10 * zv_pu S i + zn (zp_want S i (zv_sk S i))) - nI 1)) _ wT rT iT kT (by rw [show zt_want S i = (zm_u2 S 4 (10 * zv_pu S i + zn (zp_want S i (zv_sk S i))) (S 4 (10 * zv_pu S i + zn (zp_want S i (zv_sk S i))) - nI 1)) from if_neg c9]) (zr_fr zr_same.rfl' (by unfold zr_out; omega)) _

set_option maxRecDepth 20000 in
theorem P_strike (S : zS) (sh : zm_Sh) (mi : zm_Mi) (mr : zm_Mr) (hW : zW S) (hR : zR S sh mi mr) (s : Int32) : zz_Con yX5_strike (.code yX5_strike cX5_strike 5 (some Jvm.ClassFile.FieldType.int)) 10 10 60 [.ref 2, .int s] sh mi mr (zq_ok ((zs_ix s (zv_ns S))) (True) ((zp_bar S (zn s) = 0)) (nI (zv_sk S (zn s))) (zt_strike S (zn s)) sh mi mr) (zq_no ((zs_ix s (zv_ns S))) (True) ((zp_bar S (zn s) = 0)) sh mi mr) := by
  refine zz_begin RX5 [(0, .ref 2), (1, .int s)] (by decide) rfl rfl (Nat.le_of_ble_eq_true rfl) rfl ?_
  intro Γ D E ad hX hr hN hT
  obtain ⟨hRm, hRp, hRv, hRs, hRf⟩ := id hR
  obtain ⟨m1, m2, m3, m4, m5, m6, m7, m8, m9, m10, m11, m12, m13, m14, m15, m16, m17, m18, m19, m20⟩ := hRm
  obtain ⟨hWp, hWv, hWs, hWk, hWr, hWf⟩ := id hW
  obtain ⟨p0, p1, p2, p3, p4, p5⟩ := hWp
  obtain ⟨v0, v1, v2, v3, v4⟩ := hWv
  obtain ⟨s0, s1, s2, s3⟩ := hWs
  obtain ⟨f0, f1, f2, f3⟩ := hWf
  refine zz_aload_n hX dX5_strike_0 0 rfl rfl ?_
  refine zz_iload_n hX dX5_strike_1 1 rfl rfl ?_
  refine zz_callV hX zf_M_X5_106 (As := [.int s]) (st := []) (K_shotAt S sh mi mr hW hR s) m1 rfl rfl rfl (by decide) (Nat.le_of_ble_eq_true rfl) (Nat.le_of_ble_eq_true rfl) (Nat.le_of_ble_eq_true rfl) dX5_strike_2 ?_ ?_
  rotate_left
  · rintro e9 s9 i9 m9 ⟨x2, rfl, rfl, rfl, rfl⟩ -; exact zz_out hX hT (Nat.le_of_ble_eq_true rfl) (Nat.le_of_ble_eq_true rfl) (by unfold zq_no; skip; exact ⟨Or.inl ⟨rfl, fun h => x2 h⟩, rfl, rfl, rfl⟩)
  rintro v9 s9 i9 m9 ⟨i, hi, rfl, rfl, e2, e3, e4⟩ -
  obtain rfl := e2.symm
  obtain rfl := e3.symm
  obtain rfl := e4.symm
  have z_i : zn (nI i) = i := nI_clamp (n := i) (by omega)
  obtain ⟨a1, a2, a3, a4, a5, a6, a7, a8⟩ := zR_sh hW hR hi
  obtain ⟨t1, t2, t3, t4, t5, t6, t7, t8, t9, t10⟩ := a3
  obtain ⟨r1, r2, r3, r4, r5, r6, r7, r8, r9, r10, r11, r12, r13, r14, r15⟩ := t10
  obtain ⟨u1, u2, u3, u4, u5, u6, u7, u8, u9, u10⟩ := hRs i hi
  obtain ⟨b1, b2, b3, b4, b5, b6, b7, b8, b9, b10, b11, b12, b13⟩ := s2 i hi
  refine zz_astore_n (ls' := [(0, .ref 2), (1, .int (nI i)), (2, .ref (1000 + 100 * i))]) hX dX5_strike_5 rfl (Nat.le_of_ble_eq_true rfl) rfl ?_
  refine zz_aload_n hX dX5_strike_6 0 rfl rfl ?_
  refine zz_aload_n hX dX5_strike_7 2 rfl rfl ?_
  refine zz_vI (x := nI (zp_bar S i)) hX zf_M_X5_175 (As := [.ref (1000 + 100 * i)]) (st := []) (K_barOf S sh mi mr hW hR i hi) m1 rfl rfl rfl (by decide) (Nat.le_of_ble_eq_true rfl) (Nat.le_of_ble_eq_true rfl) (Nat.le_of_ble_eq_true rfl) dX5_strike_8 ?_
  refine zz_sC hX zf_M_X5_179 (As := [.int (nI (zp_bar S i))]) (st := []) (k_refuseBarred (nI (zp_bar S i)) sh mi mr) rfl rfl (by decide) (Nat.le_of_ble_eq_true rfl) (Nat.le_of_ble_eq_true rfl) (Nat.le_of_ble_eq_true rfl) dX5_strike_11 (fun p11 => ?_) (fun x11 => zz_out hX hT (Nat.le_of_ble_eq_true rfl) (Nat.le_of_ble_eq_true rfl) (by unfold zq_no; (try rw [z_i]); exact ⟨Or.inr (Or.inr ⟨rfl, zs_ix_nI hi (by omega), trivial, fun h => x11 (congrArg nI h)⟩), rfl, rfl, rfl⟩))
  obtain ⟨hb0, hk, hn14⟩ := zp_bar_0 p11
  have ha := b10.resolve_left hn14
  have hA9 : zs_ix (nI i) (zv_ns S) := zs_ix_nI hi (by omega)
  generalize hQ9 : (zz_End Γ (D, E, 5, ad, sh) (zq_ok ((zs_ix (nI i) (zv_ns S))) (True) ((zp_bar S (zn (nI i)) = 0)) (nI (zv_sk S (zn (nI i)))) (zt_strike S (zn (nI i))) sh mi mr) (zq_no ((zs_ix (nI i) (zv_ns S))) (True) ((zp_bar S (zn (nI i)) = 0)) sh mi mr) 10 60) = Q9
  have L48 : ∀ (T : zS) (m0 : zm_Mi), zW T → zR T sh m0 mr → i < zv_ns T → zv_sk T i < zv_fr T i → zs_ix (T 14 i) 5 → zR_nf T m0 i (fun l => l = 1000 + 100 * i + 7 ∨ (1000 + 100 * i + 40 ≤ l ∧ l < 1000 + 100 * i + 40 + zv_jn T (zv_pu T i))) → zr_same zr_out sh mi mr sh m0 mr → zv_sk T i = zv_sk S i → zt_keep T i = zt_strike S i → zz Γ (D, E, 5, ad, sh) Q9 2 12 sh m0 mr 48 [(0, .ref 2), (1, .int (nI i)), (2, .ref (1000 + 100 * i)), (3, .ref (1000 + 100 * i + 5)), (4, .int (nI (zv_sk T i)))] [] := by
    intro S m0 hW hR hi hk ha hN hsm hsk hz
    obtain ⟨hRm, hRp, hRv, hRs, hRf⟩ := id hR
    obtain ⟨m1, m2, m3, m4, m5, m6, m7, m8, m9, m10, m11, m12, m13, m14, m15, m16, m17, m18, m19, m20⟩ := hRm
    obtain ⟨hWp, hWv, hWs, hWk, hWr, hWf⟩ := id hW
    obtain ⟨p0, p1, p2, p3, p4, p5⟩ := hWp
    obtain ⟨v0, v1, v2, v3, v4⟩ := hWv
    obtain ⟨s0, s1, s2, s3⟩ := hWs
    obtain ⟨f0, f1, f2, f3⟩ := hWf
    obtain ⟨a1, a2, a3, a4, a5, a6, a7, a8⟩ := zR_sh hW hR hi
    obtain ⟨t1, t2, t3, t4, t5, t6, t7, t8, t9, t10⟩ := a3
    obtain ⟨r1, r2, r3, r4, r5, r6, r7, r8, r9, r10, r11, r12, r13, r14, r15⟩ := t10
    obtain ⟨u1, u2, u3, u4, u5, u6, u7, u8, u9, u10⟩ := hRs i hi
    obtain ⟨b1, b2, b3, b4, b5, b6, b7, b8, b9, b10, b11, b12, b13⟩ := s2 i hi
    refine zz_aload_n hX dX5_strike_48 3 rfl rfl ?_
    refine zz_aload_n hX dX5_strike_49 2 rfl rfl ?_
    refine zz_getR (y := (1000 + 100 * i + 2)) hX zf_F_X5_167 t1 rfl t4 dX5_strike_50 ?_
    refine zz_iload hX dX5_strike_53 4 rfl ?_
    refine zz_vI (x := zp_place S i (zv_sk S i)) hX zf_M_X5_171 (As := [.int (nI (zv_sk S i))]) (st := [.ref (1000 + 100 * i + 5)]) (K_placeAt S sh m0 mr hW hR i hi (zv_sk S i) (by omega)) t9.1 rfl rfl rfl (by decide) (Nat.le_of_ble_eq_true rfl) (Nat.le_of_ble_eq_true rfl) (Nat.le_of_ble_eq_true rfl) dX5_strike_55 ?_
    refine zz_aload_n hX dX5_strike_58 0 rfl rfl ?_
    refine zz_getI (x := S 20 0) hX zf_F_X5_53.r m1 rfl (m17) dX5_strike_59 ?_
    refine zz_aload_n hX dX5_strike_62 0 rfl rfl ?_
    refine zz_vI (x := zp_light S) hX zf_M_X5_195 (As := []) (st := [.int (S 20 0), .int (zp_place S i (zv_sk S i)), .ref (1000 + 100 * i + 5)]) (K_lampLight S sh m0 mr hW hR) m1 rfl rfl rfl (by decide) (Nat.le_of_ble_eq_true rfl) (Nat.le_of_ble_eq_true rfl) (Nat.le_of_ble_eq_true rfl) dX5_strike_63 ?_
    refine zz_aload_n hX dX5_strike_66 2 rfl rfl ?_
    refine zz_getI (x := S 16 i) hX zf_F_X5_199.r t1 rfl (u7) dX5_strike_67 ?_
    refine zz_vN hX zf_M_X5_202 (As := [.int (zp_place S i (zv_sk S i)), .int (S 20 0), .int (zp_light S), .int (S 16 i)]) (st := []) (k_keepNext sh m0 mr (1000 + 100 * i + 5) (1000 + 100 * i + 6) (1000 + 100 * i + 7) (1000 + 100 * i + 8) (1000 + 100 * i + 9) (1000 + 100 * i + 10) (1000 + 100 * i + 11) (zv_jn S (zv_pu S i)) (zv_fr S i) (zv_sk S i) a1 a2 r1 r2 r3 r4 r5 r6 r7 r8 r9 r10 r11 r12 r13 a6 hk (by omega) (by omega) (by omega) (by omega) (zp_place S i (zv_sk S i)) (S 20 0) (zp_light S) (S 16 i)) r1 rfl rfl rfl (by decide) (Nat.le_of_ble_eq_true rfl) (Nat.le_of_ble_eq_true rfl) (Nat.le_of_ble_eq_true rfl) dX5_strike_70 ?_
    refine zz_aload_n hX dX5_strike_73 0 rfl rfl ?_
    refine zz_dup hX dX5_strike_74 rfl ?_
    refine zz_getI (x := S 21 0) hX zf_F_X5_56.r m1 rfl ((zm_u2l (by omega)).trans ((zm_u2l (by omega)).trans ((zm_u2l (by omega)).trans ((zm_u2l (by omega)).trans ((zm_u2l (by omega)).trans (m18)))))) dX5_strike_75 ?_
    refine zz_iconst (v := nI 1) hX dX5_strike_78 rfl ?_
    refine zz_iadd (z := (S 21 0) + (nI 1)) hX dX5_strike_79 rfl ?_
    refine zz_putI hX zf_F_X5_56 m1 rfl rfl rfl dX5_strike_80 ?_
    subst hQ9
    refine zz_iload hX dX5_strike_83 4 rfl ?_
    refine zz_iret hX hr rfl (Nat.le_of_ble_eq_true rfl) (Nat.le_of_ble_eq_true rfl) dX5_strike_85 ?_
    unfold zq_ok
    (try rw [z_i])
    exact ⟨⟨hA9, trivial, hb0⟩, by rw [hsk], by rw [← hz]; exact (zt_keep_ok hW hR hi hk ha hN).2, (zr_fr (zr_fr (zr_fr (zr_fr (zr_fr (zr_fr hsm (by unfold zr_out; omega)) (by unfold zr_out; omega)) (by unfold zr_out; omega)) (by unfold zr_out; omega)) (by unfold zr_out; omega)) (by unfold zr_out; omega))⟩
  refine zz_aload_n hX dX5_strike_14 2 rfl rfl ?_
  refine zz_getR (y := (1000 + 100 * i + 5)) hX zf_F_X5_182 t1 rfl t5 dX5_strike_15 ?_
  refine zz_astore_n (ls' := [(0, .ref 2), (1, .int (nI i)), (2, .ref (1000 + 100 * i)), (3, .ref (1000 + 100 * i + 5))]) hX dX5_strike_18 rfl (Nat.le_of_ble_eq_true rfl) rfl ?_
  refine zz_aload_n hX dX5_strike_19 3 rfl rfl ?_
  refine zz_getI (x := nI (zv_sk S i)) hX zf_F_X5_186.r r1 rfl (a6) dX5_strike_20 ?_
  refine zz_istore (ls' := [(0, .ref 2), (1, .int (nI i)), (2, .ref (1000 + 100 * i)), (3, .ref (1000 + 100 * i + 5)), (4, .int (nI (zv_sk S i)))]) hX dX5_strike_23 (Nat.le_of_ble_eq_true rfl) rfl ?_
  refine zz_aload_n hX dX5_strike_25 2 rfl rfl ?_
  refine zz_iload hX dX5_strike_26 4 rfl ?_
  refine zz_vI (x := zz_bi (zp_held S i (zv_sk S i))) hX zf_M_X5_149 (As := [.int (nI (zv_sk S i))]) (st := []) (K_isHeld S sh mi mr hW hR i hi (zv_sk S i) (by omega)) t1 rfl rfl rfl (by decide) (Nat.le_of_ble_eq_true rfl) (Nat.le_of_ble_eq_true rfl) (Nat.le_of_ble_eq_true rfl) dX5_strike_28 ?_
  refine zz_if_eqB hX 41 dX5_strike_31 (by decide) (fun c31 => ?_) (fun c31 => ?_)
  · skip
    refine zz_aload_n hX dX5_strike_41 0 rfl rfl ?_
    refine zz_aload_n hX dX5_strike_42 2 rfl rfl ?_
    refine zz_iload hX dX5_strike_43 4 rfl ?_
    refine zz_callV hX zf_M_X5_192 (As := [.ref (1000 + 100 * i), .int (nI (zv_sk S i))]) (st := []) (K_poseNext S sh mi mr hW hR i hi hk) m1 rfl rfl rfl (by decide) (Nat.le_of_ble_eq_true rfl) (Nat.le_of_ble_eq_true rfl) (Nat.le_of_ble_eq_true rfl) dX5_strike_45 ?_ (fun _ _ _ _ h _ => h.elim)
    rintro v9 s9 m9 n9 ⟨rfl, e2, e3, hW9, hR9, hN9, hS9⟩ -
    obtain rfl := e2.symm
    obtain rfl := e3.symm
    have d9 : ∀ r, r = 0 ∨ r = 1 ∨ (9 ≤ r ∧ r ≤ 15) → (zt_pz (zt_want S i) i) r = S r := fun r h => (zt_pz_r (by omega) (by omega) (by omega) (by omega)).trans (zt_want_r (by omega))
    obtain ⟨q1, q2, q3, q4, q5, q6⟩ := zv_same (S := S) (T := (zt_pz (zt_want S i) i)) (i := i) (d9 1 (by omega)) (d9 9 (by omega)) (d9 10 (by omega)) (d9 11 (by omega)) (d9 14 (by omega)) (d9 15 (by omega))
    refine zz_lcl (ls' := [(0, .ref 2), (1, .int (nI i)), (2, .ref (1000 + 100 * i)), (3, .ref (1000 + 100 * i + 5)), (4, .int (nI (zv_sk (zt_pz (zt_want S i) i) i)))]) (by rw [q2]) ?_
    exact L48 (zt_pz (zt_want S i) i) _ hW9 hR9 (by rw [q1]; exact hi) (by rw [q2, q3]; exact hk) (by rw [q6]; exact ha) hN9 hS9 q2 (by rw [show zt_strike S i = zt_keep (zt_pz (zt_want S i) i) i from by unfold zt_strike; rw [if_neg c31]])
  · skip
    have h0 : 0 < zv_sk S i := Nat.pos_of_ne_zero (fun e => c31 (by rw [e]; exact zs_pf_0 _))
    refine zz_aload_n hX dX5_strike_34 3 rfl rfl ?_
    refine zz_vN hX zf_M_X5_189 (As := []) (st := []) (k_repeat sh mi mr (1000 + 100 * i + 5) (1000 + 100 * i + 6) (1000 + 100 * i + 7) (1000 + 100 * i + 8) (1000 + 100 * i + 9) (1000 + 100 * i + 10) (1000 + 100 * i + 11) (zv_jn S (zv_pu S i)) (zv_fr S i) (zv_sk S i) a1 a2 r1 r2 r3 r4 r5 r6 r7 r8 r9 r10 r11 r12 r13 a6 (1000 + 100 * i + 40) (by omega) (by omega) (by omega) h0 hk r14 r15) r1 rfl rfl rfl (by decide) (Nat.le_of_ble_eq_true rfl) (Nat.le_of_ble_eq_true rfl) (Nat.le_of_ble_eq_true rfl) dX5_strike_35 ?_
    refine zz_goto hX 48 dX5_strike_38 (by decide) ?_
    have d9 : ∀ r, r = 0 ∨ r = 1 ∨ (9 ≤ r ∧ r ≤ 15) → (zt_hold S i) r = S r := fun r h => zt_hold_r (by omega) (by omega)
    obtain ⟨q1, q2, q3, q4, q5, q6⟩ := zv_same (S := S) (T := (zt_hold S i)) (i := i) (d9 1 (by omega)) (d9 9 (by omega)) (d9 10 (by omega)) (d9 11 (by omega)) (d9 14 (by omega)) (d9 15 (by omega))
    obtain ⟨hW9, hR9, hN9⟩ := zt_hold_ok hW hR hi rfl h0 hk _ (Nat.le_refl _)
    have hS9 : zr_same zr_out sh mi mr sh (zs_cpm (zm_u2 mi (1000 + 100 * i + 7) (zv_sk S i) (mi (1000 + 100 * i + 7) (zv_sk S i - 1))) (1000 + 100 * i + 40) (zv_jn S (zv_pu S i)) (zv_sk S i)) mr := fun l hl => ⟨rfl, funext fun b => (zs_cpm_r (Or.inr (by unfold zr_out at hl; omega))).trans (zm_u2l (by unfold zr_out at hl; omega)), rfl⟩
    refine zz_lcl (ls' := [(0, .ref 2), (1, .int (nI i)), (2, .ref (1000 + 100 * i)), (3, .ref (1000 + 100 * i + 5)), (4, .int (nI (zv_sk (zt_hold S i) i)))]) (by rw [q2]) ?_
    exact L48 (zt_hold S i) _ hW9 hR9 (by rw [q1]; exact hi) (by rw [q2, q3]; exact hk) (by rw [q6]; exact ha) (by rw [q4, q5]; exact hN9) hS9 q2 (by rw [show zt_strike S i = zt_keep (zt_hold S i) i from by unfold zt_strike; rw [if_pos c31]])

