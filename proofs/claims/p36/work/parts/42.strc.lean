/-! ===== the steps of isStruck ===== -/
theorem zs_shf9 {a b k : Nat} (ha : a < 100000) (hb : b < 100000) (hk : k < 100000) : nI a - nI b = nI (a + k) - nI (b + k) := by
  rw [zs_eq, pk_sub_toInt (by omega) (by omega), pk_sub_toInt (by omega) (by omega)]; omega
theorem zs_z1 {z m : Nat} {c : Int32} (hz : z < 10000) (hm : m < 10000) (hc : c.toInt = -(m : Int)) : nI z - nI m ≤ c ↔ z = 0 := by
  rw [zs_le, pk_sub_toInt (by omega) (by omega), hc]; omega
theorem zs_z2 {z m : Nat} (hz : z < 10000) (hm : m < 10000) : nI m ≤ nI z - nI m ↔ 2 * m ≤ z := by
  rw [zs_le, pk_sub_toInt (by omega) (by omega), nI_toInt (by omega)]; omega
theorem zs_z3 {z m k : Nat} {c : Int32} (hz : z < 10000) (hm : m < 10000) (hk : k + 1 = m) (hc : c.toInt = -(k : Int)) : (c ≤ nI z - nI m ∧ nI z - nI m ≤ nI k) ↔ (0 < z ∧ z < 2 * m) := by
  rw [zs_le, zs_le, pk_sub_toInt (by omega) (by omega), hc, nI_toInt (by omega)]; omega
theorem zs_zc {z : Nat} (hz : z < 2000) : nI z = ql_cw (nI z - nI 1000) := by
  unfold ql_cw
  have t : (nI z - nI 1000).toInt = (z : Int) - 1000 := pk_sub_toInt (by omega) (by decide)
  have t2 : (100000 : Int32).toInt = 100000 := by decide
  rw [if_neg (fun q => by rw [zs_eq, t, t2] at q; omega), Int32.sub_add_cancel]
theorem zp_cut_0 {S : zS} {x : Int32} (h8 : zv_nf S ≤ 8) (h : ¬ zp_cut S x = -1) : 0 ≤ zp_cut S x := by
  rcases zs_fst_cases (fun k => S 29 k = x) nI (zv_nf S) 0 with ⟨e, -⟩ | ⟨j, -, hj, -, e, -⟩
  · exact absurd e h
  · show 0 ≤ zs_fst (fun k => S 29 k = x) nI (zv_nf S) 0
    rw [e]; exact nI_pos' (by omega)
theorem zt_cut_le {S : zS} {i : Nat} (h8 : zv_nf S ≤ 8) (h : zW (zt_cut S i)) : zv_nf S < 8 := by
  have h1 : zn (zt_cut S i 28 0) ≤ 8 := h.2.2.2.2.2.2.1
  have e : zt_cut S i 28 0 = nI (zv_nf S + 1) := zm_u2s
  rw [e] at h1
  have z : zn (nI (zv_nf S + 1)) = zv_nf S + 1 := nI_clamp (n := zv_nf S + 1) (by omega)
  omega
theorem ql_mw {a b : Int32} (ha : zv_in a 0 100000) (hb : zv_in b 0 359) : (a * nI 360 + b) - nI 360 * a = 0 * nI 360 + b := by
  have e1 := zs_jt ha hb
  have e0 : ((0 : Int32) * nI 360 + b).toInt = b.toInt := by rw [Int32.zero_mul, Int32.zero_add]
  unfold zv_in at ha hb
  have e2 : (nI 360 * a).toInt = 360 * a.toInt := by rw [zs_Nmul (n := 360) (by decide) (by omega) (by omega)]; rfl
  rw [zs_eq, e0, zs_smallS (by omega) (by omega), e1, e2]; omega
theorem zp_bar_lt {S : zS} {i : Nat} : zp_bar S i ≤ 7 := by
  unfold zp_bar zp_pbar
  repeat' split
  all_goals decide
set_option maxHeartbeats 1000000 in
set_option maxRecDepth 20000 in
theorem S_key (n : Nat) (hn : n + 1 ≤ 64) (S : zS) (sh : zm_Sh) (mi : zm_Mi) (mr : zm_Mr) (hI : ql_I n S sh mi) (hR : zR S sh mi mr) (h10 : sh 10 = some (9, 0)) (one two : Nat) (ho : one < 60000) (ht : two < 60000)  : zz_Con yL_isStruck (.code yL_isStruck cL_isStruck 24 (some Jvm.ClassFile.FieldType.boolean)) 12 10 60 [.ref 2, .ref 100, .ref 101, .ref 102, .ref 103, .ref 104, .ref 105, .ref 106, .ref 107, .ref 108, .ref 109, .int (nI 0), .int (nI one), .int (nI two)] sh mi mr (ql_T n) zz_none := by
  refine zz_begin RL [(0, .ref 2), (1, .ref 100), (2, .ref 101), (3, .ref 102), (4, .ref 103), (5, .ref 104), (6, .ref 105), (7, .ref 106), (8, .ref 107), (9, .ref 108), (10, .ref 109), (11, .int (nI 0)), (12, .int (nI one)), (13, .int (nI two))] (by decide) rfl rfl (Nat.le_of_ble_eq_true rfl) rfl ?_
  intro Γ D E ad hX hr hN hT
  obtain ⟨n1, n2, n3, n4⟩ := ql_num hI
  have hsm := ql_small hI
  refine zz_iload hX dL_isStruck_0 12 rfl ?_
  refine zz_aload hX dL_isStruck_2 10 rfl ?_
  refine zz_iconst (v := nI 2) hX dL_isStruck_4 rfl ?_
  refine zz_iald (x := nI (zv_ns S)) hX (ql_s109 hI) 2 rfl (by decide) (by decide) ((ql_g2 hI)) dL_isStruck_5 ?_
  refine zz_iconst (v := nI 1) hX dL_isStruck_6 rfl ?_
  refine zz_iadd (z := nI (zv_ns S + 1)) hX dL_isStruck_7 (nI_add _ _) ?_
  refine zz_irem (z := nI (one % (zv_ns S + 1))) hX dL_isStruck_8 (nI_ne0 (by omega) (by omega)) (pk_rem (by omega) (by omega) (by omega)) ?_
  have hq9 : one % (zv_ns S + 1) < zv_ns S + 1 := Nat.mod_lt _ (by omega)
  generalize one % (zv_ns S + 1) = q at hq9 ⊢
  have z_q : zn (nI q) = q := nI_clamp (n := q) (by omega)
  refine zz_istore (ls' := [(0, .ref 2), (1, .ref 100), (2, .ref 101), (3, .ref 102), (4, .ref 103), (5, .ref 104), (6, .ref 105), (7, .ref 106), (8, .ref 107), (9, .ref 108), (10, .ref 109), (11, .int (nI 0)), (12, .int (nI one)), (13, .int (nI two)), (14, .int (nI q))]) hX dL_isStruck_9 (Nat.le_of_ble_eq_true rfl) rfl ?_
  by_cases g0 : q < zv_ns S
  · skip
    have hwq := ql_hw_lt hI g0
    obtain ⟨q1, q2, q3, q4, q5, q6, q7, q8, q9, q10, q11, q12⟩ := ql_shot hI g0
    refine zz_iload hX dL_isStruck_11 14 rfl ?_
    refine zz_aload hX dL_isStruck_13 10 rfl ?_
    refine zz_iconst (v := nI 2) hX dL_isStruck_15 rfl ?_
    refine zz_iald (x := nI (zv_ns S)) hX (ql_s109 hI) 2 rfl (by decide) (by decide) ((ql_g2 hI)) dL_isStruck_16 ?_
    refine zz_icmp_geN hX (by omega) (by omega) 24 dL_isStruck_17 (by decide) (fun c17 => absurd c17 (by omega)) (fun c17 => ?_)
    refine zz_iconst (v := nI 1) hX dL_isStruck_20 rfl ?_
    refine zz_goto hX 25 dL_isStruck_21 (by decide) ?_
    refine zz_istore (ls' := [(0, .ref 2), (1, .ref 100), (2, .ref 101), (3, .ref 102), (4, .ref 103), (5, .ref 104), (6, .ref 105), (7, .ref 106), (8, .ref 107), (9, .ref 108), (10, .ref 109), (11, .int (nI 0)), (12, .int (nI one)), (13, .int (nI two)), (14, .int (nI q)), (15, .int (nI 1))]) hX dL_isStruck_25 (Nat.le_of_ble_eq_true rfl) rfl ?_
    refine zz_iload hX dL_isStruck_27 15 rfl ?_
    refine zz_if_eq hX 42 dL_isStruck_29 (by decide) (fun c => absurd c (by decide)) (fun _ => ?_)
    refine zz_aload hX dL_isStruck_32 5 rfl ?_
    refine zz_iload hX dL_isStruck_34 14 rfl ?_
    refine zz_sI (x := nI (zv_fr S q)) hX zf_M_L_105 (As := [.ref 104, .int (nI q)]) (st := []) (Q_frames n S sh mi mr hI q (by omega)) rfl rfl (by decide) (Nat.le_of_ble_eq_true rfl) (Nat.le_of_ble_eq_true rfl) (Nat.le_of_ble_eq_true rfl) dL_isStruck_36 ?_
    refine zz_goto hX 43 dL_isStruck_39 (by decide) ?_
    refine zz_istore (ls' := [(0, .ref 2), (1, .ref 100), (2, .ref 101), (3, .ref 102), (4, .ref 103), (5, .ref 104), (6, .ref 105), (7, .ref 106), (8, .ref 107), (9, .ref 108), (10, .ref 109), (11, .int (nI 0)), (12, .int (nI one)), (13, .int (nI two)), (14, .int (nI q)), (15, .int (nI 1)), (16, .int (nI (zv_fr S q)))]) hX dL_isStruck_43 (Nat.le_of_ble_eq_true rfl) rfl ?_
    refine zz_iload hX dL_isStruck_45 15 rfl ?_
    refine zz_if_eq hX 60 dL_isStruck_47 (by decide) (fun c => absurd c (by decide)) (fun _ => ?_)
    refine zz_aload hX dL_isStruck_50 5 rfl ?_
    refine zz_iload hX dL_isStruck_52 14 rfl ?_
    refine zz_sI (x := nI (zv_sk S q)) hX zf_M_L_101 (As := [.ref 104, .int (nI q)]) (st := []) (Q_struck n S sh mi mr hI q (by omega)) rfl rfl (by decide) (Nat.le_of_ble_eq_true rfl) (Nat.le_of_ble_eq_true rfl) (Nat.le_of_ble_eq_true rfl) dL_isStruck_54 ?_
    refine zz_goto hX 61 dL_isStruck_57 (by decide) ?_
    refine zz_istore (ls' := [(0, .ref 2), (1, .ref 100), (2, .ref 101), (3, .ref 102), (4, .ref 103), (5, .ref 104), (6, .ref 105), (7, .ref 106), (8, .ref 107), (9, .ref 108), (10, .ref 109), (11, .int (nI 0)), (12, .int (nI one)), (13, .int (nI two)), (14, .int (nI q)), (15, .int (nI 1)), (16, .int (nI (zv_fr S q))), (17, .int (nI (zv_sk S q)))]) hX dL_isStruck_61 (Nat.le_of_ble_eq_true rfl) rfl ?_
    have K96 : ∀ f : Nat, f ≤ zv_fr S q → zz Γ (D, E, 24, ad, sh) (zz_End Γ (D, E, 24, ad, sh) (ql_T n) zz_none 10 60) 0 0 sh mi mr 96 [(0, .ref 2), (1, .ref 100), (2, .ref 101), (3, .ref 102), (4, .ref 103), (5, .ref 104), (6, .ref 105), (7, .ref 106), (8, .ref 107), (9, .ref 108), (10, .ref 109), (11, .int (nI 0)), (12, .int (nI one)), (13, .int (nI two)), (14, .int (nI q)), (15, .int (nI 1)), (16, .int (nI (zv_fr S q))), (17, .int (nI (zv_sk S q)))] [.int (nI f)] := by
      intro f hf
      have z_f : zn (nI f) = f := nI_clamp (n := f) (by omega)
      refine zz_istore (ls' := [(0, .ref 2), (1, .ref 100), (2, .ref 101), (3, .ref 102), (4, .ref 103), (5, .ref 104), (6, .ref 105), (7, .ref 106), (8, .ref 107), (9, .ref 108), (10, .ref 109), (11, .int (nI 0)), (12, .int (nI one)), (13, .int (nI two)), (14, .int (nI q)), (15, .int (nI 1)), (16, .int (nI (zv_fr S q))), (17, .int (nI (zv_sk S q))), (18, .int (nI f))]) hX dL_isStruck_96 (Nat.le_of_ble_eq_true rfl) rfl ?_
      refine zz_iload hX dL_isStruck_98 11 rfl ?_
      refine zz_if_ne hX 362 dL_isStruck_100 (by decide) (fun c => absurd c (by decide)) (fun _ => ?_)
      refine zz_iload hX dL_isStruck_103 15 rfl ?_
      refine zz_if_eq hX 139 dL_isStruck_105 (by decide) (fun c => absurd c (by decide)) (fun _ => ?_)
      refine zz_iload hX dL_isStruck_108 13 rfl ?_
      refine zz_aload_n hX dL_isStruck_110 1 rfl rfl ?_
      refine zz_aload hX dL_isStruck_111 5 rfl ?_
      refine zz_iload hX dL_isStruck_113 14 rfl ?_
      refine zz_iald (x := nI (ql_hw S q)) hX (ql_s104 hI) q rfl (by omega) (by decide) ((ql_rd_h hI (by omega))) dL_isStruck_115 ?_
      refine zz_iconst (v := nI 4) hX dL_isStruck_116 rfl ?_
      refine zz_irem (z := nI (zv_pu S q)) hX dL_isStruck_117 (by decide) ((pk_rem (by omega) (by decide) (by decide)).trans (congrArg nI (ql_hw_pu hI (a := q) (by omega)))) ?_
      refine zz_iald (x := nI (zv_jn S (zv_pu S q))) hX (ql_s100 hI) (zv_pu S q) rfl (by omega) (by decide) ((ql_g100 hI (by omega))) dL_isStruck_118 ?_
      have K134 : ∀ b : Nat, b ≤ 1 → zz Γ (D, E, 24, ad, sh) (zz_End Γ (D, E, 24, ad, sh) (ql_T n) zz_none 10 60) 0 0 sh mi mr 134 [(0, .ref 2), (1, .ref 100), (2, .ref 101), (3, .ref 102), (4, .ref 103), (5, .ref 104), (6, .ref 105), (7, .ref 106), (8, .ref 107), (9, .ref 108), (10, .ref 109), (11, .int (nI 0)), (12, .int (nI one)), (13, .int (nI two)), (14, .int (nI q)), (15, .int (nI 1)), (16, .int (nI (zv_fr S q))), (17, .int (nI (zv_sk S q))), (18, .int (nI f))] [.int (nI b), .int (nI (zv_jn S (zv_pu S q))), .int (nI two)] := by
        intro b hb
        refine zz_iadd (z := nI (zv_jn S (zv_pu S q) + b)) hX dL_isStruck_134 (nI_add _ _) ?_
        refine zz_irem (z := nI (two % (zv_jn S (zv_pu S q) + b))) hX dL_isStruck_135 (nI_ne0 (by omega) (by omega)) (pk_rem (by omega) (by omega) (by omega)) ?_
        refine zz_goto hX 140 dL_isStruck_136 (by decide) ?_
        have hj9 : two % (zv_jn S (zv_pu S q) + b) < zv_jn S (zv_pu S q) + b := Nat.mod_lt _ (by omega)
        generalize two % (zv_jn S (zv_pu S q) + b) = j at hj9 ⊢
        have z_j : zn (nI j) = j := nI_clamp (n := j) (by omega)
        refine zz_istore (ls' := [(0, .ref 2), (1, .ref 100), (2, .ref 101), (3, .ref 102), (4, .ref 103), (5, .ref 104), (6, .ref 105), (7, .ref 106), (8, .ref 107), (9, .ref 108), (10, .ref 109), (11, .int (nI 0)), (12, .int (nI one)), (13, .int (nI two)), (14, .int (nI q)), (15, .int (nI 1)), (16, .int (nI (zv_fr S q))), (17, .int (nI (zv_sk S q))), (18, .int (nI f)), (19, .int (nI j))]) hX dL_isStruck_140 (Nat.le_of_ble_eq_true rfl) rfl ?_
        have K175 : ∀ d : Nat, d ≤ 360 → zz Γ (D, E, 24, ad, sh) (zz_End Γ (D, E, 24, ad, sh) (ql_T n) zz_none 10 60) 0 0 sh mi mr 175 [(0, .ref 2), (1, .ref 100), (2, .ref 101), (3, .ref 102), (4, .ref 103), (5, .ref 104), (6, .ref 105), (7, .ref 106), (8, .ref 107), (9, .ref 108), (10, .ref 109), (11, .int (nI 0)), (12, .int (nI one)), (13, .int (nI two)), (14, .int (nI q)), (15, .int (nI 1)), (16, .int (nI (zv_fr S q))), (17, .int (nI (zv_sk S q))), (18, .int (nI f)), (19, .int (nI j))] [.int (nI d)] := by
          intro d hd
          refine zz_istore (ls' := [(0, .ref 2), (1, .ref 100), (2, .ref 101), (3, .ref 102), (4, .ref 103), (5, .ref 104), (6, .ref 105), (7, .ref 106), (8, .ref 107), (9, .ref 108), (10, .ref 109), (11, .int (nI 0)), (12, .int (nI one)), (13, .int (nI two)), (14, .int (nI q)), (15, .int (nI 1)), (16, .int (nI (zv_fr S q))), (17, .int (nI (zv_sk S q))), (18, .int (nI f)), (19, .int (nI j)), (20, .int (nI d))]) hX dL_isStruck_175 (Nat.le_of_ble_eq_true rfl) rfl ?_
          by_cases u0 : j < zv_jn S (zv_pu S q) ∧ f < zv_fr S q
          · skip
            by_cases u1 : d < 360
            · skip
              by_cases u2 : zv_sk S q ≤ f ∧ ¬ zp_held S q f
              · skip
                refine zz_iload hX dL_isStruck_177 15 rfl ?_
                refine zz_if_eq hX 207 dL_isStruck_179 (by decide) (fun c => absurd c (by decide)) (fun _ => ?_)
                refine zz_iload hX dL_isStruck_182 19 rfl ?_
                refine zz_aload_n hX dL_isStruck_184 1 rfl rfl ?_
                refine zz_aload hX dL_isStruck_185 5 rfl ?_
                refine zz_iload hX dL_isStruck_187 14 rfl ?_
                refine zz_iald (x := nI (ql_hw S q)) hX (ql_s104 hI) q rfl (by omega) (by decide) ((ql_rd_h hI (by omega))) dL_isStruck_189 ?_
                refine zz_iconst (v := nI 4) hX dL_isStruck_190 rfl ?_
                refine zz_irem (z := nI (zv_pu S q)) hX dL_isStruck_191 (by decide) ((pk_rem (by omega) (by decide) (by decide)).trans (congrArg nI (ql_hw_pu hI (a := q) (by omega)))) ?_
                refine zz_iald (x := nI (zv_jn S (zv_pu S q))) hX (ql_s100 hI) (zv_pu S q) rfl (by omega) (by decide) ((ql_g100 hI (by omega))) dL_isStruck_192 ?_
                refine zz_icmp_geN hX (by omega) (by omega) 207 dL_isStruck_193 (by decide) (fun c193 => absurd c193 (by omega)) (fun c193 => ?_)
                refine zz_iload hX dL_isStruck_196 18 rfl ?_
                refine zz_iload hX dL_isStruck_198 16 rfl ?_
                refine zz_icmp_geN hX (by omega) (by omega) 207 dL_isStruck_200 (by decide) (fun c200 => absurd c200 (by omega)) (fun c200 => ?_)
                refine zz_iconst (v := nI 1) hX dL_isStruck_203 rfl ?_
                refine zz_goto hX 208 dL_isStruck_204 (by decide) ?_
                refine zz_istore (ls' := [(0, .ref 2), (1, .ref 100), (2, .ref 101), (3, .ref 102), (4, .ref 103), (5, .ref 104), (6, .ref 105), (7, .ref 106), (8, .ref 107), (9, .ref 108), (10, .ref 109), (11, .int (nI 0)), (12, .int (nI one)), (13, .int (nI two)), (14, .int (nI q)), (15, .int (nI 1)), (16, .int (nI (zv_fr S q))), (17, .int (nI (zv_sk S q))), (18, .int (nI f)), (19, .int (nI j)), (20, .int (nI d)), (21, .int (nI 1))]) hX dL_isStruck_208 (Nat.le_of_ble_eq_true rfl) rfl ?_
                refine zz_iload hX dL_isStruck_210 21 rfl ?_
                refine zz_if_eq hX 246 dL_isStruck_212 (by decide) (fun c => absurd c (by decide)) (fun _ => ?_)
                refine zz_iload hX dL_isStruck_215 20 rfl ?_
                refine zz_sipush (v := nI 360) hX dL_isStruck_217 rfl ?_
                refine zz_icmp_geN hX (by omega) (by decide) 246 dL_isStruck_220 (by decide) (fun c220 => absurd c220 (by omega)) (fun c220 => ?_)
                refine zz_iload hX dL_isStruck_223 18 rfl ?_
                refine zz_iload hX dL_isStruck_225 17 rfl ?_
                refine zz_icmp_ltN hX (by omega) (by omega) 246 dL_isStruck_227 (by decide) (fun c227 => absurd c227 (by omega)) (fun c227 => ?_)
                refine zz_aload hX dL_isStruck_230 5 rfl ?_
                refine zz_iload hX dL_isStruck_232 14 rfl ?_
                refine zz_iload hX dL_isStruck_234 18 rfl ?_
                refine zz_sI (x := zz_bi (zp_held S q f)) hX zf_M_L_91 (As := [.ref 104, .int (nI q), .int (nI f)]) (st := []) (Q_isHeld n S sh mi mr hI q (by omega) f (by omega)) rfl rfl (by decide) (Nat.le_of_ble_eq_true rfl) (Nat.le_of_ble_eq_true rfl) (Nat.le_of_ble_eq_true rfl) dL_isStruck_236 ?_
                refine zz_if_neB hX 246 dL_isStruck_239 (by decide) (fun c239 => absurd c239 u2.2) (fun c239 => ?_)
                refine zz_iconst (v := nI 1) hX dL_isStruck_242 rfl ?_
                refine zz_goto hX 247 dL_isStruck_243 (by decide) ?_
                refine zz_istore (ls' := [(0, .ref 2), (1, .ref 100), (2, .ref 101), (3, .ref 102), (4, .ref 103), (5, .ref 104), (6, .ref 105), (7, .ref 106), (8, .ref 107), (9, .ref 108), (10, .ref 109), (11, .int (nI 0)), (12, .int (nI one)), (13, .int (nI two)), (14, .int (nI q)), (15, .int (nI 1)), (16, .int (nI (zv_fr S q))), (17, .int (nI (zv_sk S q))), (18, .int (nI f)), (19, .int (nI j)), (20, .int (nI d)), (21, .int (nI 1)), (22, .int (nI 1))]) hX dL_isStruck_247 (Nat.le_of_ble_eq_true rfl) rfl ?_
                refine zz_iload hX dL_isStruck_249 21 rfl ?_
                refine zz_if_eq hX 270 dL_isStruck_251 (by decide) (fun c => absurd c (by decide)) (fun _ => ?_)
                refine zz_aload hX dL_isStruck_254 5 rfl ?_
                refine zz_aload hX dL_isStruck_256 6 rfl ?_
                refine zz_iload hX dL_isStruck_258 14 rfl ?_
                refine zz_iload hX dL_isStruck_260 19 rfl ?_
                refine zz_iload hX dL_isStruck_262 18 rfl ?_
                refine zz_sI (x := zp_deg S q j f) hX zf_M_L_120 (As := [.ref 104, .ref 105, .int (nI q), .int (nI j), .int (nI f)]) (st := []) (Q_degree n S sh mi mr hI q (by omega) j (by omega) f (by omega)) rfl rfl (by decide) (Nat.le_of_ble_eq_true rfl) (Nat.le_of_ble_eq_true rfl) (Nat.le_of_ble_eq_true rfl) dL_isStruck_264 ?_
                refine zz_goto hX 271 dL_isStruck_267 (by decide) ?_
                refine zz_istore (ls' := [(0, .ref 2), (1, .ref 100), (2, .ref 101), (3, .ref 102), (4, .ref 103), (5, .ref 104), (6, .ref 105), (7, .ref 106), (8, .ref 107), (9, .ref 108), (10, .ref 109), (11, .int (nI 0)), (12, .int (nI one)), (13, .int (nI two)), (14, .int (nI q)), (15, .int (nI 1)), (16, .int (nI (zv_fr S q))), (17, .int (nI (zv_sk S q))), (18, .int (nI f)), (19, .int (nI j)), (20, .int (nI d)), (21, .int (nI 1)), (22, .int (nI 1)), (23, .int (zp_deg S q j f))]) hX dL_isStruck_271 (Nat.le_of_ble_eq_true rfl) rfl ?_
                refine zz_aload hX dL_isStruck_273 6 rfl ?_
                refine zz_iload hX dL_isStruck_275 22 rfl ?_
                refine zz_if_eq hX 297 dL_isStruck_277 (by decide) (fun c => absurd c (by decide)) (fun _ => ?_)
                refine zz_bipush (v := nI 18) hX dL_isStruck_280 rfl ?_
                refine zz_iload hX dL_isStruck_282 14 rfl ?_
                refine zz_imul (z := nI (18 * q)) hX dL_isStruck_284 (pk_mul _ _) ?_
                refine zz_bipush (v := nI 6) hX dL_isStruck_285 rfl ?_
                refine zz_iload hX dL_isStruck_287 19 rfl ?_
                refine zz_imul (z := nI (6 * j)) hX dL_isStruck_289 (pk_mul _ _) ?_
                refine zz_iadd (z := nI (18 * q + 6 * j)) hX dL_isStruck_290 (nI_add _ _) ?_
                refine zz_iload hX dL_isStruck_291 18 rfl ?_
                refine zz_iadd (z := nI (18 * q + 6 * j + f)) hX dL_isStruck_293 (nI_add _ _) ?_
                refine zz_goto hX 299 dL_isStruck_294 (by decide) ?_
                refine zz_iload hX dL_isStruck_299 20 rfl ?_
                refine zz_iconst (v := nI 1) hX dL_isStruck_301 rfl ?_
                refine zz_iadd (z := nI (d + 1)) hX dL_isStruck_302 (nI_add _ _) ?_
                refine zz_top (show nI (d + 1) = nI d + nI 1 from (nI_add d 1).symm) ?_
                refine zz_iast hX (ql_s105 hI) (18 * q + 6 * j + f) rfl (by omega) (by decide) dL_isStruck_303 ?_
                refine zz_aload_n hX dL_isStruck_304 0 rfl rfl ?_
                refine zz_bipush (v := nI 8) hX dL_isStruck_305 rfl ?_
                refine zz_iload hX dL_isStruck_307 14 rfl ?_
                refine zz_iload hX dL_isStruck_309 19 rfl ?_
                refine zz_iload hX dL_isStruck_311 18 rfl ?_
                refine zz_iload hX dL_isStruck_313 20 rfl ?_
                have hA9 : zs_ix (nI q) (zv_ns S) ∧ zs_ix (nI j) (zv_jn S (zv_pu S (zn (nI q)))) ∧ zs_ix (nI f) (zv_fr S (zn (nI q))) := by rw [z_q]; exact ⟨zs_ix_nI g0 (by omega), zs_ix_nI u0.1 (by omega), zs_ix_nI u0.2 (by omega)⟩
                have hB9 : nI 0 ≤ nI d ∧ nI d ≤ nI 359 := (zs_r2 (by omega)).mpr (by omega)
                have hC9 : (¬ nI f < nI (zv_sk S (zn (nI q)))) ∧ (¬ zp_held S (zn (nI q)) (zn (nI f))) := by rw [z_q, z_f, nI_ltI (by omega) (by omega)]; exact ⟨by omega, u2.2⟩
                refine zz_callSH hX zf_M_L_161 (As := [.ref 2, .int (nI 8), .int (nI q), .int (nI j), .int (nI f), .int (nI d)]) (st := []) (D_key S sh (zm_u2 mi 105 (18 * q + 6 * j + f) (nI d + nI 1)) mr (ql_W hI) (ql_R_f (ql_W hI) hR (M := (zm_u2 mi 105 (18 * q + 6 * j + f) (nI d + nI 1))) (fun l hl => zm_u2r (by omega))) (nI q) (nI j) (nI f) (nI d)) rfl rfl (by decide) (Nat.le_of_ble_eq_true rfl) (Nat.le_of_ble_eq_true rfl) (Nat.le_of_ble_eq_true rfl) dL_isStruck_315 ?_ (fun _ _ _ _ h _ => h.elim)
                rintro v9 s9 i9 m9 ⟨k9, rfl, hk9, hS9⟩ -
                obtain ⟨e9, hR9⟩ := zq_d1 hk9 hA9 hB9 hC9
                simp only [z_q, z_j, z_f] at e9 hR9
                obtain rfl := e9.symm
                refine zz_iload hX dL_isStruck_318 21 rfl ?_
                refine zz_if_ne hX 328 dL_isStruck_320 (by decide) (fun _ => ?_) (fun c => absurd c (by decide))
                refine zz_iload hX dL_isStruck_328 20 rfl ?_
                refine zz_sipush (v := nI 360) hX dL_isStruck_330 rfl ?_
                refine zz_icmp_neN hX (by omega) (by decide) 341 dL_isStruck_333 (by decide) (fun c333 => ?_) (fun c333 => absurd c333 (by omega))
                refine zz_iload hX dL_isStruck_341 22 rfl ?_
                refine zz_if_eq hX 351 dL_isStruck_343 (by decide) (fun c => absurd c (by decide)) (fun _ => ?_)
                refine zz_iload hX dL_isStruck_346 23 rfl ?_
                refine zz_goto hX 353 dL_isStruck_348 (by decide) ?_
                refine zz_icmp_ne hX 360 dL_isStruck_353 (by decide) (fun c353 => absurd rfl c353) (fun c353 => ?_)
                refine zz_iconst (v := nI 1) hX dL_isStruck_356 rfl ?_
                refine zz_goto hX 361 dL_isStruck_357 (by decide) ?_
                refine zz_iret hX hr rfl (Nat.le_of_ble_eq_true rfl) (Nat.le_of_ble_eq_true rfl) dL_isStruck_361 ?_
                exact ⟨rfl, ⟨_, ql_J_end hn (by have z := U_key (ql_W hI) (nI q) (nI j) (nI f) (nI d) hA9 hB9 hC9; simp only [z_q, z_j, z_f] at z; exact z) (ql_B_s (ql_BB hI) (fun r hr => zm_u2r (by omega))) (ql_N_k hI.2.2.2 (by omega) (by omega) (by omega)) hR9 hS9⟩, ql_10 h10 hS9⟩
              · skip
                refine zz_iload hX dL_isStruck_177 15 rfl ?_
                refine zz_if_eq hX 207 dL_isStruck_179 (by decide) (fun c => absurd c (by decide)) (fun _ => ?_)
                refine zz_iload hX dL_isStruck_182 19 rfl ?_
                refine zz_aload_n hX dL_isStruck_184 1 rfl rfl ?_
                refine zz_aload hX dL_isStruck_185 5 rfl ?_
                refine zz_iload hX dL_isStruck_187 14 rfl ?_
                refine zz_iald (x := nI (ql_hw S q)) hX (ql_s104 hI) q rfl (by omega) (by decide) ((ql_rd_h hI (by omega))) dL_isStruck_189 ?_
                refine zz_iconst (v := nI 4) hX dL_isStruck_190 rfl ?_
                refine zz_irem (z := nI (zv_pu S q)) hX dL_isStruck_191 (by decide) ((pk_rem (by omega) (by decide) (by decide)).trans (congrArg nI (ql_hw_pu hI (a := q) (by omega)))) ?_
                refine zz_iald (x := nI (zv_jn S (zv_pu S q))) hX (ql_s100 hI) (zv_pu S q) rfl (by omega) (by decide) ((ql_g100 hI (by omega))) dL_isStruck_192 ?_
                refine zz_icmp_geN hX (by omega) (by omega) 207 dL_isStruck_193 (by decide) (fun c193 => absurd c193 (by omega)) (fun c193 => ?_)
                refine zz_iload hX dL_isStruck_196 18 rfl ?_
                refine zz_iload hX dL_isStruck_198 16 rfl ?_
                refine zz_icmp_geN hX (by omega) (by omega) 207 dL_isStruck_200 (by decide) (fun c200 => absurd c200 (by omega)) (fun c200 => ?_)
                refine zz_iconst (v := nI 1) hX dL_isStruck_203 rfl ?_
                refine zz_goto hX 208 dL_isStruck_204 (by decide) ?_
                refine zz_istore (ls' := [(0, .ref 2), (1, .ref 100), (2, .ref 101), (3, .ref 102), (4, .ref 103), (5, .ref 104), (6, .ref 105), (7, .ref 106), (8, .ref 107), (9, .ref 108), (10, .ref 109), (11, .int (nI 0)), (12, .int (nI one)), (13, .int (nI two)), (14, .int (nI q)), (15, .int (nI 1)), (16, .int (nI (zv_fr S q))), (17, .int (nI (zv_sk S q))), (18, .int (nI f)), (19, .int (nI j)), (20, .int (nI d)), (21, .int (nI 1))]) hX dL_isStruck_208 (Nat.le_of_ble_eq_true rfl) rfl ?_
                refine zz_iload hX dL_isStruck_210 21 rfl ?_
                refine zz_if_eq hX 246 dL_isStruck_212 (by decide) (fun c => absurd c (by decide)) (fun _ => ?_)
                refine zz_iload hX dL_isStruck_215 20 rfl ?_
                refine zz_sipush (v := nI 360) hX dL_isStruck_217 rfl ?_
                refine zz_icmp_geN hX (by omega) (by decide) 246 dL_isStruck_220 (by decide) (fun c220 => absurd c220 (by omega)) (fun c220 => ?_)
                have K247 : zz Γ (D, E, 24, ad, sh) (zz_End Γ (D, E, 24, ad, sh) (ql_T n) zz_none 10 60) 0 0 sh mi mr 247 [(0, .ref 2), (1, .ref 100), (2, .ref 101), (3, .ref 102), (4, .ref 103), (5, .ref 104), (6, .ref 105), (7, .ref 106), (8, .ref 107), (9, .ref 108), (10, .ref 109), (11, .int (nI 0)), (12, .int (nI one)), (13, .int (nI two)), (14, .int (nI q)), (15, .int (nI 1)), (16, .int (nI (zv_fr S q))), (17, .int (nI (zv_sk S q))), (18, .int (nI f)), (19, .int (nI j)), (20, .int (nI d)), (21, .int (nI 1))] [.int (nI 0)] := by
                  refine zz_istore (ls' := [(0, .ref 2), (1, .ref 100), (2, .ref 101), (3, .ref 102), (4, .ref 103), (5, .ref 104), (6, .ref 105), (7, .ref 106), (8, .ref 107), (9, .ref 108), (10, .ref 109), (11, .int (nI 0)), (12, .int (nI one)), (13, .int (nI two)), (14, .int (nI q)), (15, .int (nI 1)), (16, .int (nI (zv_fr S q))), (17, .int (nI (zv_sk S q))), (18, .int (nI f)), (19, .int (nI j)), (20, .int (nI d)), (21, .int (nI 1)), (22, .int (nI 0))]) hX dL_isStruck_247 (Nat.le_of_ble_eq_true rfl) rfl ?_
                  refine zz_iload hX dL_isStruck_249 21 rfl ?_
                  refine zz_if_eq hX 270 dL_isStruck_251 (by decide) (fun c => absurd c (by decide)) (fun _ => ?_)
                  refine zz_aload hX dL_isStruck_254 5 rfl ?_
                  refine zz_aload hX dL_isStruck_256 6 rfl ?_
                  refine zz_iload hX dL_isStruck_258 14 rfl ?_
                  refine zz_iload hX dL_isStruck_260 19 rfl ?_
                  refine zz_iload hX dL_isStruck_262 18 rfl ?_
                  refine zz_sI (x := zp_deg S q j f) hX zf_M_L_120 (As := [.ref 104, .ref 105, .int (nI q), .int (nI j), .int (nI f)]) (st := []) (Q_degree n S sh mi mr hI q (by omega) j (by omega) f (by omega)) rfl rfl (by decide) (Nat.le_of_ble_eq_true rfl) (Nat.le_of_ble_eq_true rfl) (Nat.le_of_ble_eq_true rfl) dL_isStruck_264 ?_
                  refine zz_goto hX 271 dL_isStruck_267 (by decide) ?_
                  refine zz_istore (ls' := [(0, .ref 2), (1, .ref 100), (2, .ref 101), (3, .ref 102), (4, .ref 103), (5, .ref 104), (6, .ref 105), (7, .ref 106), (8, .ref 107), (9, .ref 108), (10, .ref 109), (11, .int (nI 0)), (12, .int (nI one)), (13, .int (nI two)), (14, .int (nI q)), (15, .int (nI 1)), (16, .int (nI (zv_fr S q))), (17, .int (nI (zv_sk S q))), (18, .int (nI f)), (19, .int (nI j)), (20, .int (nI d)), (21, .int (nI 1)), (22, .int (nI 0)), (23, .int (zp_deg S q j f))]) hX dL_isStruck_271 (Nat.le_of_ble_eq_true rfl) rfl ?_
                  refine zz_aload hX dL_isStruck_273 6 rfl ?_
                  refine zz_iload hX dL_isStruck_275 22 rfl ?_
                  refine zz_if_eq hX 297 dL_isStruck_277 (by decide) (fun _ => ?_) (fun c => absurd c (by decide))
                  refine zz_bipush (v := nI 54) hX dL_isStruck_297 rfl ?_
                  refine zz_iload hX dL_isStruck_299 20 rfl ?_
                  refine zz_iconst (v := nI 1) hX dL_isStruck_301 rfl ?_
                  refine zz_iadd (z := nI (d + 1)) hX dL_isStruck_302 (nI_add _ _) ?_
                  refine zz_iast hX (ql_s105 hI) 54 rfl (by decide) (by decide) dL_isStruck_303 ?_
                  refine zz_aload_n hX dL_isStruck_304 0 rfl rfl ?_
                  refine zz_bipush (v := nI 8) hX dL_isStruck_305 rfl ?_
                  refine zz_iload hX dL_isStruck_307 14 rfl ?_
                  refine zz_iload hX dL_isStruck_309 19 rfl ?_
                  refine zz_iload hX dL_isStruck_311 18 rfl ?_
                  refine zz_iload hX dL_isStruck_313 20 rfl ?_
                  have hA9 : zs_ix (nI q) (zv_ns S) ∧ zs_ix (nI j) (zv_jn S (zv_pu S (zn (nI q)))) ∧ zs_ix (nI f) (zv_fr S (zn (nI q))) := by rw [z_q]; exact ⟨zs_ix_nI g0 (by omega), zs_ix_nI u0.1 (by omega), zs_ix_nI u0.2 (by omega)⟩
                  have hB9 : nI 0 ≤ nI d ∧ nI d ≤ nI 359 := (zs_r2 (by omega)).mpr (by omega)
                  refine zz_callSH hX zf_M_L_161 (As := [.ref 2, .int (nI 8), .int (nI q), .int (nI j), .int (nI f), .int (nI d)]) (st := []) (D_key S sh (zm_u2 mi 105 54 (nI (d + 1))) mr (ql_W hI) (ql_R_f (ql_W hI) hR (M := (zm_u2 mi 105 54 (nI (d + 1)))) (fun l hl => zm_u2r (by omega))) (nI q) (nI j) (nI f) (nI d)) rfl rfl (by decide) (Nat.le_of_ble_eq_true rfl) (Nat.le_of_ble_eq_true rfl) (Nat.le_of_ble_eq_true rfl) dL_isStruck_315 ?_ (fun _ _ _ _ h _ => h.elim)
                  rintro v9 s9 i9 m9 ⟨k9, rfl, hk9, hS9⟩ -
                  obtain ⟨e9, hR9⟩ := zq_d4 hk9 hA9 hB9 (fun h => by rw [z_q, z_f, nI_ltI (by omega) (by omega)] at h; exact u2 ⟨by omega, h.2⟩)
                  obtain rfl := e9.symm
                  refine zz_iload hX dL_isStruck_318 21 rfl ?_
                  refine zz_if_ne hX 328 dL_isStruck_320 (by decide) (fun _ => ?_) (fun c => absurd c (by decide))
                  refine zz_iload hX dL_isStruck_328 20 rfl ?_
                  refine zz_sipush (v := nI 360) hX dL_isStruck_330 rfl ?_
                  refine zz_icmp_neN hX (by omega) (by decide) 341 dL_isStruck_333 (by decide) (fun c333 => ?_) (fun c333 => absurd c333 (by omega))
                  refine zz_iload hX dL_isStruck_341 22 rfl ?_
                  refine zz_if_eq hX 351 dL_isStruck_343 (by decide) (fun _ => ?_) (fun c => absurd c (by decide))
                  refine zz_ldc (v := -1000000) hX zw_con_L_90 dL_isStruck_351 ?_
                  refine zz_icmp_ne hX 360 dL_isStruck_353 (by decide) (fun c => absurd c (by decide)) (fun _ => ?_)
                  refine zz_iconst (v := nI 1) hX dL_isStruck_356 rfl ?_
                  refine zz_goto hX 361 dL_isStruck_357 (by decide) ?_
                  refine zz_iret hX hr rfl (Nat.le_of_ble_eq_true rfl) (Nat.le_of_ble_eq_true rfl) dL_isStruck_361 ?_
                  exact ⟨rfl, ⟨_, ql_J_end hn (ql_W hI) (ql_B_mono (ql_BB hI) (by omega)) (ql_N_g hI.2.2.2 n3 hsm.1 (by unfold ql_gar; omega)) hR9 hS9⟩, ql_10 h10 hS9⟩
                refine zz_iload hX dL_isStruck_223 18 rfl ?_
                refine zz_iload hX dL_isStruck_225 17 rfl ?_
                refine zz_icmp_ltN hX (by omega) (by omega) 246 dL_isStruck_227 (by decide) (fun c227 => ?_) (fun c227 => ?_)
                · skip
                  refine zz_iconst (v := nI 0) hX dL_isStruck_246 rfl ?_
                  exact zz_top (rfl) K247
                · skip
                  refine zz_aload hX dL_isStruck_230 5 rfl ?_
                  refine zz_iload hX dL_isStruck_232 14 rfl ?_
                  refine zz_iload hX dL_isStruck_234 18 rfl ?_
                  refine zz_sI (x := zz_bi (zp_held S q f)) hX zf_M_L_91 (As := [.ref 104, .int (nI q), .int (nI f)]) (st := []) (Q_isHeld n S sh mi mr hI q (by omega) f (by omega)) rfl rfl (by decide) (Nat.le_of_ble_eq_true rfl) (Nat.le_of_ble_eq_true rfl) (Nat.le_of_ble_eq_true rfl) dL_isStruck_236 ?_
                  refine zz_if_neB hX 246 dL_isStruck_239 (by decide) (fun c239 => ?_) (fun c239 => absurd (⟨by omega, c239⟩) u2)
                  refine zz_iconst (v := nI 0) hX dL_isStruck_246 rfl ?_
                  exact zz_top (rfl) K247
            · skip
              refine zz_iload hX dL_isStruck_177 15 rfl ?_
              refine zz_if_eq hX 207 dL_isStruck_179 (by decide) (fun c => absurd c (by decide)) (fun _ => ?_)
              refine zz_iload hX dL_isStruck_182 19 rfl ?_
              refine zz_aload_n hX dL_isStruck_184 1 rfl rfl ?_
              refine zz_aload hX dL_isStruck_185 5 rfl ?_
              refine zz_iload hX dL_isStruck_187 14 rfl ?_
              refine zz_iald (x := nI (ql_hw S q)) hX (ql_s104 hI) q rfl (by omega) (by decide) ((ql_rd_h hI (by omega))) dL_isStruck_189 ?_
              refine zz_iconst (v := nI 4) hX dL_isStruck_190 rfl ?_
              refine zz_irem (z := nI (zv_pu S q)) hX dL_isStruck_191 (by decide) ((pk_rem (by omega) (by decide) (by decide)).trans (congrArg nI (ql_hw_pu hI (a := q) (by omega)))) ?_
              refine zz_iald (x := nI (zv_jn S (zv_pu S q))) hX (ql_s100 hI) (zv_pu S q) rfl (by omega) (by decide) ((ql_g100 hI (by omega))) dL_isStruck_192 ?_
              refine zz_icmp_geN hX (by omega) (by omega) 207 dL_isStruck_193 (by decide) (fun c193 => absurd c193 (by omega)) (fun c193 => ?_)
              refine zz_iload hX dL_isStruck_196 18 rfl ?_
              refine zz_iload hX dL_isStruck_198 16 rfl ?_
              refine zz_icmp_geN hX (by omega) (by omega) 207 dL_isStruck_200 (by decide) (fun c200 => absurd c200 (by omega)) (fun c200 => ?_)
              refine zz_iconst (v := nI 1) hX dL_isStruck_203 rfl ?_
              refine zz_goto hX 208 dL_isStruck_204 (by decide) ?_
              refine zz_istore (ls' := [(0, .ref 2), (1, .ref 100), (2, .ref 101), (3, .ref 102), (4, .ref 103), (5, .ref 104), (6, .ref 105), (7, .ref 106), (8, .ref 107), (9, .ref 108), (10, .ref 109), (11, .int (nI 0)), (12, .int (nI one)), (13, .int (nI two)), (14, .int (nI q)), (15, .int (nI 1)), (16, .int (nI (zv_fr S q))), (17, .int (nI (zv_sk S q))), (18, .int (nI f)), (19, .int (nI j)), (20, .int (nI d)), (21, .int (nI 1))]) hX dL_isStruck_208 (Nat.le_of_ble_eq_true rfl) rfl ?_
              refine zz_iload hX dL_isStruck_210 21 rfl ?_
              refine zz_if_eq hX 246 dL_isStruck_212 (by decide) (fun c => absurd c (by decide)) (fun _ => ?_)
              refine zz_iload hX dL_isStruck_215 20 rfl ?_
              refine zz_sipush (v := nI 360) hX dL_isStruck_217 rfl ?_
              refine zz_icmp_geN hX (by omega) (by decide) 246 dL_isStruck_220 (by decide) (fun c220 => ?_) (fun c220 => absurd c220 (by omega))
              refine zz_iconst (v := nI 0) hX dL_isStruck_246 rfl ?_
              refine zz_istore (ls' := [(0, .ref 2), (1, .ref 100), (2, .ref 101), (3, .ref 102), (4, .ref 103), (5, .ref 104), (6, .ref 105), (7, .ref 106), (8, .ref 107), (9, .ref 108), (10, .ref 109), (11, .int (nI 0)), (12, .int (nI one)), (13, .int (nI two)), (14, .int (nI q)), (15, .int (nI 1)), (16, .int (nI (zv_fr S q))), (17, .int (nI (zv_sk S q))), (18, .int (nI f)), (19, .int (nI j)), (20, .int (nI d)), (21, .int (nI 1)), (22, .int (nI 0))]) hX dL_isStruck_247 (Nat.le_of_ble_eq_true rfl) rfl ?_
              refine zz_iload hX dL_isStruck_249 21 rfl ?_
              refine zz_if_eq hX 270 dL_isStruck_251 (by decide) (fun c => absurd c (by decide)) (fun _ => ?_)
              refine zz_aload hX dL_isStruck_254 5 rfl ?_
              refine zz_aload hX dL_isStruck_256 6 rfl ?_
              refine zz_iload hX dL_isStruck_258 14 rfl ?_
              refine zz_iload hX dL_isStruck_260 19 rfl ?_
              refine zz_iload hX dL_isStruck_262 18 rfl ?_
              refine zz_sI (x := zp_deg S q j f) hX zf_M_L_120 (As := [.ref 104, .ref 105, .int (nI q), .int (nI j), .int (nI f)]) (st := []) (Q_degree n S sh mi mr hI q (by omega) j (by omega) f (by omega)) rfl rfl (by decide) (Nat.le_of_ble_eq_true rfl) (Nat.le_of_ble_eq_true rfl) (Nat.le_of_ble_eq_true rfl) dL_isStruck_264 ?_
              refine zz_goto hX 271 dL_isStruck_267 (by decide) ?_
              refine zz_istore (ls' := [(0, .ref 2), (1, .ref 100), (2, .ref 101), (3, .ref 102), (4, .ref 103), (5, .ref 104), (6, .ref 105), (7, .ref 106), (8, .ref 107), (9, .ref 108), (10, .ref 109), (11, .int (nI 0)), (12, .int (nI one)), (13, .int (nI two)), (14, .int (nI q)), (15, .int (nI 1)), (16, .int (nI (zv_fr S q))), (17, .int (nI (zv_sk S q))), (18, .int (nI f)), (19, .int (nI j)), (20, .int (nI d)), (21, .int (nI 1)), (22, .int (nI 0)), (23, .int (zp_deg S q j f))]) hX dL_isStruck_271 (Nat.le_of_ble_eq_true rfl) rfl ?_
              refine zz_aload hX dL_isStruck_273 6 rfl ?_
              refine zz_iload hX dL_isStruck_275 22 rfl ?_
              refine zz_if_eq hX 297 dL_isStruck_277 (by decide) (fun _ => ?_) (fun c => absurd c (by decide))
              refine zz_bipush (v := nI 54) hX dL_isStruck_297 rfl ?_
              refine zz_iload hX dL_isStruck_299 20 rfl ?_
              refine zz_iconst (v := nI 1) hX dL_isStruck_301 rfl ?_
              refine zz_iadd (z := nI (d + 1)) hX dL_isStruck_302 (nI_add _ _) ?_
              refine zz_iast hX (ql_s105 hI) 54 rfl (by decide) (by decide) dL_isStruck_303 ?_
              refine zz_aload_n hX dL_isStruck_304 0 rfl rfl ?_
              refine zz_bipush (v := nI 8) hX dL_isStruck_305 rfl ?_
              refine zz_iload hX dL_isStruck_307 14 rfl ?_
              refine zz_iload hX dL_isStruck_309 19 rfl ?_
              refine zz_iload hX dL_isStruck_311 18 rfl ?_
              refine zz_iload hX dL_isStruck_313 20 rfl ?_
              have hA9 : zs_ix (nI q) (zv_ns S) ∧ zs_ix (nI j) (zv_jn S (zv_pu S (zn (nI q)))) ∧ zs_ix (nI f) (zv_fr S (zn (nI q))) := by rw [z_q]; exact ⟨zs_ix_nI g0 (by omega), zs_ix_nI u0.1 (by omega), zs_ix_nI u0.2 (by omega)⟩
              refine zz_callSH hX zf_M_L_161 (As := [.ref 2, .int (nI 8), .int (nI q), .int (nI j), .int (nI f), .int (nI d)]) (st := []) (D_key S sh (zm_u2 mi 105 54 (nI (d + 1))) mr (ql_W hI) (ql_R_f (ql_W hI) hR (M := (zm_u2 mi 105 54 (nI (d + 1)))) (fun l hl => zm_u2r (by omega))) (nI q) (nI j) (nI f) (nI d)) rfl rfl (by decide) (Nat.le_of_ble_eq_true rfl) (Nat.le_of_ble_eq_true rfl) (Nat.le_of_ble_eq_true rfl) dL_isStruck_315 ?_ (fun _ _ _ _ h _ => h.elim)
              rintro v9 s9 i9 m9 ⟨k9, rfl, hk9, hS9⟩ -
              obtain ⟨e9, hR9⟩ := zq_d3 hk9 hA9 (fun h => by have h1 := (zs_r2 (x := d) (by omega)).mp h; omega)
              obtain rfl := e9.symm
              refine zz_iload hX dL_isStruck_318 21 rfl ?_
              refine zz_if_ne hX 328 dL_isStruck_320 (by decide) (fun _ => ?_) (fun c => absurd c (by decide))
              refine zz_iload hX dL_isStruck_328 20 rfl ?_
              refine zz_sipush (v := nI 360) hX dL_isStruck_330 rfl ?_
              refine zz_icmp_neN hX (by omega) (by decide) 341 dL_isStruck_333 (by decide) (fun c333 => absurd c333 (by omega)) (fun c333 => ?_)
              refine zz_ldc (v := -2000000) hX zw_con_L_87 dL_isStruck_336 ?_
              refine zz_goto hX 353 dL_isStruck_338 (by decide) ?_
              refine zz_icmp_ne hX 360 dL_isStruck_353 (by decide) (fun c => absurd c (by decide)) (fun _ => ?_)
              refine zz_iconst (v := nI 1) hX dL_isStruck_356 rfl ?_
              refine zz_goto hX 361 dL_isStruck_357 (by decide) ?_
              refine zz_iret hX hr rfl (Nat.le_of_ble_eq_true rfl) (Nat.le_of_ble_eq_true rfl) dL_isStruck_361 ?_
              exact ⟨rfl, ⟨_, ql_J_end hn (ql_W hI) (ql_B_mono (ql_BB hI) (by omega)) (ql_N_g hI.2.2.2 n3 hsm.1 (by unfold ql_gar; omega)) hR9 hS9⟩, ql_10 h10 hS9⟩
          · skip
            refine zz_iload hX dL_isStruck_177 15 rfl ?_
            refine zz_if_eq hX 207 dL_isStruck_179 (by decide) (fun c => absurd c (by decide)) (fun _ => ?_)
            have K208 : zz Γ (D, E, 24, ad, sh) (zz_End Γ (D, E, 24, ad, sh) (ql_T n) zz_none 10 60) 0 0 sh mi mr 208 [(0, .ref 2), (1, .ref 100), (2, .ref 101), (3, .ref 102), (4, .ref 103), (5, .ref 104), (6, .ref 105), (7, .ref 106), (8, .ref 107), (9, .ref 108), (10, .ref 109), (11, .int (nI 0)), (12, .int (nI one)), (13, .int (nI two)), (14, .int (nI q)), (15, .int (nI 1)), (16, .int (nI (zv_fr S q))), (17, .int (nI (zv_sk S q))), (18, .int (nI f)), (19, .int (nI j)), (20, .int (nI d))] [.int (nI 0)] := by
              refine zz_istore (ls' := [(0, .ref 2), (1, .ref 100), (2, .ref 101), (3, .ref 102), (4, .ref 103), (5, .ref 104), (6, .ref 105), (7, .ref 106), (8, .ref 107), (9, .ref 108), (10, .ref 109), (11, .int (nI 0)), (12, .int (nI one)), (13, .int (nI two)), (14, .int (nI q)), (15, .int (nI 1)), (16, .int (nI (zv_fr S q))), (17, .int (nI (zv_sk S q))), (18, .int (nI f)), (19, .int (nI j)), (20, .int (nI d)), (21, .int (nI 0))]) hX dL_isStruck_208 (Nat.le_of_ble_eq_true rfl) rfl ?_
              refine zz_iload hX dL_isStruck_210 21 rfl ?_
              refine zz_if_eq hX 246 dL_isStruck_212 (by decide) (fun _ => ?_) (fun c => absurd c (by decide))
              refine zz_iconst (v := nI 0) hX dL_isStruck_246 rfl ?_
              refine zz_istore (ls' := [(0, .ref 2), (1, .ref 100), (2, .ref 101), (3, .ref 102), (4, .ref 103), (5, .ref 104), (6, .ref 105), (7, .ref 106), (8, .ref 107), (9, .ref 108), (10, .ref 109), (11, .int (nI 0)), (12, .int (nI one)), (13, .int (nI two)), (14, .int (nI q)), (15, .int (nI 1)), (16, .int (nI (zv_fr S q))), (17, .int (nI (zv_sk S q))), (18, .int (nI f)), (19, .int (nI j)), (20, .int (nI d)), (21, .int (nI 0)), (22, .int (nI 0))]) hX dL_isStruck_247 (Nat.le_of_ble_eq_true rfl) rfl ?_
              refine zz_iload hX dL_isStruck_249 21 rfl ?_
              refine zz_if_eq hX 270 dL_isStruck_251 (by decide) (fun _ => ?_) (fun c => absurd c (by decide))
              refine zz_iconst (v := nI 0) hX dL_isStruck_270 rfl ?_
              refine zz_istore (ls' := [(0, .ref 2), (1, .ref 100), (2, .ref 101), (3, .ref 102), (4, .ref 103), (5, .ref 104), (6, .ref 105), (7, .ref 106), (8, .ref 107), (9, .ref 108), (10, .ref 109), (11, .int (nI 0)), (12, .int (nI one)), (13, .int (nI two)), (14, .int (nI q)), (15, .int (nI 1)), (16, .int (nI (zv_fr S q))), (17, .int (nI (zv_sk S q))), (18, .int (nI f)), (19, .int (nI j)), (20, .int (nI d)), (21, .int (nI 0)), (22, .int (nI 0)), (23, .int (nI 0))]) hX dL_isStruck_271 (Nat.le_of_ble_eq_true rfl) rfl ?_
              refine zz_aload hX dL_isStruck_273 6 rfl ?_
              refine zz_iload hX dL_isStruck_275 22 rfl ?_
              refine zz_if_eq hX 297 dL_isStruck_277 (by decide) (fun _ => ?_) (fun c => absurd c (by decide))
              refine zz_bipush (v := nI 54) hX dL_isStruck_297 rfl ?_
              refine zz_iload hX dL_isStruck_299 20 rfl ?_
              refine zz_iconst (v := nI 1) hX dL_isStruck_301 rfl ?_
              refine zz_iadd (z := nI (d + 1)) hX dL_isStruck_302 (nI_add _ _) ?_
              refine zz_iast hX (ql_s105 hI) 54 rfl (by decide) (by decide) dL_isStruck_303 ?_
              refine zz_aload_n hX dL_isStruck_304 0 rfl rfl ?_
              refine zz_bipush (v := nI 8) hX dL_isStruck_305 rfl ?_
              refine zz_iload hX dL_isStruck_307 14 rfl ?_
              refine zz_iload hX dL_isStruck_309 19 rfl ?_
              refine zz_iload hX dL_isStruck_311 18 rfl ?_
              refine zz_iload hX dL_isStruck_313 20 rfl ?_
              refine zz_callSH hX zf_M_L_161 (As := [.ref 2, .int (nI 8), .int (nI q), .int (nI j), .int (nI f), .int (nI d)]) (st := []) (D_key S sh (zm_u2 mi 105 54 (nI (d + 1))) mr (ql_W hI) (ql_R_f (ql_W hI) hR (M := (zm_u2 mi 105 54 (nI (d + 1)))) (fun l hl => zm_u2r (by omega))) (nI q) (nI j) (nI f) (nI d)) rfl rfl (by decide) (Nat.le_of_ble_eq_true rfl) (Nat.le_of_ble_eq_true rfl) (Nat.le_of_ble_eq_true rfl) dL_isStruck_315 ?_ (fun _ _ _ _ h _ => h.elim)
              rintro v9 s9 i9 m9 ⟨k9, rfl, hk9, hS9⟩ -
              obtain ⟨e9, hR9⟩ := zq_d2 hk9 (fun h => by rw [z_q] at h; exact u0 ⟨zs_ixl h.2.1 (by omega), zs_ixl h.2.2 (by omega)⟩)
              obtain rfl := e9.symm
              refine zz_iload hX dL_isStruck_318 21 rfl ?_
              refine zz_if_ne hX 328 dL_isStruck_320 (by decide) (fun c => absurd c (by decide)) (fun _ => ?_)
              refine zz_ldc (v := -3000000) hX zw_con_L_84 dL_isStruck_323 ?_
              refine zz_goto hX 353 dL_isStruck_325 (by decide) ?_
              refine zz_icmp_ne hX 360 dL_isStruck_353 (by decide) (fun c => absurd c (by decide)) (fun _ => ?_)
              refine zz_iconst (v := nI 1) hX dL_isStruck_356 rfl ?_
              refine zz_goto hX 361 dL_isStruck_357 (by decide) ?_
              refine zz_iret hX hr rfl (Nat.le_of_ble_eq_true rfl) (Nat.le_of_ble_eq_true rfl) dL_isStruck_361 ?_
              exact ⟨rfl, ⟨_, ql_J_end hn (ql_W hI) (ql_B_mono (ql_BB hI) (by omega)) (ql_N_g hI.2.2.2 n3 hsm.1 (by unfold ql_gar; omega)) hR9 hS9⟩, ql_10 h10 hS9⟩
            refine zz_iload hX dL_isStruck_182 19 rfl ?_
            refine zz_aload_n hX dL_isStruck_184 1 rfl rfl ?_
            refine zz_aload hX dL_isStruck_185 5 rfl ?_
            refine zz_iload hX dL_isStruck_187 14 rfl ?_
            refine zz_iald (x := nI (ql_hw S q)) hX (ql_s104 hI) q rfl (by omega) (by decide) ((ql_rd_h hI (by omega))) dL_isStruck_189 ?_
            refine zz_iconst (v := nI 4) hX dL_isStruck_190 rfl ?_
            refine zz_irem (z := nI (zv_pu S q)) hX dL_isStruck_191 (by decide) ((pk_rem (by omega) (by decide) (by decide)).trans (congrArg nI (ql_hw_pu hI (a := q) (by omega)))) ?_
            refine zz_iald (x := nI (zv_jn S (zv_pu S q))) hX (ql_s100 hI) (zv_pu S q) rfl (by omega) (by decide) ((ql_g100 hI (by omega))) dL_isStruck_192 ?_
            refine zz_icmp_geN hX (by omega) (by omega) 207 dL_isStruck_193 (by decide) (fun c193 => ?_) (fun c193 => ?_)
            · skip
              refine zz_iconst (v := nI 0) hX dL_isStruck_207 rfl ?_
              exact zz_top (rfl) K208
            · skip
              refine zz_iload hX dL_isStruck_196 18 rfl ?_
              refine zz_iload hX dL_isStruck_198 16 rfl ?_
              refine zz_icmp_geN hX (by omega) (by omega) 207 dL_isStruck_200 (by decide) (fun c200 => ?_) (fun c200 => absurd c200 (by omega))
              refine zz_iconst (v := nI 0) hX dL_isStruck_207 rfl ?_
              exact zz_top (rfl) K208
        refine zz_iload hX dL_isStruck_142 13 rfl ?_
        refine zz_bipush (v := nI 36) hX dL_isStruck_144 rfl ?_
        refine zz_idiv (z := nI (two / 36)) hX dL_isStruck_146 (by decide) (pk_div (by omega) (by decide) (by decide)) ?_
        refine zz_bipush (v := nI 9) hX dL_isStruck_147 rfl ?_
        refine zz_irem (z := nI ((two / 36) % 9)) hX dL_isStruck_149 (by decide) (pk_rem (by omega) (by decide) (by decide)) ?_
        refine zz_if_neN hX (by omega) 166 dL_isStruck_150 (by decide) (fun c150 => ?_) (fun c150 => ?_)
        · skip
          refine zz_iload hX dL_isStruck_166 13 rfl ?_
          refine zz_bipush (v := nI 36) hX dL_isStruck_168 rfl ?_
          refine zz_idiv (z := nI (two / 36)) hX dL_isStruck_170 (by decide) (pk_div (by omega) (by decide) (by decide)) ?_
          refine zz_sipush (v := nI 360) hX dL_isStruck_171 rfl ?_
          refine zz_irem (z := nI ((two / 36) % 360)) hX dL_isStruck_174 (by decide) (pk_rem (by omega) (by decide) (by decide)) ?_
          exact K175 ((two / 36) % 360) (by omega)
        · skip
          refine zz_iload hX dL_isStruck_153 13 rfl ?_
          refine zz_sipush (v := nI 324) hX dL_isStruck_155 rfl ?_
          refine zz_idiv (z := nI (two / 324)) hX dL_isStruck_158 (by decide) (pk_div (by omega) (by decide) (by decide)) ?_
          refine zz_sipush (v := nI 361) hX dL_isStruck_159 rfl ?_
          refine zz_irem (z := nI ((two / 324) % 361)) hX dL_isStruck_162 (by decide) (pk_rem (by omega) (by decide) (by decide)) ?_
          refine zz_goto hX 175 dL_isStruck_163 (by decide) ?_
          exact K175 ((two / 324) % 361) (by omega)
      refine zz_iload hX dL_isStruck_119 13 rfl ?_
      refine zz_iconst (v := nI 4) hX dL_isStruck_121 rfl ?_
      refine zz_idiv (z := nI (two / 4)) hX dL_isStruck_122 (by decide) (pk_div (by omega) (by decide) (by decide)) ?_
      refine zz_bipush (v := nI 9) hX dL_isStruck_123 rfl ?_
      refine zz_irem (z := nI ((two / 4) % 9)) hX dL_isStruck_125 (by decide) (pk_rem (by omega) (by decide) (by decide)) ?_
      refine zz_if_neN hX (by omega) 133 dL_isStruck_126 (by decide) (fun c126 => ?_) (fun c126 => ?_)
      · skip
        refine zz_iconst (v := nI 0) hX dL_isStruck_133 rfl ?_
        exact K134 0 (by omega)
      · skip
        refine zz_iconst (v := nI 1) hX dL_isStruck_129 rfl ?_
        refine zz_goto hX 134 dL_isStruck_130 (by decide) ?_
        exact K134 1 (by omega)
    refine zz_iload hX dL_isStruck_63 12 rfl ?_
    refine zz_iconst (v := nI 4) hX dL_isStruck_65 rfl ?_
    refine zz_idiv (z := nI (one / 4)) hX dL_isStruck_66 (by decide) (pk_div (by omega) (by decide) (by decide)) ?_
    refine zz_bipush (v := nI 9) hX dL_isStruck_67 rfl ?_
    refine zz_irem (z := nI ((one / 4) % 9)) hX dL_isStruck_69 (by decide) (pk_rem (by omega) (by decide) (by decide)) ?_
    refine zz_bipush (v := nI 8) hX dL_isStruck_70 rfl ?_
    refine zz_icmp_neN hX (by omega) (by decide) 80 dL_isStruck_72 (by decide) (fun c72 => ?_) (fun c72 => ?_)
    · skip
      refine zz_iload hX dL_isStruck_80 16 rfl ?_
      refine zz_if_neN hX (by omega) 89 dL_isStruck_82 (by decide) (fun c82 => ?_) (fun c82 => absurd c82 (by omega))
      refine zz_iload hX dL_isStruck_89 12 rfl ?_
      refine zz_iconst (v := nI 4) hX dL_isStruck_91 rfl ?_
      refine zz_idiv (z := nI (one / 4)) hX dL_isStruck_92 (by decide) (pk_div (by omega) (by decide) (by decide)) ?_
      refine zz_iload hX dL_isStruck_93 16 rfl ?_
      refine zz_irem (z := nI ((one / 4) % (zv_fr S q))) hX dL_isStruck_95 (nI_ne0 (by omega) (by omega)) (pk_rem (by omega) (by omega) (by omega)) ?_
      exact K96 ((one / 4) % (zv_fr S q)) (by first | omega | exact Nat.le_of_lt (Nat.mod_lt _ (by omega)))
    · skip
      refine zz_iload hX dL_isStruck_75 16 rfl ?_
      refine zz_goto hX 96 dL_isStruck_77 (by decide) ?_
      exact K96 (zv_fr S q) (by first | omega | exact Nat.le_of_lt (Nat.mod_lt _ (by omega)))
  · skip
    refine zz_iload hX dL_isStruck_11 14 rfl ?_
    refine zz_aload hX dL_isStruck_13 10 rfl ?_
    refine zz_iconst (v := nI 2) hX dL_isStruck_15 rfl ?_
    refine zz_iald (x := nI (zv_ns S)) hX (ql_s109 hI) 2 rfl (by decide) (by decide) ((ql_g2 hI)) dL_isStruck_16 ?_
    refine zz_icmp_geN hX (by omega) (by omega) 24 dL_isStruck_17 (by decide) (fun c17 => ?_) (fun c17 => absurd c17 (by omega))
    refine zz_iconst (v := nI 0) hX dL_isStruck_24 rfl ?_
    refine zz_istore (ls' := [(0, .ref 2), (1, .ref 100), (2, .ref 101), (3, .ref 102), (4, .ref 103), (5, .ref 104), (6, .ref 105), (7, .ref 106), (8, .ref 107), (9, .ref 108), (10, .ref 109), (11, .int (nI 0)), (12, .int (nI one)), (13, .int (nI two)), (14, .int (nI q)), (15, .int (nI 0))]) hX dL_isStruck_25 (Nat.le_of_ble_eq_true rfl) rfl ?_
    refine zz_iload hX dL_isStruck_27 15 rfl ?_
    refine zz_if_eq hX 42 dL_isStruck_29 (by decide) (fun _ => ?_) (fun c => absurd c (by decide))
    refine zz_iconst (v := nI 0) hX dL_isStruck_42 rfl ?_
    refine zz_istore (ls' := [(0, .ref 2), (1, .ref 100), (2, .ref 101), (3, .ref 102), (4, .ref 103), (5, .ref 104), (6, .ref 105), (7, .ref 106), (8, .ref 107), (9, .ref 108), (10, .ref 109), (11, .int (nI 0)), (12, .int (nI one)), (13, .int (nI two)), (14, .int (nI q)), (15, .int (nI 0)), (16, .int (nI 0))]) hX dL_isStruck_43 (Nat.le_of_ble_eq_true rfl) rfl ?_
    refine zz_iload hX dL_isStruck_45 15 rfl ?_
    refine zz_if_eq hX 60 dL_isStruck_47 (by decide) (fun _ => ?_) (fun c => absurd c (by decide))
    refine zz_iconst (v := nI 0) hX dL_isStruck_60 rfl ?_
    refine zz_istore (ls' := [(0, .ref 2), (1, .ref 100), (2, .ref 101), (3, .ref 102), (4, .ref 103), (5, .ref 104), (6, .ref 105), (7, .ref 106), (8, .ref 107), (9, .ref 108), (10, .ref 109), (11, .int (nI 0)), (12, .int (nI one)), (13, .int (nI two)), (14, .int (nI q)), (15, .int (nI 0)), (16, .int (nI 0)), (17, .int (nI 0))]) hX dL_isStruck_61 (Nat.le_of_ble_eq_true rfl) rfl ?_
    have K96 : zz Γ (D, E, 24, ad, sh) (zz_End Γ (D, E, 24, ad, sh) (ql_T n) zz_none 10 60) 0 0 sh mi mr 96 [(0, .ref 2), (1, .ref 100), (2, .ref 101), (3, .ref 102), (4, .ref 103), (5, .ref 104), (6, .ref 105), (7, .ref 106), (8, .ref 107), (9, .ref 108), (10, .ref 109), (11, .int (nI 0)), (12, .int (nI one)), (13, .int (nI two)), (14, .int (nI q)), (15, .int (nI 0)), (16, .int (nI 0)), (17, .int (nI 0))] [.int (nI 0)] := by
      refine zz_istore (ls' := [(0, .ref 2), (1, .ref 100), (2, .ref 101), (3, .ref 102), (4, .ref 103), (5, .ref 104), (6, .ref 105), (7, .ref 106), (8, .ref 107), (9, .ref 108), (10, .ref 109), (11, .int (nI 0)), (12, .int (nI one)), (13, .int (nI two)), (14, .int (nI q)), (15, .int (nI 0)), (16, .int (nI 0)), (17, .int (nI 0)), (18, .int (nI 0))]) hX dL_isStruck_96 (Nat.le_of_ble_eq_true rfl) rfl ?_
      refine zz_iload hX dL_isStruck_98 11 rfl ?_
      refine zz_if_ne hX 362 dL_isStruck_100 (by decide) (fun c => absurd c (by decide)) (fun _ => ?_)
      refine zz_iload hX dL_isStruck_103 15 rfl ?_
      refine zz_if_eq hX 139 dL_isStruck_105 (by decide) (fun _ => ?_) (fun c => absurd c (by decide))
      refine zz_iconst (v := nI 0) hX dL_isStruck_139 rfl ?_
      refine zz_istore (ls' := [(0, .ref 2), (1, .ref 100), (2, .ref 101), (3, .ref 102), (4, .ref 103), (5, .ref 104), (6, .ref 105), (7, .ref 106), (8, .ref 107), (9, .ref 108), (10, .ref 109), (11, .int (nI 0)), (12, .int (nI one)), (13, .int (nI two)), (14, .int (nI q)), (15, .int (nI 0)), (16, .int (nI 0)), (17, .int (nI 0)), (18, .int (nI 0)), (19, .int (nI 0))]) hX dL_isStruck_140 (Nat.le_of_ble_eq_true rfl) rfl ?_
      have K175 : ∀ d : Nat, d ≤ 360 → zz Γ (D, E, 24, ad, sh) (zz_End Γ (D, E, 24, ad, sh) (ql_T n) zz_none 10 60) 0 0 sh mi mr 175 [(0, .ref 2), (1, .ref 100), (2, .ref 101), (3, .ref 102), (4, .ref 103), (5, .ref 104), (6, .ref 105), (7, .ref 106), (8, .ref 107), (9, .ref 108), (10, .ref 109), (11, .int (nI 0)), (12, .int (nI one)), (13, .int (nI two)), (14, .int (nI q)), (15, .int (nI 0)), (16, .int (nI 0)), (17, .int (nI 0)), (18, .int (nI 0)), (19, .int (nI 0))] [.int (nI d)] := by
        intro d hd
        refine zz_istore (ls' := [(0, .ref 2), (1, .ref 100), (2, .ref 101), (3, .ref 102), (4, .ref 103), (5, .ref 104), (6, .ref 105), (7, .ref 106), (8, .ref 107), (9, .ref 108), (10, .ref 109), (11, .int (nI 0)), (12, .int (nI one)), (13, .int (nI two)), (14, .int (nI q)), (15, .int (nI 0)), (16, .int (nI 0)), (17, .int (nI 0)), (18, .int (nI 0)), (19, .int (nI 0)), (20, .int (nI d))]) hX dL_isStruck_175 (Nat.le_of_ble_eq_true rfl) rfl ?_
        refine zz_iload hX dL_isStruck_177 15 rfl ?_
        refine zz_if_eq hX 207 dL_isStruck_179 (by decide) (fun _ => ?_) (fun c => absurd c (by decide))
        refine zz_iconst (v := nI 0) hX dL_isStruck_207 rfl ?_
        refine zz_istore (ls' := [(0, .ref 2), (1, .ref 100), (2, .ref 101), (3, .ref 102), (4, .ref 103), (5, .ref 104), (6, .ref 105), (7, .ref 106), (8, .ref 107), (9, .ref 108), (10, .ref 109), (11, .int (nI 0)), (12, .int (nI one)), (13, .int (nI two)), (14, .int (nI q)), (15, .int (nI 0)), (16, .int (nI 0)), (17, .int (nI 0)), (18, .int (nI 0)), (19, .int (nI 0)), (20, .int (nI d)), (21, .int (nI 0))]) hX dL_isStruck_208 (Nat.le_of_ble_eq_true rfl) rfl ?_
        refine zz_iload hX dL_isStruck_210 21 rfl ?_
        refine zz_if_eq hX 246 dL_isStruck_212 (by decide) (fun _ => ?_) (fun c => absurd c (by decide))
        refine zz_iconst (v := nI 0) hX dL_isStruck_246 rfl ?_
        refine zz_istore (ls' := [(0, .ref 2), (1, .ref 100), (2, .ref 101), (3, .ref 102), (4, .ref 103), (5, .ref 104), (6, .ref 105), (7, .ref 106), (8, .ref 107), (9, .ref 108), (10, .ref 109), (11, .int (nI 0)), (12, .int (nI one)), (13, .int (nI two)), (14, .int (nI q)), (15, .int (nI 0)), (16, .int (nI 0)), (17, .int (nI 0)), (18, .int (nI 0)), (19, .int (nI 0)), (20, .int (nI d)), (21, .int (nI 0)), (22, .int (nI 0))]) hX dL_isStruck_247 (Nat.le_of_ble_eq_true rfl) rfl ?_
        refine zz_iload hX dL_isStruck_249 21 rfl ?_
        refine zz_if_eq hX 270 dL_isStruck_251 (by decide) (fun _ => ?_) (fun c => absurd c (by decide))
        refine zz_iconst (v := nI 0) hX dL_isStruck_270 rfl ?_
        refine zz_istore (ls' := [(0, .ref 2), (1, .ref 100), (2, .ref 101), (3, .ref 102), (4, .ref 103), (5, .ref 104), (6, .ref 105), (7, .ref 106), (8, .ref 107), (9, .ref 108), (10, .ref 109), (11, .int (nI 0)), (12, .int (nI one)), (13, .int (nI two)), (14, .int (nI q)), (15, .int (nI 0)), (16, .int (nI 0)), (17, .int (nI 0)), (18, .int (nI 0)), (19, .int (nI 0)), (20, .int (nI d)), (21, .int (nI 0)), (22, .int (nI 0)), (23, .int (nI 0))]) hX dL_isStruck_271 (Nat.le_of_ble_eq_true rfl) rfl ?_
        refine zz_aload hX dL_isStruck_273 6 rfl ?_
        refine zz_iload hX dL_isStruck_275 22 rfl ?_
        refine zz_if_eq hX 297 dL_isStruck_277 (by decide) (fun _ => ?_) (fun c => absurd c (by decide))
        refine zz_bipush (v := nI 54) hX dL_isStruck_297 rfl ?_
        refine zz_iload hX dL_isStruck_299 20 rfl ?_
        refine zz_iconst (v := nI 1) hX dL_isStruck_301 rfl ?_
        refine zz_iadd (z := nI (d + 1)) hX dL_isStruck_302 (nI_add _ _) ?_
        refine zz_iast hX (ql_s105 hI) 54 rfl (by decide) (by decide) dL_isStruck_303 ?_
        refine zz_aload_n hX dL_isStruck_304 0 rfl rfl ?_
        refine zz_bipush (v := nI 8) hX dL_isStruck_305 rfl ?_
        refine zz_iload hX dL_isStruck_307 14 rfl ?_
        refine zz_iload hX dL_isStruck_309 19 rfl ?_
        refine zz_iload hX dL_isStruck_311 18 rfl ?_
        refine zz_iload hX dL_isStruck_313 20 rfl ?_
        refine zz_callSH hX zf_M_L_161 (As := [.ref 2, .int (nI 8), .int (nI q), .int (nI 0), .int (nI 0), .int (nI d)]) (st := []) (D_key S sh (zm_u2 mi 105 54 (nI (d + 1))) mr (ql_W hI) (ql_R_f (ql_W hI) hR (M := (zm_u2 mi 105 54 (nI (d + 1)))) (fun l hl => zm_u2r (by omega))) (nI q) (nI 0) (nI 0) (nI d)) rfl rfl (by decide) (Nat.le_of_ble_eq_true rfl) (Nat.le_of_ble_eq_true rfl) (Nat.le_of_ble_eq_true rfl) dL_isStruck_315 ?_ (fun _ _ _ _ h _ => h.elim)
        rintro v9 s9 i9 m9 ⟨k9, rfl, hk9, hS9⟩ -
        obtain ⟨e9, hR9⟩ := zq_d2 hk9 (fun h => g0 (zs_ixl h.1 (by omega)))
        obtain rfl := e9.symm
        refine zz_iload hX dL_isStruck_318 21 rfl ?_
        refine zz_if_ne hX 328 dL_isStruck_320 (by decide) (fun c => absurd c (by decide)) (fun _ => ?_)
        refine zz_ldc (v := -3000000) hX zw_con_L_84 dL_isStruck_323 ?_
        refine zz_goto hX 353 dL_isStruck_325 (by decide) ?_
        refine zz_icmp_ne hX 360 dL_isStruck_353 (by decide) (fun c => absurd c (by decide)) (fun _ => ?_)
        refine zz_iconst (v := nI 1) hX dL_isStruck_356 rfl ?_
        refine zz_goto hX 361 dL_isStruck_357 (by decide) ?_
        refine zz_iret hX hr rfl (Nat.le_of_ble_eq_true rfl) (Nat.le_of_ble_eq_true rfl) dL_isStruck_361 ?_
        exact ⟨rfl, ⟨_, ql_J_end hn (ql_W hI) (ql_B_mono (ql_BB hI) (by omega)) (ql_N_g hI.2.2.2 n3 hsm.1 (by unfold ql_gar; omega)) hR9 hS9⟩, ql_10 h10 hS9⟩
      refine zz_iload hX dL_isStruck_142 13 rfl ?_
      refine zz_bipush (v := nI 36) hX dL_isStruck_144 rfl ?_
      refine zz_idiv (z := nI (two / 36)) hX dL_isStruck_146 (by decide) (pk_div (by omega) (by decide) (by decide)) ?_
      refine zz_bipush (v := nI 9) hX dL_isStruck_147 rfl ?_
      refine zz_irem (z := nI ((two / 36) % 9)) hX dL_isStruck_149 (by decide) (pk_rem (by omega) (by decide) (by decide)) ?_
      refine zz_if_neN hX (by omega) 166 dL_isStruck_150 (by decide) (fun c150 => ?_) (fun c150 => ?_)
      · skip
        refine zz_iload hX dL_isStruck_166 13 rfl ?_
        refine zz_bipush (v := nI 36) hX dL_isStruck_168 rfl ?_
        refine zz_idiv (z := nI (two / 36)) hX dL_isStruck_170 (by decide) (pk_div (by omega) (by decide) (by decide)) ?_
        refine zz_sipush (v := nI 360) hX dL_isStruck_171 rfl ?_
        refine zz_irem (z := nI ((two / 36) % 360)) hX dL_isStruck_174 (by decide) (pk_rem (by omega) (by decide) (by decide)) ?_
        exact K175 ((two / 36) % 360) (by omega)
      · skip
        refine zz_iload hX dL_isStruck_153 13 rfl ?_
        refine zz_sipush (v := nI 324) hX dL_isStruck_155 rfl ?_
        refine zz_idiv (z := nI (two / 324)) hX dL_isStruck_158 (by decide) (pk_div (by omega) (by decide) (by decide)) ?_
        refine zz_sipush (v := nI 361) hX dL_isStruck_159 rfl ?_
        refine zz_irem (z := nI ((two / 324) % 361)) hX dL_isStruck_162 (by decide) (pk_rem (by omega) (by decide) (by decide)) ?_
        refine zz_goto hX 175 dL_isStruck_163 (by decide) ?_
        exact K175 ((two / 324) % 361) (by omega)
    refine zz_iload hX dL_isStruck_63 12 rfl ?_
    refine zz_iconst (v := nI 4) hX dL_isStruck_65 rfl ?_
    refine zz_idiv (z := nI (one / 4)) hX dL_isStruck_66 (by decide) (pk_div (by omega) (by decide) (by decide)) ?_
    refine zz_bipush (v := nI 9) hX dL_isStruck_67 rfl ?_
    refine zz_irem (z := nI ((one / 4) % 9)) hX dL_isStruck_69 (by decide) (pk_rem (by omega) (by decide) (by decide)) ?_
    refine zz_bipush (v := nI 8) hX dL_isStruck_70 rfl ?_
    refine zz_icmp_neN hX (by omega) (by decide) 80 dL_isStruck_72 (by decide) (fun c72 => ?_) (fun c72 => ?_)
    · skip
      refine zz_iload hX dL_isStruck_80 16 rfl ?_
      refine zz_if_ne hX 89 dL_isStruck_82 (by decide) (fun c => absurd c (by decide)) (fun _ => ?_)
      refine zz_iconst (v := nI 0) hX dL_isStruck_85 rfl ?_
      refine zz_goto hX 96 dL_isStruck_86 (by decide) ?_
      exact zz_top (rfl) K96
    · skip
      refine zz_iload hX dL_isStruck_75 16 rfl ?_
      refine zz_goto hX 96 dL_isStruck_77 (by decide) ?_
      exact zz_top (rfl) K96

set_option maxHeartbeats 1000000 in
set_option maxRecDepth 20000 in
theorem S_camera (n : Nat) (hn : n + 1 ≤ 64) (S : zS) (sh : zm_Sh) (mi : zm_Mi) (mr : zm_Mr) (hI : ql_I n S sh mi) (hR : zR S sh mi mr) (h10 : sh 10 = some (9, 0)) (one two : Nat) (ho : one < 60000) (ht : two < 60000)  : zz_Con yL_isStruck (.code yL_isStruck cL_isStruck 24 (some Jvm.ClassFile.FieldType.boolean)) 12 10 60 [.ref 2, .ref 100, .ref 101, .ref 102, .ref 103, .ref 104, .ref 105, .ref 106, .ref 107, .ref 108, .ref 109, .int (nI 1), .int (nI one), .int (nI two)] sh mi mr (ql_T n) zz_none := by
  refine zz_begin RL [(0, .ref 2), (1, .ref 100), (2, .ref 101), (3, .ref 102), (4, .ref 103), (5, .ref 104), (6, .ref 105), (7, .ref 106), (8, .ref 107), (9, .ref 108), (10, .ref 109), (11, .int (nI 1)), (12, .int (nI one)), (13, .int (nI two))] (by decide) rfl rfl (Nat.le_of_ble_eq_true rfl) rfl ?_
  intro Γ D E ad hX hr hN hT
  obtain ⟨n1, n2, n3, n4⟩ := ql_num hI
  have hsm := ql_small hI
  refine zz_iload hX dL_isStruck_0 12 rfl ?_
  refine zz_aload hX dL_isStruck_2 10 rfl ?_
  refine zz_iconst (v := nI 2) hX dL_isStruck_4 rfl ?_
  refine zz_iald (x := nI (zv_ns S)) hX (ql_s109 hI) 2 rfl (by decide) (by decide) ((ql_g2 hI)) dL_isStruck_5 ?_
  refine zz_iconst (v := nI 1) hX dL_isStruck_6 rfl ?_
  refine zz_iadd (z := nI (zv_ns S + 1)) hX dL_isStruck_7 (nI_add _ _) ?_
  refine zz_irem (z := nI (one % (zv_ns S + 1))) hX dL_isStruck_8 (nI_ne0 (by omega) (by omega)) (pk_rem (by omega) (by omega) (by omega)) ?_
  have hq9 : one % (zv_ns S + 1) < zv_ns S + 1 := Nat.mod_lt _ (by omega)
  generalize one % (zv_ns S + 1) = q at hq9 ⊢
  have z_q : zn (nI q) = q := nI_clamp (n := q) (by omega)
  refine zz_istore (ls' := [(0, .ref 2), (1, .ref 100), (2, .ref 101), (3, .ref 102), (4, .ref 103), (5, .ref 104), (6, .ref 105), (7, .ref 106), (8, .ref 107), (9, .ref 108), (10, .ref 109), (11, .int (nI 1)), (12, .int (nI one)), (13, .int (nI two)), (14, .int (nI q))]) hX dL_isStruck_9 (Nat.le_of_ble_eq_true rfl) rfl ?_
  by_cases g0 : q < zv_ns S
  · skip
    have hwq := ql_hw_lt hI g0
    obtain ⟨q1, q2, q3, q4, q5, q6, q7, q8, q9, q10, q11, q12⟩ := ql_shot hI g0
    refine zz_iload hX dL_isStruck_11 14 rfl ?_
    refine zz_aload hX dL_isStruck_13 10 rfl ?_
    refine zz_iconst (v := nI 2) hX dL_isStruck_15 rfl ?_
    refine zz_iald (x := nI (zv_ns S)) hX (ql_s109 hI) 2 rfl (by decide) (by decide) ((ql_g2 hI)) dL_isStruck_16 ?_
    refine zz_icmp_geN hX (by omega) (by omega) 24 dL_isStruck_17 (by decide) (fun c17 => absurd c17 (by omega)) (fun c17 => ?_)
    refine zz_iconst (v := nI 1) hX dL_isStruck_20 rfl ?_
    refine zz_goto hX 25 dL_isStruck_21 (by decide) ?_
    refine zz_istore (ls' := [(0, .ref 2), (1, .ref 100), (2, .ref 101), (3, .ref 102), (4, .ref 103), (5, .ref 104), (6, .ref 105), (7, .ref 106), (8, .ref 107), (9, .ref 108), (10, .ref 109), (11, .int (nI 1)), (12, .int (nI one)), (13, .int (nI two)), (14, .int (nI q)), (15, .int (nI 1))]) hX dL_isStruck_25 (Nat.le_of_ble_eq_true rfl) rfl ?_
    refine zz_iload hX dL_isStruck_27 15 rfl ?_
    refine zz_if_eq hX 42 dL_isStruck_29 (by decide) (fun c => absurd c (by decide)) (fun _ => ?_)
    refine zz_aload hX dL_isStruck_32 5 rfl ?_
    refine zz_iload hX dL_isStruck_34 14 rfl ?_
    refine zz_sI (x := nI (zv_fr S q)) hX zf_M_L_105 (As := [.ref 104, .int (nI q)]) (st := []) (Q_frames n S sh mi mr hI q (by omega)) rfl rfl (by decide) (Nat.le_of_ble_eq_true rfl) (Nat.le_of_ble_eq_true rfl) (Nat.le_of_ble_eq_true rfl) dL_isStruck_36 ?_
    refine zz_goto hX 43 dL_isStruck_39 (by decide) ?_
    refine zz_istore (ls' := [(0, .ref 2), (1, .ref 100), (2, .ref 101), (3, .ref 102), (4, .ref 103), (5, .ref 104), (6, .ref 105), (7, .ref 106), (8, .ref 107), (9, .ref 108), (10, .ref 109), (11, .int (nI 1)), (12, .int (nI one)), (13, .int (nI two)), (14, .int (nI q)), (15, .int (nI 1)), (16, .int (nI (zv_fr S q)))]) hX dL_isStruck_43 (Nat.le_of_ble_eq_true rfl) rfl ?_
    refine zz_iload hX dL_isStruck_45 15 rfl ?_
    refine zz_if_eq hX 60 dL_isStruck_47 (by decide) (fun c => absurd c (by decide)) (fun _ => ?_)
    refine zz_aload hX dL_isStruck_50 5 rfl ?_
    refine zz_iload hX dL_isStruck_52 14 rfl ?_
    refine zz_sI (x := nI (zv_sk S q)) hX zf_M_L_101 (As := [.ref 104, .int (nI q)]) (st := []) (Q_struck n S sh mi mr hI q (by omega)) rfl rfl (by decide) (Nat.le_of_ble_eq_true rfl) (Nat.le_of_ble_eq_true rfl) (Nat.le_of_ble_eq_true rfl) dL_isStruck_54 ?_
    refine zz_goto hX 61 dL_isStruck_57 (by decide) ?_
    refine zz_istore (ls' := [(0, .ref 2), (1, .ref 100), (2, .ref 101), (3, .ref 102), (4, .ref 103), (5, .ref 104), (6, .ref 105), (7, .ref 106), (8, .ref 107), (9, .ref 108), (10, .ref 109), (11, .int (nI 1)), (12, .int (nI one)), (13, .int (nI two)), (14, .int (nI q)), (15, .int (nI 1)), (16, .int (nI (zv_fr S q))), (17, .int (nI (zv_sk S q)))]) hX dL_isStruck_61 (Nat.le_of_ble_eq_true rfl) rfl ?_
    have K96 : ∀ f : Nat, f ≤ zv_fr S q → zz Γ (D, E, 24, ad, sh) (zz_End Γ (D, E, 24, ad, sh) (ql_T n) zz_none 10 60) 0 0 sh mi mr 96 [(0, .ref 2), (1, .ref 100), (2, .ref 101), (3, .ref 102), (4, .ref 103), (5, .ref 104), (6, .ref 105), (7, .ref 106), (8, .ref 107), (9, .ref 108), (10, .ref 109), (11, .int (nI 1)), (12, .int (nI one)), (13, .int (nI two)), (14, .int (nI q)), (15, .int (nI 1)), (16, .int (nI (zv_fr S q))), (17, .int (nI (zv_sk S q)))] [.int (nI f)] := by
      intro f hf
      have z_f : zn (nI f) = f := nI_clamp (n := f) (by omega)
      refine zz_istore (ls' := [(0, .ref 2), (1, .ref 100), (2, .ref 101), (3, .ref 102), (4, .ref 103), (5, .ref 104), (6, .ref 105), (7, .ref 106), (8, .ref 107), (9, .ref 108), (10, .ref 109), (11, .int (nI 1)), (12, .int (nI one)), (13, .int (nI two)), (14, .int (nI q)), (15, .int (nI 1)), (16, .int (nI (zv_fr S q))), (17, .int (nI (zv_sk S q))), (18, .int (nI f))]) hX dL_isStruck_96 (Nat.le_of_ble_eq_true rfl) rfl ?_
      refine zz_iload hX dL_isStruck_98 11 rfl ?_
      refine zz_if_ne hX 362 dL_isStruck_100 (by decide) (fun _ => ?_) (fun c => absurd c (by decide))
      refine zz_iload hX dL_isStruck_362 11 rfl ?_
      refine zz_iconst (v := nI 1) hX dL_isStruck_364 rfl ?_
      refine zz_icmp_ne hX 573 dL_isStruck_365 (by decide) (fun c => absurd c (by decide)) (fun _ => ?_)
      have K404 : ∀ x9 : Int32, (∃ z, z ≤ 2000 ∧ x9 = nI z - nI 1000) → zz Γ (D, E, 24, ad, sh) (zz_End Γ (D, E, 24, ad, sh) (ql_T n) zz_none 10 60) 0 0 sh mi mr 404 [(0, .ref 2), (1, .ref 100), (2, .ref 101), (3, .ref 102), (4, .ref 103), (5, .ref 104), (6, .ref 105), (7, .ref 106), (8, .ref 107), (9, .ref 108), (10, .ref 109), (11, .int (nI 1)), (12, .int (nI one)), (13, .int (nI two)), (14, .int (nI q)), (15, .int (nI 1)), (16, .int (nI (zv_fr S q))), (17, .int (nI (zv_sk S q))), (18, .int (nI f))] [.int x9] := by
        intro x9 hx9
        obtain ⟨z, hz9, rfl⟩ := hx9
        refine zz_istore (ls' := [(0, .ref 2), (1, .ref 100), (2, .ref 101), (3, .ref 102), (4, .ref 103), (5, .ref 104), (6, .ref 105), (7, .ref 106), (8, .ref 107), (9, .ref 108), (10, .ref 109), (11, .int (nI 1)), (12, .int (nI one)), (13, .int (nI two)), (14, .int (nI q)), (15, .int (nI 1)), (16, .int (nI (zv_fr S q))), (17, .int (nI (zv_sk S q))), (18, .int (nI f)), (19, .int (nI z - nI 1000))]) hX dL_isStruck_404 (Nat.le_of_ble_eq_true rfl) rfl ?_
        by_cases u0 : f < zv_fr S q
        · skip
          by_cases u1 : 0 < z ∧ z < 2000
          · skip
            by_cases u2 : zv_sk S q ≤ f
            · skip
              refine zz_iload hX dL_isStruck_406 15 rfl ?_
              refine zz_if_eq hX 422 dL_isStruck_408 (by decide) (fun c => absurd c (by decide)) (fun _ => ?_)
              refine zz_iload hX dL_isStruck_411 18 rfl ?_
              refine zz_iload hX dL_isStruck_413 16 rfl ?_
              refine zz_icmp_geN hX (by omega) (by omega) 422 dL_isStruck_415 (by decide) (fun c415 => absurd c415 (by omega)) (fun c415 => ?_)
              refine zz_iconst (v := nI 1) hX dL_isStruck_418 rfl ?_
              refine zz_goto hX 423 dL_isStruck_419 (by decide) ?_
              refine zz_istore (ls' := [(0, .ref 2), (1, .ref 100), (2, .ref 101), (3, .ref 102), (4, .ref 103), (5, .ref 104), (6, .ref 105), (7, .ref 106), (8, .ref 107), (9, .ref 108), (10, .ref 109), (11, .int (nI 1)), (12, .int (nI one)), (13, .int (nI two)), (14, .int (nI q)), (15, .int (nI 1)), (16, .int (nI (zv_fr S q))), (17, .int (nI (zv_sk S q))), (18, .int (nI f)), (19, .int (nI z - nI 1000)), (20, .int (nI 1))]) hX dL_isStruck_423 (Nat.le_of_ble_eq_true rfl) rfl ?_
              refine zz_iload hX dL_isStruck_425 19 rfl ?_
              refine zz_sipush (v := (-1000)) hX dL_isStruck_427 rfl ?_
              refine zz_icmp_le hX 445 dL_isStruck_430 (by decide) (fun c430 => absurd ((zs_z1 (by omega) (by decide) (by decide)).mp c430) (by omega)) (fun c430 => ?_)
              refine zz_iload hX dL_isStruck_433 19 rfl ?_
              refine zz_sipush (v := nI 1000) hX dL_isStruck_435 rfl ?_
              refine zz_icmp_ge hX 445 dL_isStruck_438 (by decide) (fun c438 => absurd ((zs_z2 (by omega) (by decide)).mp c438) (by omega)) (fun c438 => ?_)
              refine zz_iconst (v := nI 1) hX dL_isStruck_441 rfl ?_
              refine zz_goto hX 446 dL_isStruck_442 (by decide) ?_
              refine zz_istore (ls' := [(0, .ref 2), (1, .ref 100), (2, .ref 101), (3, .ref 102), (4, .ref 103), (5, .ref 104), (6, .ref 105), (7, .ref 106), (8, .ref 107), (9, .ref 108), (10, .ref 109), (11, .int (nI 1)), (12, .int (nI one)), (13, .int (nI two)), (14, .int (nI q)), (15, .int (nI 1)), (16, .int (nI (zv_fr S q))), (17, .int (nI (zv_sk S q))), (18, .int (nI f)), (19, .int (nI z - nI 1000)), (20, .int (nI 1)), (21, .int (nI 1))]) hX dL_isStruck_446 (Nat.le_of_ble_eq_true rfl) rfl ?_
              refine zz_iload hX dL_isStruck_448 20 rfl ?_
              refine zz_if_eq hX 469 dL_isStruck_450 (by decide) (fun c => absurd c (by decide)) (fun _ => ?_)
              refine zz_iload hX dL_isStruck_453 21 rfl ?_
              refine zz_if_eq hX 469 dL_isStruck_455 (by decide) (fun c => absurd c (by decide)) (fun _ => ?_)
              refine zz_iload hX dL_isStruck_458 18 rfl ?_
              refine zz_iload hX dL_isStruck_460 17 rfl ?_
              refine zz_icmp_ltN hX (by omega) (by omega) 469 dL_isStruck_462 (by decide) (fun c462 => absurd c462 (by omega)) (fun c462 => ?_)
              refine zz_iconst (v := nI 1) hX dL_isStruck_465 rfl ?_
              refine zz_goto hX 470 dL_isStruck_466 (by decide) ?_
              refine zz_istore (ls' := [(0, .ref 2), (1, .ref 100), (2, .ref 101), (3, .ref 102), (4, .ref 103), (5, .ref 104), (6, .ref 105), (7, .ref 106), (8, .ref 107), (9, .ref 108), (10, .ref 109), (11, .int (nI 1)), (12, .int (nI one)), (13, .int (nI two)), (14, .int (nI q)), (15, .int (nI 1)), (16, .int (nI (zv_fr S q))), (17, .int (nI (zv_sk S q))), (18, .int (nI f)), (19, .int (nI z - nI 1000)), (20, .int (nI 1)), (21, .int (nI 1)), (22, .int (nI 1))]) hX dL_isStruck_470 (Nat.le_of_ble_eq_true rfl) rfl ?_
              refine zz_iload hX dL_isStruck_472 20 rfl ?_
              refine zz_if_eq hX 489 dL_isStruck_474 (by decide) (fun c => absurd c (by decide)) (fun _ => ?_)
              refine zz_aload hX dL_isStruck_477 7 rfl ?_
              refine zz_iload hX dL_isStruck_479 14 rfl ?_
              refine zz_iload hX dL_isStruck_481 18 rfl ?_
              refine zz_sI (x := zp_place S q f) hX zf_M_L_127 (As := [.ref 106, .int (nI q), .int (nI f)]) (st := []) (Q_place n S sh mi mr hI q (by omega) f (by omega)) rfl rfl (by decide) (Nat.le_of_ble_eq_true rfl) (Nat.le_of_ble_eq_true rfl) (Nat.le_of_ble_eq_true rfl) dL_isStruck_483 ?_
              refine zz_goto hX 490 dL_isStruck_486 (by decide) ?_
              refine zz_istore (ls' := [(0, .ref 2), (1, .ref 100), (2, .ref 101), (3, .ref 102), (4, .ref 103), (5, .ref 104), (6, .ref 105), (7, .ref 106), (8, .ref 107), (9, .ref 108), (10, .ref 109), (11, .int (nI 1)), (12, .int (nI one)), (13, .int (nI two)), (14, .int (nI q)), (15, .int (nI 1)), (16, .int (nI (zv_fr S q))), (17, .int (nI (zv_sk S q))), (18, .int (nI f)), (19, .int (nI z - nI 1000)), (20, .int (nI 1)), (21, .int (nI 1)), (22, .int (nI 1)), (23, .int (zp_place S q f))]) hX dL_isStruck_490 (Nat.le_of_ble_eq_true rfl) rfl ?_
              refine zz_aload hX dL_isStruck_492 7 rfl ?_
              refine zz_iload hX dL_isStruck_494 22 rfl ?_
              refine zz_if_eq hX 510 dL_isStruck_496 (by decide) (fun c => absurd c (by decide)) (fun _ => ?_)
              refine zz_bipush (v := nI 6) hX dL_isStruck_499 rfl ?_
              refine zz_iload hX dL_isStruck_501 14 rfl ?_
              refine zz_imul (z := nI (6 * q)) hX dL_isStruck_503 (pk_mul _ _) ?_
              refine zz_iload hX dL_isStruck_504 18 rfl ?_
              refine zz_iadd (z := nI (6 * q + f)) hX dL_isStruck_506 (nI_add _ _) ?_
              refine zz_goto hX 512 dL_isStruck_507 (by decide) ?_
              refine zz_iload hX dL_isStruck_512 19 rfl ?_
              refine zz_sipush (v := nI 1000) hX dL_isStruck_514 rfl ?_
              refine zz_iadd (z := nI z) hX dL_isStruck_517 (Int32.sub_add_cancel _ _) ?_
              refine zz_iast hX (ql_s106 hI) (6 * q + f) rfl (by omega) (by decide) dL_isStruck_518 ?_
              refine zz_aload_n hX dL_isStruck_519 0 rfl rfl ?_
              refine zz_bipush (v := nI 9) hX dL_isStruck_520 rfl ?_
              refine zz_iload hX dL_isStruck_522 14 rfl ?_
              refine zz_iload hX dL_isStruck_524 18 rfl ?_
              refine zz_iload hX dL_isStruck_526 19 rfl ?_
              refine zz_iconst (v := nI 0) hX dL_isStruck_528 rfl ?_
              have hA9 : zs_ix (nI q) (zv_ns S) ∧ zs_ix (nI f) (zv_fr S (zn (nI q))) := by rw [z_q]; exact ⟨zs_ix_nI g0 (by omega), zs_ix_nI u0 (by omega)⟩
              have hB9 : (-999) ≤ nI z - nI 1000 ∧ nI z - nI 1000 ≤ nI 999 := (zs_z3 (by omega) (by decide) rfl (by decide)).mpr u1
              have hC9 : ¬ nI f < nI (zv_sk S (zn (nI q))) := by rw [z_q, nI_ltI (by omega) (by omega)]; omega
              refine zz_callSH hX zf_M_L_161 (As := [.ref 2, .int (nI 9), .int (nI q), .int (nI f), .int (nI z - nI 1000), .int (nI 0)]) (st := []) (D_camera S sh (zm_u2 mi 106 (6 * q + f) (nI z)) mr (ql_W hI) (ql_R_f (ql_W hI) hR (M := (zm_u2 mi 106 (6 * q + f) (nI z))) (fun l hl => zm_u2r (by omega))) (nI q) (nI f) (nI z - nI 1000) (nI 0)) rfl rfl (by decide) (Nat.le_of_ble_eq_true rfl) (Nat.le_of_ble_eq_true rfl) (Nat.le_of_ble_eq_true rfl) dL_isStruck_529 ?_ (fun _ _ _ _ h _ => h.elim)
              rintro v9 s9 i9 m9 ⟨k9, rfl, hk9, hS9⟩ -
              obtain ⟨e9, hR9⟩ := zq_d1 hk9 hA9 hB9 hC9
              simp only [z_q, z_f] at e9 hR9
              obtain rfl := e9.symm
              refine zz_iload hX dL_isStruck_532 20 rfl ?_
              refine zz_if_ne hX 542 dL_isStruck_534 (by decide) (fun _ => ?_) (fun c => absurd c (by decide))
              refine zz_iload hX dL_isStruck_542 21 rfl ?_
              refine zz_if_ne hX 552 dL_isStruck_544 (by decide) (fun _ => ?_) (fun c => absurd c (by decide))
              refine zz_iload hX dL_isStruck_552 22 rfl ?_
              refine zz_if_eq hX 562 dL_isStruck_554 (by decide) (fun c => absurd c (by decide)) (fun _ => ?_)
              refine zz_iload hX dL_isStruck_557 23 rfl ?_
              refine zz_goto hX 564 dL_isStruck_559 (by decide) ?_
              refine zz_icmp_ne hX 571 dL_isStruck_564 (by decide) (fun c564 => absurd rfl c564) (fun c564 => ?_)
              refine zz_iconst (v := nI 1) hX dL_isStruck_567 rfl ?_
              refine zz_goto hX 572 dL_isStruck_568 (by decide) ?_
              refine zz_iret hX hr rfl (Nat.le_of_ble_eq_true rfl) (Nat.le_of_ble_eq_true rfl) dL_isStruck_572 ?_
              exact ⟨rfl, ⟨_, ql_J_end hn (by have z := U_camera (ql_W hI) (nI q) (nI f) (nI z - nI 1000) hA9 hB9 hC9; simp only [z_q, z_f] at z; exact z) (ql_B_s (ql_BB hI) (fun r hr => zm_u2r (by omega))) (ql_N_c hI.2.2.2 (by omega) (by omega) (zs_zc (by omega))) hR9 hS9⟩, ql_10 h10 hS9⟩
            · skip
              refine zz_iload hX dL_isStruck_406 15 rfl ?_
              refine zz_if_eq hX 422 dL_isStruck_408 (by decide) (fun c => absurd c (by decide)) (fun _ => ?_)
              refine zz_iload hX dL_isStruck_411 18 rfl ?_
              refine zz_iload hX dL_isStruck_413 16 rfl ?_
              refine zz_icmp_geN hX (by omega) (by omega) 422 dL_isStruck_415 (by decide) (fun c415 => absurd c415 (by omega)) (fun c415 => ?_)
              refine zz_iconst (v := nI 1) hX dL_isStruck_418 rfl ?_
              refine zz_goto hX 423 dL_isStruck_419 (by decide) ?_
              refine zz_istore (ls' := [(0, .ref 2), (1, .ref 100), (2, .ref 101), (3, .ref 102), (4, .ref 103), (5, .ref 104), (6, .ref 105), (7, .ref 106), (8, .ref 107), (9, .ref 108), (10, .ref 109), (11, .int (nI 1)), (12, .int (nI one)), (13, .int (nI two)), (14, .int (nI q)), (15, .int (nI 1)), (16, .int (nI (zv_fr S q))), (17, .int (nI (zv_sk S q))), (18, .int (nI f)), (19, .int (nI z - nI 1000)), (20, .int (nI 1))]) hX dL_isStruck_423 (Nat.le_of_ble_eq_true rfl) rfl ?_
              refine zz_iload hX dL_isStruck_425 19 rfl ?_
              refine zz_sipush (v := (-1000)) hX dL_isStruck_427 rfl ?_
              refine zz_icmp_le hX 445 dL_isStruck_430 (by decide) (fun c430 => absurd ((zs_z1 (by omega) (by decide) (by decide)).mp c430) (by omega)) (fun c430 => ?_)
              refine zz_iload hX dL_isStruck_433 19 rfl ?_
              refine zz_sipush (v := nI 1000) hX dL_isStruck_435 rfl ?_
              refine zz_icmp_ge hX 445 dL_isStruck_438 (by decide) (fun c438 => absurd ((zs_z2 (by omega) (by decide)).mp c438) (by omega)) (fun c438 => ?_)
              refine zz_iconst (v := nI 1) hX dL_isStruck_441 rfl ?_
              refine zz_goto hX 446 dL_isStruck_442 (by decide) ?_
              refine zz_istore (ls' := [(0, .ref 2), (1, .ref 100), (2, .ref 101), (3, .ref 102), (4, .ref 103), (5, .ref 104), (6, .ref 105), (7, .ref 106), (8, .ref 107), (9, .ref 108), (10, .ref 109), (11, .int (nI 1)), (12, .int (nI one)), (13, .int (nI two)), (14, .int (nI q)), (15, .int (nI 1)), (16, .int (nI (zv_fr S q))), (17, .int (nI (zv_sk S q))), (18, .int (nI f)), (19, .int (nI z - nI 1000)), (20, .int (nI 1)), (21, .int (nI 1))]) hX dL_isStruck_446 (Nat.le_of_ble_eq_true rfl) rfl ?_
              refine zz_iload hX dL_isStruck_448 20 rfl ?_
              refine zz_if_eq hX 469 dL_isStruck_450 (by decide) (fun c => absurd c (by decide)) (fun _ => ?_)
              refine zz_iload hX dL_isStruck_453 21 rfl ?_
              refine zz_if_eq hX 469 dL_isStruck_455 (by decide) (fun c => absurd c (by decide)) (fun _ => ?_)
              refine zz_iload hX dL_isStruck_458 18 rfl ?_
              refine zz_iload hX dL_isStruck_460 17 rfl ?_
              refine zz_icmp_ltN hX (by omega) (by omega) 469 dL_isStruck_462 (by decide) (fun c462 => ?_) (fun c462 => absurd c462 (by omega))
              refine zz_iconst (v := nI 0) hX dL_isStruck_469 rfl ?_
              refine zz_istore (ls' := [(0, .ref 2), (1, .ref 100), (2, .ref 101), (3, .ref 102), (4, .ref 103), (5, .ref 104), (6, .ref 105), (7, .ref 106), (8, .ref 107), (9, .ref 108), (10, .ref 109), (11, .int (nI 1)), (12, .int (nI one)), (13, .int (nI two)), (14, .int (nI q)), (15, .int (nI 1)), (16, .int (nI (zv_fr S q))), (17, .int (nI (zv_sk S q))), (18, .int (nI f)), (19, .int (nI z - nI 1000)), (20, .int (nI 1)), (21, .int (nI 1)), (22, .int (nI 0))]) hX dL_isStruck_470 (Nat.le_of_ble_eq_true rfl) rfl ?_
              refine zz_iload hX dL_isStruck_472 20 rfl ?_
              refine zz_if_eq hX 489 dL_isStruck_474 (by decide) (fun c => absurd c (by decide)) (fun _ => ?_)
              refine zz_aload hX dL_isStruck_477 7 rfl ?_
              refine zz_iload hX dL_isStruck_479 14 rfl ?_
              refine zz_iload hX dL_isStruck_481 18 rfl ?_
              refine zz_sI (x := zp_place S q f) hX zf_M_L_127 (As := [.ref 106, .int (nI q), .int (nI f)]) (st := []) (Q_place n S sh mi mr hI q (by omega) f (by omega)) rfl rfl (by decide) (Nat.le_of_ble_eq_true rfl) (Nat.le_of_ble_eq_true rfl) (Nat.le_of_ble_eq_true rfl) dL_isStruck_483 ?_
              refine zz_goto hX 490 dL_isStruck_486 (by decide) ?_
              refine zz_istore (ls' := [(0, .ref 2), (1, .ref 100), (2, .ref 101), (3, .ref 102), (4, .ref 103), (5, .ref 104), (6, .ref 105), (7, .ref 106), (8, .ref 107), (9, .ref 108), (10, .ref 109), (11, .int (nI 1)), (12, .int (nI one)), (13, .int (nI two)), (14, .int (nI q)), (15, .int (nI 1)), (16, .int (nI (zv_fr S q))), (17, .int (nI (zv_sk S q))), (18, .int (nI f)), (19, .int (nI z - nI 1000)), (20, .int (nI 1)), (21, .int (nI 1)), (22, .int (nI 0)), (23, .int (zp_place S q f))]) hX dL_isStruck_490 (Nat.le_of_ble_eq_true rfl) rfl ?_
              refine zz_aload hX dL_isStruck_492 7 rfl ?_
              refine zz_iload hX dL_isStruck_494 22 rfl ?_
              refine zz_if_eq hX 510 dL_isStruck_496 (by decide) (fun _ => ?_) (fun c => absurd c (by decide))
              refine zz_bipush (v := nI 18) hX dL_isStruck_510 rfl ?_
              refine zz_iload hX dL_isStruck_512 19 rfl ?_
              refine zz_sipush (v := nI 1000) hX dL_isStruck_514 rfl ?_
              refine zz_iadd (z := nI z) hX dL_isStruck_517 (Int32.sub_add_cancel _ _) ?_
              refine zz_iast hX (ql_s106 hI) 18 rfl (by decide) (by decide) dL_isStruck_518 ?_
              refine zz_aload_n hX dL_isStruck_519 0 rfl rfl ?_
              refine zz_bipush (v := nI 9) hX dL_isStruck_520 rfl ?_
              refine zz_iload hX dL_isStruck_522 14 rfl ?_
              refine zz_iload hX dL_isStruck_524 18 rfl ?_
              refine zz_iload hX dL_isStruck_526 19 rfl ?_
              refine zz_iconst (v := nI 0) hX dL_isStruck_528 rfl ?_
              have hA9 : zs_ix (nI q) (zv_ns S) ∧ zs_ix (nI f) (zv_fr S (zn (nI q))) := by rw [z_q]; exact ⟨zs_ix_nI g0 (by omega), zs_ix_nI u0 (by omega)⟩
              have hB9 : (-999) ≤ nI z - nI 1000 ∧ nI z - nI 1000 ≤ nI 999 := (zs_z3 (by omega) (by decide) rfl (by decide)).mpr u1
              refine zz_callSH hX zf_M_L_161 (As := [.ref 2, .int (nI 9), .int (nI q), .int (nI f), .int (nI z - nI 1000), .int (nI 0)]) (st := []) (D_camera S sh (zm_u2 mi 106 18 (nI z)) mr (ql_W hI) (ql_R_f (ql_W hI) hR (M := (zm_u2 mi 106 18 (nI z))) (fun l hl => zm_u2r (by omega))) (nI q) (nI f) (nI z - nI 1000) (nI 0)) rfl rfl (by decide) (Nat.le_of_ble_eq_true rfl) (Nat.le_of_ble_eq_true rfl) (Nat.le_of_ble_eq_true rfl) dL_isStruck_529 ?_ (fun _ _ _ _ h _ => h.elim)
              rintro v9 s9 i9 m9 ⟨k9, rfl, hk9, hS9⟩ -
              obtain ⟨e9, hR9⟩ := zq_d4 hk9 hA9 hB9 (fun h => by rw [z_q, nI_ltI (by omega) (by omega)] at h; omega)
              obtain rfl := e9.symm
              refine zz_iload hX dL_isStruck_532 20 rfl ?_
              refine zz_if_ne hX 542 dL_isStruck_534 (by decide) (fun _ => ?_) (fun c => absurd c (by decide))
              refine zz_iload hX dL_isStruck_542 21 rfl ?_
              refine zz_if_ne hX 552 dL_isStruck_544 (by decide) (fun _ => ?_) (fun c => absurd c (by decide))
              refine zz_iload hX dL_isStruck_552 22 rfl ?_
              refine zz_if_eq hX 562 dL_isStruck_554 (by decide) (fun _ => ?_) (fun c => absurd c (by decide))
              refine zz_ldc (v := -1000000) hX zw_con_L_90 dL_isStruck_562 ?_
              refine zz_icmp_ne hX 571 dL_isStruck_564 (by decide) (fun c => absurd c (by decide)) (fun _ => ?_)
              refine zz_iconst (v := nI 1) hX dL_isStruck_567 rfl ?_
              refine zz_goto hX 572 dL_isStruck_568 (by decide) ?_
              refine zz_iret hX hr rfl (Nat.le_of_ble_eq_true rfl) (Nat.le_of_ble_eq_true rfl) dL_isStruck_572 ?_
              exact ⟨rfl, ⟨_, ql_J_end hn (ql_W hI) (ql_B_mono (ql_BB hI) (by omega)) (ql_N_g hI.2.2.2 n3 hsm.1 (by unfold ql_gar; omega)) hR9 hS9⟩, ql_10 h10 hS9⟩
          · skip
            refine zz_iload hX dL_isStruck_406 15 rfl ?_
            refine zz_if_eq hX 422 dL_isStruck_408 (by decide) (fun c => absurd c (by decide)) (fun _ => ?_)
            refine zz_iload hX dL_isStruck_411 18 rfl ?_
            refine zz_iload hX dL_isStruck_413 16 rfl ?_
            refine zz_icmp_geN hX (by omega) (by omega) 422 dL_isStruck_415 (by decide) (fun c415 => absurd c415 (by omega)) (fun c415 => ?_)
            refine zz_iconst (v := nI 1) hX dL_isStruck_418 rfl ?_
            refine zz_goto hX 423 dL_isStruck_419 (by decide) ?_
            refine zz_istore (ls' := [(0, .ref 2), (1, .ref 100), (2, .ref 101), (3, .ref 102), (4, .ref 103), (5, .ref 104), (6, .ref 105), (7, .ref 106), (8, .ref 107), (9, .ref 108), (10, .ref 109), (11, .int (nI 1)), (12, .int (nI one)), (13, .int (nI two)), (14, .int (nI q)), (15, .int (nI 1)), (16, .int (nI (zv_fr S q))), (17, .int (nI (zv_sk S q))), (18, .int (nI f)), (19, .int (nI z - nI 1000)), (20, .int (nI 1))]) hX dL_isStruck_423 (Nat.le_of_ble_eq_true rfl) rfl ?_
            have K446 : zz Γ (D, E, 24, ad, sh) (zz_End Γ (D, E, 24, ad, sh) (ql_T n) zz_none 10 60) 0 0 sh mi mr 446 [(0, .ref 2), (1, .ref 100), (2, .ref 101), (3, .ref 102), (4, .ref 103), (5, .ref 104), (6, .ref 105), (7, .ref 106), (8, .ref 107), (9, .ref 108), (10, .ref 109), (11, .int (nI 1)), (12, .int (nI one)), (13, .int (nI two)), (14, .int (nI q)), (15, .int (nI 1)), (16, .int (nI (zv_fr S q))), (17, .int (nI (zv_sk S q))), (18, .int (nI f)), (19, .int (nI z - nI 1000)), (20, .int (nI 1))] [.int (nI 0)] := by
              refine zz_istore (ls' := [(0, .ref 2), (1, .ref 100), (2, .ref 101), (3, .ref 102), (4, .ref 103), (5, .ref 104), (6, .ref 105), (7, .ref 106), (8, .ref 107), (9, .ref 108), (10, .ref 109), (11, .int (nI 1)), (12, .int (nI one)), (13, .int (nI two)), (14, .int (nI q)), (15, .int (nI 1)), (16, .int (nI (zv_fr S q))), (17, .int (nI (zv_sk S q))), (18, .int (nI f)), (19, .int (nI z - nI 1000)), (20, .int (nI 1)), (21, .int (nI 0))]) hX dL_isStruck_446 (Nat.le_of_ble_eq_true rfl) rfl ?_
              refine zz_iload hX dL_isStruck_448 20 rfl ?_
              refine zz_if_eq hX 469 dL_isStruck_450 (by decide) (fun c => absurd c (by decide)) (fun _ => ?_)
              refine zz_iload hX dL_isStruck_453 21 rfl ?_
              refine zz_if_eq hX 469 dL_isStruck_455 (by decide) (fun _ => ?_) (fun c => absurd c (by decide))
              refine zz_iconst (v := nI 0) hX dL_isStruck_469 rfl ?_
              refine zz_istore (ls' := [(0, .ref 2), (1, .ref 100), (2, .ref 101), (3, .ref 102), (4, .ref 103), (5, .ref 104), (6, .ref 105), (7, .ref 106), (8, .ref 107), (9, .ref 108), (10, .ref 109), (11, .int (nI 1)), (12, .int (nI one)), (13, .int (nI two)), (14, .int (nI q)), (15, .int (nI 1)), (16, .int (nI (zv_fr S q))), (17, .int (nI (zv_sk S q))), (18, .int (nI f)), (19, .int (nI z - nI 1000)), (20, .int (nI 1)), (21, .int (nI 0)), (22, .int (nI 0))]) hX dL_isStruck_470 (Nat.le_of_ble_eq_true rfl) rfl ?_
              refine zz_iload hX dL_isStruck_472 20 rfl ?_
              refine zz_if_eq hX 489 dL_isStruck_474 (by decide) (fun c => absurd c (by decide)) (fun _ => ?_)
              refine zz_aload hX dL_isStruck_477 7 rfl ?_
              refine zz_iload hX dL_isStruck_479 14 rfl ?_
              refine zz_iload hX dL_isStruck_481 18 rfl ?_
              refine zz_sI (x := zp_place S q f) hX zf_M_L_127 (As := [.ref 106, .int (nI q), .int (nI f)]) (st := []) (Q_place n S sh mi mr hI q (by omega) f (by omega)) rfl rfl (by decide) (Nat.le_of_ble_eq_true rfl) (Nat.le_of_ble_eq_true rfl) (Nat.le_of_ble_eq_true rfl) dL_isStruck_483 ?_
              refine zz_goto hX 490 dL_isStruck_486 (by decide) ?_
              refine zz_istore (ls' := [(0, .ref 2), (1, .ref 100), (2, .ref 101), (3, .ref 102), (4, .ref 103), (5, .ref 104), (6, .ref 105), (7, .ref 106), (8, .ref 107), (9, .ref 108), (10, .ref 109), (11, .int (nI 1)), (12, .int (nI one)), (13, .int (nI two)), (14, .int (nI q)), (15, .int (nI 1)), (16, .int (nI (zv_fr S q))), (17, .int (nI (zv_sk S q))), (18, .int (nI f)), (19, .int (nI z - nI 1000)), (20, .int (nI 1)), (21, .int (nI 0)), (22, .int (nI 0)), (23, .int (zp_place S q f))]) hX dL_isStruck_490 (Nat.le_of_ble_eq_true rfl) rfl ?_
              refine zz_aload hX dL_isStruck_492 7 rfl ?_
              refine zz_iload hX dL_isStruck_494 22 rfl ?_
              refine zz_if_eq hX 510 dL_isStruck_496 (by decide) (fun _ => ?_) (fun c => absurd c (by decide))
              refine zz_bipush (v := nI 18) hX dL_isStruck_510 rfl ?_
              refine zz_iload hX dL_isStruck_512 19 rfl ?_
              refine zz_sipush (v := nI 1000) hX dL_isStruck_514 rfl ?_
              refine zz_iadd (z := nI z) hX dL_isStruck_517 (Int32.sub_add_cancel _ _) ?_
              refine zz_iast hX (ql_s106 hI) 18 rfl (by decide) (by decide) dL_isStruck_518 ?_
              refine zz_aload_n hX dL_isStruck_519 0 rfl rfl ?_
              refine zz_bipush (v := nI 9) hX dL_isStruck_520 rfl ?_
              refine zz_iload hX dL_isStruck_522 14 rfl ?_
              refine zz_iload hX dL_isStruck_524 18 rfl ?_
              refine zz_iload hX dL_isStruck_526 19 rfl ?_
              refine zz_iconst (v := nI 0) hX dL_isStruck_528 rfl ?_
              have hA9 : zs_ix (nI q) (zv_ns S) ∧ zs_ix (nI f) (zv_fr S (zn (nI q))) := by rw [z_q]; exact ⟨zs_ix_nI g0 (by omega), zs_ix_nI u0 (by omega)⟩
              refine zz_callSH hX zf_M_L_161 (As := [.ref 2, .int (nI 9), .int (nI q), .int (nI f), .int (nI z - nI 1000), .int (nI 0)]) (st := []) (D_camera S sh (zm_u2 mi 106 18 (nI z)) mr (ql_W hI) (ql_R_f (ql_W hI) hR (M := (zm_u2 mi 106 18 (nI z))) (fun l hl => zm_u2r (by omega))) (nI q) (nI f) (nI z - nI 1000) (nI 0)) rfl rfl (by decide) (Nat.le_of_ble_eq_true rfl) (Nat.le_of_ble_eq_true rfl) (Nat.le_of_ble_eq_true rfl) dL_isStruck_529 ?_ (fun _ _ _ _ h _ => h.elim)
              rintro v9 s9 i9 m9 ⟨k9, rfl, hk9, hS9⟩ -
              obtain ⟨e9, hR9⟩ := zq_d3 hk9 hA9 (fun h => u1 ((zs_z3 (by omega) (by decide) rfl (by decide)).mp h))
              obtain rfl := e9.symm
              refine zz_iload hX dL_isStruck_532 20 rfl ?_
              refine zz_if_ne hX 542 dL_isStruck_534 (by decide) (fun _ => ?_) (fun c => absurd c (by decide))
              refine zz_iload hX dL_isStruck_542 21 rfl ?_
              refine zz_if_ne hX 552 dL_isStruck_544 (by decide) (fun c => absurd c (by decide)) (fun _ => ?_)
              refine zz_ldc (v := -2000000) hX zw_con_L_87 dL_isStruck_547 ?_
              refine zz_goto hX 564 dL_isStruck_549 (by decide) ?_
              refine zz_icmp_ne hX 571 dL_isStruck_564 (by decide) (fun c => absurd c (by decide)) (fun _ => ?_)
              refine zz_iconst (v := nI 1) hX dL_isStruck_567 rfl ?_
              refine zz_goto hX 572 dL_isStruck_568 (by decide) ?_
              refine zz_iret hX hr rfl (Nat.le_of_ble_eq_true rfl) (Nat.le_of_ble_eq_true rfl) dL_isStruck_572 ?_
              exact ⟨rfl, ⟨_, ql_J_end hn (ql_W hI) (ql_B_mono (ql_BB hI) (by omega)) (ql_N_g hI.2.2.2 n3 hsm.1 (by unfold ql_gar; omega)) hR9 hS9⟩, ql_10 h10 hS9⟩
            refine zz_iload hX dL_isStruck_425 19 rfl ?_
            refine zz_sipush (v := (-1000)) hX dL_isStruck_427 rfl ?_
            refine zz_icmp_le hX 445 dL_isStruck_430 (by decide) (fun c430 => ?_) (fun c430 => ?_)
            · skip
              refine zz_iconst (v := nI 0) hX dL_isStruck_445 rfl ?_
              exact zz_top (rfl) K446
            · skip
              refine zz_iload hX dL_isStruck_433 19 rfl ?_
              refine zz_sipush (v := nI 1000) hX dL_isStruck_435 rfl ?_
              refine zz_icmp_ge hX 445 dL_isStruck_438 (by decide) (fun c438 => ?_) (fun c438 => absurd ((zs_z2 (by omega) (by decide)).mpr (by have h1 : ¬ z = 0 := fun hz => c430 ((zs_z1 (by omega) (by decide) (by decide)).mpr hz); omega)) c438)
              refine zz_iconst (v := nI 0) hX dL_isStruck_445 rfl ?_
              exact zz_top (rfl) K446
        · skip
          refine zz_iload hX dL_isStruck_406 15 rfl ?_
          refine zz_if_eq hX 422 dL_isStruck_408 (by decide) (fun c => absurd c (by decide)) (fun _ => ?_)
          refine zz_iload hX dL_isStruck_411 18 rfl ?_
          refine zz_iload hX dL_isStruck_413 16 rfl ?_
          refine zz_icmp_geN hX (by omega) (by omega) 422 dL_isStruck_415 (by decide) (fun c415 => ?_) (fun c415 => absurd c415 (by omega))
          refine zz_iconst (v := nI 0) hX dL_isStruck_422 rfl ?_
          refine zz_istore (ls' := [(0, .ref 2), (1, .ref 100), (2, .ref 101), (3, .ref 102), (4, .ref 103), (5, .ref 104), (6, .ref 105), (7, .ref 106), (8, .ref 107), (9, .ref 108), (10, .ref 109), (11, .int (nI 1)), (12, .int (nI one)), (13, .int (nI two)), (14, .int (nI q)), (15, .int (nI 1)), (16, .int (nI (zv_fr S q))), (17, .int (nI (zv_sk S q))), (18, .int (nI f)), (19, .int (nI z - nI 1000)), (20, .int (nI 0))]) hX dL_isStruck_423 (Nat.le_of_ble_eq_true rfl) rfl ?_
          have K446 : ∀ b : Nat, b ≤ 1 → zz Γ (D, E, 24, ad, sh) (zz_End Γ (D, E, 24, ad, sh) (ql_T n) zz_none 10 60) 0 0 sh mi mr 446 [(0, .ref 2), (1, .ref 100), (2, .ref 101), (3, .ref 102), (4, .ref 103), (5, .ref 104), (6, .ref 105), (7, .ref 106), (8, .ref 107), (9, .ref 108), (10, .ref 109), (11, .int (nI 1)), (12, .int (nI one)), (13, .int (nI two)), (14, .int (nI q)), (15, .int (nI 1)), (16, .int (nI (zv_fr S q))), (17, .int (nI (zv_sk S q))), (18, .int (nI f)), (19, .int (nI z - nI 1000)), (20, .int (nI 0))] [.int (nI b)] := by
            intro b hb
            refine zz_istore (ls' := [(0, .ref 2), (1, .ref 100), (2, .ref 101), (3, .ref 102), (4, .ref 103), (5, .ref 104), (6, .ref 105), (7, .ref 106), (8, .ref 107), (9, .ref 108), (10, .ref 109), (11, .int (nI 1)), (12, .int (nI one)), (13, .int (nI two)), (14, .int (nI q)), (15, .int (nI 1)), (16, .int (nI (zv_fr S q))), (17, .int (nI (zv_sk S q))), (18, .int (nI f)), (19, .int (nI z - nI 1000)), (20, .int (nI 0)), (21, .int (nI b))]) hX dL_isStruck_446 (Nat.le_of_ble_eq_true rfl) rfl ?_
            refine zz_iload hX dL_isStruck_448 20 rfl ?_
            refine zz_if_eq hX 469 dL_isStruck_450 (by decide) (fun _ => ?_) (fun c => absurd c (by decide))
            refine zz_iconst (v := nI 0) hX dL_isStruck_469 rfl ?_
            refine zz_istore (ls' := [(0, .ref 2), (1, .ref 100), (2, .ref 101), (3, .ref 102), (4, .ref 103), (5, .ref 104), (6, .ref 105), (7, .ref 106), (8, .ref 107), (9, .ref 108), (10, .ref 109), (11, .int (nI 1)), (12, .int (nI one)), (13, .int (nI two)), (14, .int (nI q)), (15, .int (nI 1)), (16, .int (nI (zv_fr S q))), (17, .int (nI (zv_sk S q))), (18, .int (nI f)), (19, .int (nI z - nI 1000)), (20, .int (nI 0)), (21, .int (nI b)), (22, .int (nI 0))]) hX dL_isStruck_470 (Nat.le_of_ble_eq_true rfl) rfl ?_
            refine zz_iload hX dL_isStruck_472 20 rfl ?_
            refine zz_if_eq hX 489 dL_isStruck_474 (by decide) (fun _ => ?_) (fun c => absurd c (by decide))
            refine zz_iconst (v := nI 0) hX dL_isStruck_489 rfl ?_
            refine zz_istore (ls' := [(0, .ref 2), (1, .ref 100), (2, .ref 101), (3, .ref 102), (4, .ref 103), (5, .ref 104), (6, .ref 105), (7, .ref 106), (8, .ref 107), (9, .ref 108), (10, .ref 109), (11, .int (nI 1)), (12, .int (nI one)), (13, .int (nI two)), (14, .int (nI q)), (15, .int (nI 1)), (16, .int (nI (zv_fr S q))), (17, .int (nI (zv_sk S q))), (18, .int (nI f)), (19, .int (nI z - nI 1000)), (20, .int (nI 0)), (21, .int (nI b)), (22, .int (nI 0)), (23, .int (nI 0))]) hX dL_isStruck_490 (Nat.le_of_ble_eq_true rfl) rfl ?_
            refine zz_aload hX dL_isStruck_492 7 rfl ?_
            refine zz_iload hX dL_isStruck_494 22 rfl ?_
            refine zz_if_eq hX 510 dL_isStruck_496 (by decide) (fun _ => ?_) (fun c => absurd c (by decide))
            refine zz_bipush (v := nI 18) hX dL_isStruck_510 rfl ?_
            refine zz_iload hX dL_isStruck_512 19 rfl ?_
            refine zz_sipush (v := nI 1000) hX dL_isStruck_514 rfl ?_
            refine zz_iadd (z := nI z) hX dL_isStruck_517 (Int32.sub_add_cancel _ _) ?_
            refine zz_iast hX (ql_s106 hI) 18 rfl (by decide) (by decide) dL_isStruck_518 ?_
            refine zz_aload_n hX dL_isStruck_519 0 rfl rfl ?_
            refine zz_bipush (v := nI 9) hX dL_isStruck_520 rfl ?_
            refine zz_iload hX dL_isStruck_522 14 rfl ?_
            refine zz_iload hX dL_isStruck_524 18 rfl ?_
            refine zz_iload hX dL_isStruck_526 19 rfl ?_
            refine zz_iconst (v := nI 0) hX dL_isStruck_528 rfl ?_
            refine zz_callSH hX zf_M_L_161 (As := [.ref 2, .int (nI 9), .int (nI q), .int (nI f), .int (nI z - nI 1000), .int (nI 0)]) (st := []) (D_camera S sh (zm_u2 mi 106 18 (nI z)) mr (ql_W hI) (ql_R_f (ql_W hI) hR (M := (zm_u2 mi 106 18 (nI z))) (fun l hl => zm_u2r (by omega))) (nI q) (nI f) (nI z - nI 1000) (nI 0)) rfl rfl (by decide) (Nat.le_of_ble_eq_true rfl) (Nat.le_of_ble_eq_true rfl) (Nat.le_of_ble_eq_true rfl) dL_isStruck_529 ?_ (fun _ _ _ _ h _ => h.elim)
            rintro v9 s9 i9 m9 ⟨k9, rfl, hk9, hS9⟩ -
            obtain ⟨e9, hR9⟩ := zq_d2 hk9 (fun h => by rw [z_q] at h; exact u0 (zs_ixl h.2 (by omega)))
            obtain rfl := e9.symm
            refine zz_iload hX dL_isStruck_532 20 rfl ?_
            refine zz_if_ne hX 542 dL_isStruck_534 (by decide) (fun c => absurd c (by decide)) (fun _ => ?_)
            refine zz_ldc (v := -3000000) hX zw_con_L_84 dL_isStruck_537 ?_
            refine zz_goto hX 564 dL_isStruck_539 (by decide) ?_
            refine zz_icmp_ne hX 571 dL_isStruck_564 (by decide) (fun c => absurd c (by decide)) (fun _ => ?_)
            refine zz_iconst (v := nI 1) hX dL_isStruck_567 rfl ?_
            refine zz_goto hX 572 dL_isStruck_568 (by decide) ?_
            refine zz_iret hX hr rfl (Nat.le_of_ble_eq_true rfl) (Nat.le_of_ble_eq_true rfl) dL_isStruck_572 ?_
            exact ⟨rfl, ⟨_, ql_J_end hn (ql_W hI) (ql_B_mono (ql_BB hI) (by omega)) (ql_N_g hI.2.2.2 n3 hsm.1 (by unfold ql_gar; omega)) hR9 hS9⟩, ql_10 h10 hS9⟩
          refine zz_iload hX dL_isStruck_425 19 rfl ?_
          refine zz_sipush (v := (-1000)) hX dL_isStruck_427 rfl ?_
          refine zz_icmp_le hX 445 dL_isStruck_430 (by decide) (fun c430 => ?_) (fun c430 => ?_)
          · skip
            refine zz_iconst (v := nI 0) hX dL_isStruck_445 rfl ?_
            exact K446 0 (by omega)
          · skip
            refine zz_iload hX dL_isStruck_433 19 rfl ?_
            refine zz_sipush (v := nI 1000) hX dL_isStruck_435 rfl ?_
            refine zz_icmp_ge hX 445 dL_isStruck_438 (by decide) (fun c438 => ?_) (fun c438 => ?_)
            · skip
              refine zz_iconst (v := nI 0) hX dL_isStruck_445 rfl ?_
              exact K446 0 (by omega)
            · skip
              refine zz_iconst (v := nI 1) hX dL_isStruck_441 rfl ?_
              refine zz_goto hX 446 dL_isStruck_442 (by decide) ?_
              exact K446 1 (by omega)
      refine zz_iload hX dL_isStruck_368 13 rfl ?_
      refine zz_bipush (v := nI 9) hX dL_isStruck_370 rfl ?_
      refine zz_irem (z := nI (two % 9)) hX dL_isStruck_372 (by decide) (pk_rem (by omega) (by decide) (by decide)) ?_
      refine zz_if_neN hX (by omega) 394 dL_isStruck_373 (by decide) (fun c373 => ?_) (fun c373 => ?_)
      · skip
        refine zz_iload hX dL_isStruck_394 13 rfl ?_
        refine zz_sipush (v := nI 1999) hX dL_isStruck_396 rfl ?_
        refine zz_irem (z := nI (two % 1999)) hX dL_isStruck_399 (by decide) (pk_rem (by omega) (by decide) (by decide)) ?_
        refine zz_sipush (v := nI 999) hX dL_isStruck_400 rfl ?_
        refine zz_isub (z := (nI (two % 1999)) - (nI 999)) hX dL_isStruck_403 rfl ?_
        exact K404 ((nI (two % 1999)) - (nI 999)) (⟨two % 1999 + 1, by omega, zs_shf9 (by omega) (by decide) (by decide)⟩)
      · skip
        refine zz_iload hX dL_isStruck_376 13 rfl ?_
        refine zz_bipush (v := nI 9) hX dL_isStruck_378 rfl ?_
        refine zz_idiv (z := nI (two / 9)) hX dL_isStruck_380 (by decide) (pk_div (by omega) (by decide) (by decide)) ?_
        refine zz_iconst (v := nI 2) hX dL_isStruck_381 rfl ?_
        refine zz_irem (z := nI ((two / 9) % 2)) hX dL_isStruck_382 (by decide) (pk_rem (by omega) (by decide) (by decide)) ?_
        refine zz_sipush (v := nI 2000) hX dL_isStruck_383 rfl ?_
        refine zz_imul (z := nI (((two / 9) % 2) * 2000)) hX dL_isStruck_386 (pk_mul _ _) ?_
        refine zz_sipush (v := nI 1000) hX dL_isStruck_387 rfl ?_
        refine zz_isub (z := (nI (((two / 9) % 2) * 2000)) - (nI 1000)) hX dL_isStruck_390 rfl ?_
        refine zz_goto hX 404 dL_isStruck_391 (by decide) ?_
        exact K404 ((nI (((two / 9) % 2) * 2000)) - (nI 1000)) (⟨_, by omega, rfl⟩)
    refine zz_iload hX dL_isStruck_63 12 rfl ?_
    refine zz_iconst (v := nI 4) hX dL_isStruck_65 rfl ?_
    refine zz_idiv (z := nI (one / 4)) hX dL_isStruck_66 (by decide) (pk_div (by omega) (by decide) (by decide)) ?_
    refine zz_bipush (v := nI 9) hX dL_isStruck_67 rfl ?_
    refine zz_irem (z := nI ((one / 4) % 9)) hX dL_isStruck_69 (by decide) (pk_rem (by omega) (by decide) (by decide)) ?_
    refine zz_bipush (v := nI 8) hX dL_isStruck_70 rfl ?_
    refine zz_icmp_neN hX (by omega) (by decide) 80 dL_isStruck_72 (by decide) (fun c72 => ?_) (fun c72 => ?_)
    · skip
      refine zz_iload hX dL_isStruck_80 16 rfl ?_
      refine zz_if_neN hX (by omega) 89 dL_isStruck_82 (by decide) (fun c82 => ?_) (fun c82 => absurd c82 (by omega))
      refine zz_iload hX dL_isStruck_89 12 rfl ?_
      refine zz_iconst (v := nI 4) hX dL_isStruck_91 rfl ?_
      refine zz_idiv (z := nI (one / 4)) hX dL_isStruck_92 (by decide) (pk_div (by omega) (by decide) (by decide)) ?_
      refine zz_iload hX dL_isStruck_93 16 rfl ?_
      refine zz_irem (z := nI ((one / 4) % (zv_fr S q))) hX dL_isStruck_95 (nI_ne0 (by omega) (by omega)) (pk_rem (by omega) (by omega) (by omega)) ?_
      exact K96 ((one / 4) % (zv_fr S q)) (by first | omega | exact Nat.le_of_lt (Nat.mod_lt _ (by omega)))
    · skip
      refine zz_iload hX dL_isStruck_75 16 rfl ?_
      refine zz_goto hX 96 dL_isStruck_77 (by decide) ?_
      exact K96 (zv_fr S q) (by first | omega | exact Nat.le_of_lt (Nat.mod_lt _ (by omega)))
  · skip
    refine zz_iload hX dL_isStruck_11 14 rfl ?_
    refine zz_aload hX dL_isStruck_13 10 rfl ?_
    refine zz_iconst (v := nI 2) hX dL_isStruck_15 rfl ?_
    refine zz_iald (x := nI (zv_ns S)) hX (ql_s109 hI) 2 rfl (by decide) (by decide) ((ql_g2 hI)) dL_isStruck_16 ?_
    refine zz_icmp_geN hX (by omega) (by omega) 24 dL_isStruck_17 (by decide) (fun c17 => ?_) (fun c17 => absurd c17 (by omega))
    refine zz_iconst (v := nI 0) hX dL_isStruck_24 rfl ?_
    refine zz_istore (ls' := [(0, .ref 2), (1, .ref 100), (2, .ref 101), (3, .ref 102), (4, .ref 103), (5, .ref 104), (6, .ref 105), (7, .ref 106), (8, .ref 107), (9, .ref 108), (10, .ref 109), (11, .int (nI 1)), (12, .int (nI one)), (13, .int (nI two)), (14, .int (nI q)), (15, .int (nI 0))]) hX dL_isStruck_25 (Nat.le_of_ble_eq_true rfl) rfl ?_
    refine zz_iload hX dL_isStruck_27 15 rfl ?_
    refine zz_if_eq hX 42 dL_isStruck_29 (by decide) (fun _ => ?_) (fun c => absurd c (by decide))
    refine zz_iconst (v := nI 0) hX dL_isStruck_42 rfl ?_
    refine zz_istore (ls' := [(0, .ref 2), (1, .ref 100), (2, .ref 101), (3, .ref 102), (4, .ref 103), (5, .ref 104), (6, .ref 105), (7, .ref 106), (8, .ref 107), (9, .ref 108), (10, .ref 109), (11, .int (nI 1)), (12, .int (nI one)), (13, .int (nI two)), (14, .int (nI q)), (15, .int (nI 0)), (16, .int (nI 0))]) hX dL_isStruck_43 (Nat.le_of_ble_eq_true rfl) rfl ?_
    refine zz_iload hX dL_isStruck_45 15 rfl ?_
    refine zz_if_eq hX 60 dL_isStruck_47 (by decide) (fun _ => ?_) (fun c => absurd c (by decide))
    refine zz_iconst (v := nI 0) hX dL_isStruck_60 rfl ?_
    refine zz_istore (ls' := [(0, .ref 2), (1, .ref 100), (2, .ref 101), (3, .ref 102), (4, .ref 103), (5, .ref 104), (6, .ref 105), (7, .ref 106), (8, .ref 107), (9, .ref 108), (10, .ref 109), (11, .int (nI 1)), (12, .int (nI one)), (13, .int (nI two)), (14, .int (nI q)), (15, .int (nI 0)), (16, .int (nI 0)), (17, .int (nI 0))]) hX dL_isStruck_61 (Nat.le_of_ble_eq_true rfl) rfl ?_
    have K96 : zz Γ (D, E, 24, ad, sh) (zz_End Γ (D, E, 24, ad, sh) (ql_T n) zz_none 10 60) 0 0 sh mi mr 96 [(0, .ref 2), (1, .ref 100), (2, .ref 101), (3, .ref 102), (4, .ref 103), (5, .ref 104), (6, .ref 105), (7, .ref 106), (8, .ref 107), (9, .ref 108), (10, .ref 109), (11, .int (nI 1)), (12, .int (nI one)), (13, .int (nI two)), (14, .int (nI q)), (15, .int (nI 0)), (16, .int (nI 0)), (17, .int (nI 0))] [.int (nI 0)] := by
      refine zz_istore (ls' := [(0, .ref 2), (1, .ref 100), (2, .ref 101), (3, .ref 102), (4, .ref 103), (5, .ref 104), (6, .ref 105), (7, .ref 106), (8, .ref 107), (9, .ref 108), (10, .ref 109), (11, .int (nI 1)), (12, .int (nI one)), (13, .int (nI two)), (14, .int (nI q)), (15, .int (nI 0)), (16, .int (nI 0)), (17, .int (nI 0)), (18, .int (nI 0))]) hX dL_isStruck_96 (Nat.le_of_ble_eq_true rfl) rfl ?_
      refine zz_iload hX dL_isStruck_98 11 rfl ?_
      refine zz_if_ne hX 362 dL_isStruck_100 (by decide) (fun _ => ?_) (fun c => absurd c (by decide))
      refine zz_iload hX dL_isStruck_362 11 rfl ?_
      refine zz_iconst (v := nI 1) hX dL_isStruck_364 rfl ?_
      refine zz_icmp_ne hX 573 dL_isStruck_365 (by decide) (fun c => absurd c (by decide)) (fun _ => ?_)
      have K404 : ∀ x9 : Int32, (∃ z, z ≤ 2000 ∧ x9 = nI z - nI 1000) → zz Γ (D, E, 24, ad, sh) (zz_End Γ (D, E, 24, ad, sh) (ql_T n) zz_none 10 60) 0 0 sh mi mr 404 [(0, .ref 2), (1, .ref 100), (2, .ref 101), (3, .ref 102), (4, .ref 103), (5, .ref 104), (6, .ref 105), (7, .ref 106), (8, .ref 107), (9, .ref 108), (10, .ref 109), (11, .int (nI 1)), (12, .int (nI one)), (13, .int (nI two)), (14, .int (nI q)), (15, .int (nI 0)), (16, .int (nI 0)), (17, .int (nI 0)), (18, .int (nI 0))] [.int x9] := by
        intro x9 hx9
        obtain ⟨z, hz9, rfl⟩ := hx9
        refine zz_istore (ls' := [(0, .ref 2), (1, .ref 100), (2, .ref 101), (3, .ref 102), (4, .ref 103), (5, .ref 104), (6, .ref 105), (7, .ref 106), (8, .ref 107), (9, .ref 108), (10, .ref 109), (11, .int (nI 1)), (12, .int (nI one)), (13, .int (nI two)), (14, .int (nI q)), (15, .int (nI 0)), (16, .int (nI 0)), (17, .int (nI 0)), (18, .int (nI 0)), (19, .int (nI z - nI 1000))]) hX dL_isStruck_404 (Nat.le_of_ble_eq_true rfl) rfl ?_
        refine zz_iload hX dL_isStruck_406 15 rfl ?_
        refine zz_if_eq hX 422 dL_isStruck_408 (by decide) (fun _ => ?_) (fun c => absurd c (by decide))
        refine zz_iconst (v := nI 0) hX dL_isStruck_422 rfl ?_
        refine zz_istore (ls' := [(0, .ref 2), (1, .ref 100), (2, .ref 101), (3, .ref 102), (4, .ref 103), (5, .ref 104), (6, .ref 105), (7, .ref 106), (8, .ref 107), (9, .ref 108), (10, .ref 109), (11, .int (nI 1)), (12, .int (nI one)), (13, .int (nI two)), (14, .int (nI q)), (15, .int (nI 0)), (16, .int (nI 0)), (17, .int (nI 0)), (18, .int (nI 0)), (19, .int (nI z - nI 1000)), (20, .int (nI 0))]) hX dL_isStruck_423 (Nat.le_of_ble_eq_true rfl) rfl ?_
        have K446 : ∀ b : Nat, b ≤ 1 → zz Γ (D, E, 24, ad, sh) (zz_End Γ (D, E, 24, ad, sh) (ql_T n) zz_none 10 60) 0 0 sh mi mr 446 [(0, .ref 2), (1, .ref 100), (2, .ref 101), (3, .ref 102), (4, .ref 103), (5, .ref 104), (6, .ref 105), (7, .ref 106), (8, .ref 107), (9, .ref 108), (10, .ref 109), (11, .int (nI 1)), (12, .int (nI one)), (13, .int (nI two)), (14, .int (nI q)), (15, .int (nI 0)), (16, .int (nI 0)), (17, .int (nI 0)), (18, .int (nI 0)), (19, .int (nI z - nI 1000)), (20, .int (nI 0))] [.int (nI b)] := by
          intro b hb
          refine zz_istore (ls' := [(0, .ref 2), (1, .ref 100), (2, .ref 101), (3, .ref 102), (4, .ref 103), (5, .ref 104), (6, .ref 105), (7, .ref 106), (8, .ref 107), (9, .ref 108), (10, .ref 109), (11, .int (nI 1)), (12, .int (nI one)), (13, .int (nI two)), (14, .int (nI q)), (15, .int (nI 0)), (16, .int (nI 0)), (17, .int (nI 0)), (18, .int (nI 0)), (19, .int (nI z - nI 1000)), (20, .int (nI 0)), (21, .int (nI b))]) hX dL_isStruck_446 (Nat.le_of_ble_eq_true rfl) rfl ?_
          refine zz_iload hX dL_isStruck_448 20 rfl ?_
          refine zz_if_eq hX 469 dL_isStruck_450 (by decide) (fun _ => ?_) (fun c => absurd c (by decide))
          refine zz_iconst (v := nI 0) hX dL_isStruck_469 rfl ?_
          refine zz_istore (ls' := [(0, .ref 2), (1, .ref 100), (2, .ref 101), (3, .ref 102), (4, .ref 103), (5, .ref 104), (6, .ref 105), (7, .ref 106), (8, .ref 107), (9, .ref 108), (10, .ref 109), (11, .int (nI 1)), (12, .int (nI one)), (13, .int (nI two)), (14, .int (nI q)), (15, .int (nI 0)), (16, .int (nI 0)), (17, .int (nI 0)), (18, .int (nI 0)), (19, .int (nI z - nI 1000)), (20, .int (nI 0)), (21, .int (nI b)), (22, .int (nI 0))]) hX dL_isStruck_470 (Nat.le_of_ble_eq_true rfl) rfl ?_
          refine zz_iload hX dL_isStruck_472 20 rfl ?_
          refine zz_if_eq hX 489 dL_isStruck_474 (by decide) (fun _ => ?_) (fun c => absurd c (by decide))
          refine zz_iconst (v := nI 0) hX dL_isStruck_489 rfl ?_
          refine zz_istore (ls' := [(0, .ref 2), (1, .ref 100), (2, .ref 101), (3, .ref 102), (4, .ref 103), (5, .ref 104), (6, .ref 105), (7, .ref 106), (8, .ref 107), (9, .ref 108), (10, .ref 109), (11, .int (nI 1)), (12, .int (nI one)), (13, .int (nI two)), (14, .int (nI q)), (15, .int (nI 0)), (16, .int (nI 0)), (17, .int (nI 0)), (18, .int (nI 0)), (19, .int (nI z - nI 1000)), (20, .int (nI 0)), (21, .int (nI b)), (22, .int (nI 0)), (23, .int (nI 0))]) hX dL_isStruck_490 (Nat.le_of_ble_eq_true rfl) rfl ?_
          refine zz_aload hX dL_isStruck_492 7 rfl ?_
          refine zz_iload hX dL_isStruck_494 22 rfl ?_
          refine zz_if_eq hX 510 dL_isStruck_496 (by decide) (fun _ => ?_) (fun c => absurd c (by decide))
          refine zz_bipush (v := nI 18) hX dL_isStruck_510 rfl ?_
          refine zz_iload hX dL_isStruck_512 19 rfl ?_
          refine zz_sipush (v := nI 1000) hX dL_isStruck_514 rfl ?_
          refine zz_iadd (z := nI z) hX dL_isStruck_517 (Int32.sub_add_cancel _ _) ?_
          refine zz_iast hX (ql_s106 hI) 18 rfl (by decide) (by decide) dL_isStruck_518 ?_
          refine zz_aload_n hX dL_isStruck_519 0 rfl rfl ?_
          refine zz_bipush (v := nI 9) hX dL_isStruck_520 rfl ?_
          refine zz_iload hX dL_isStruck_522 14 rfl ?_
          refine zz_iload hX dL_isStruck_524 18 rfl ?_
          refine zz_iload hX dL_isStruck_526 19 rfl ?_
          refine zz_iconst (v := nI 0) hX dL_isStruck_528 rfl ?_
          refine zz_callSH hX zf_M_L_161 (As := [.ref 2, .int (nI 9), .int (nI q), .int (nI 0), .int (nI z - nI 1000), .int (nI 0)]) (st := []) (D_camera S sh (zm_u2 mi 106 18 (nI z)) mr (ql_W hI) (ql_R_f (ql_W hI) hR (M := (zm_u2 mi 106 18 (nI z))) (fun l hl => zm_u2r (by omega))) (nI q) (nI 0) (nI z - nI 1000) (nI 0)) rfl rfl (by decide) (Nat.le_of_ble_eq_true rfl) (Nat.le_of_ble_eq_true rfl) (Nat.le_of_ble_eq_true rfl) dL_isStruck_529 ?_ (fun _ _ _ _ h _ => h.elim)
          rintro v9 s9 i9 m9 ⟨k9, rfl, hk9, hS9⟩ -
          obtain ⟨e9, hR9⟩ := zq_d2 hk9 (fun h => g0 (zs_ixl h.1 (by omega)))
          obtain rfl := e9.symm
          refine zz_iload hX dL_isStruck_532 20 rfl ?_
          refine zz_if_ne hX 542 dL_isStruck_534 (by decide) (fun c => absurd c (by decide)) (fun _ => ?_)
          refine zz_ldc (v := -3000000) hX zw_con_L_84 dL_isStruck_537 ?_
          refine zz_goto hX 564 dL_isStruck_539 (by decide) ?_
          refine zz_icmp_ne hX 571 dL_isStruck_564 (by decide) (fun c => absurd c (by decide)) (fun _ => ?_)
          refine zz_iconst (v := nI 1) hX dL_isStruck_567 rfl ?_
          refine zz_goto hX 572 dL_isStruck_568 (by decide) ?_
          refine zz_iret hX hr rfl (Nat.le_of_ble_eq_true rfl) (Nat.le_of_ble_eq_true rfl) dL_isStruck_572 ?_
          exact ⟨rfl, ⟨_, ql_J_end hn (ql_W hI) (ql_B_mono (ql_BB hI) (by omega)) (ql_N_g hI.2.2.2 n3 hsm.1 (by unfold ql_gar; omega)) hR9 hS9⟩, ql_10 h10 hS9⟩
        refine zz_iload hX dL_isStruck_425 19 rfl ?_
        refine zz_sipush (v := (-1000)) hX dL_isStruck_427 rfl ?_
        refine zz_icmp_le hX 445 dL_isStruck_430 (by decide) (fun c430 => ?_) (fun c430 => ?_)
        · skip
          refine zz_iconst (v := nI 0) hX dL_isStruck_445 rfl ?_
          exact K446 0 (by omega)
        · skip
          refine zz_iload hX dL_isStruck_433 19 rfl ?_
          refine zz_sipush (v := nI 1000) hX dL_isStruck_435 rfl ?_
          refine zz_icmp_ge hX 445 dL_isStruck_438 (by decide) (fun c438 => ?_) (fun c438 => ?_)
          · skip
            refine zz_iconst (v := nI 0) hX dL_isStruck_445 rfl ?_
            exact K446 0 (by omega)
          · skip
            refine zz_iconst (v := nI 1) hX dL_isStruck_441 rfl ?_
            refine zz_goto hX 446 dL_isStruck_442 (by decide) ?_
            exact K446 1 (by omega)
      refine zz_iload hX dL_isStruck_368 13 rfl ?_
      refine zz_bipush (v := nI 9) hX dL_isStruck_370 rfl ?_
      refine zz_irem (z := nI (two % 9)) hX dL_isStruck_372 (by decide) (pk_rem (by omega) (by decide) (by decide)) ?_
      refine zz_if_neN hX (by omega) 394 dL_isStruck_373 (by decide) (fun c373 => ?_) (fun c373 => ?_)
      · skip
        refine zz_iload hX dL_isStruck_394 13 rfl ?_
        refine zz_sipush (v := nI 1999) hX dL_isStruck_396 rfl ?_
        refine zz_irem (z := nI (two % 1999)) hX dL_isStruck_399 (by decide) (pk_rem (by omega) (by decide) (by decide)) ?_
        refine zz_sipush (v := nI 999) hX dL_isStruck_400 rfl ?_
        refine zz_isub (z := (nI (two % 1999)) - (nI 999)) hX dL_isStruck_403 rfl ?_
        exact K404 ((nI (two % 1999)) - (nI 999)) (⟨two % 1999 + 1, by omega, zs_shf9 (by omega) (by decide) (by decide)⟩)
      · skip
        refine zz_iload hX dL_isStruck_376 13 rfl ?_
        refine zz_bipush (v := nI 9) hX dL_isStruck_378 rfl ?_
        refine zz_idiv (z := nI (two / 9)) hX dL_isStruck_380 (by decide) (pk_div (by omega) (by decide) (by decide)) ?_
        refine zz_iconst (v := nI 2) hX dL_isStruck_381 rfl ?_
        refine zz_irem (z := nI ((two / 9) % 2)) hX dL_isStruck_382 (by decide) (pk_rem (by omega) (by decide) (by decide)) ?_
        refine zz_sipush (v := nI 2000) hX dL_isStruck_383 rfl ?_
        refine zz_imul (z := nI (((two / 9) % 2) * 2000)) hX dL_isStruck_386 (pk_mul _ _) ?_
        refine zz_sipush (v := nI 1000) hX dL_isStruck_387 rfl ?_
        refine zz_isub (z := (nI (((two / 9) % 2) * 2000)) - (nI 1000)) hX dL_isStruck_390 rfl ?_
        refine zz_goto hX 404 dL_isStruck_391 (by decide) ?_
        exact K404 ((nI (((two / 9) % 2) * 2000)) - (nI 1000)) (⟨_, by omega, rfl⟩)
    refine zz_iload hX dL_isStruck_63 12 rfl ?_
    refine zz_iconst (v := nI 4) hX dL_isStruck_65 rfl ?_
    refine zz_idiv (z := nI (one / 4)) hX dL_isStruck_66 (by decide) (pk_div (by omega) (by decide) (by decide)) ?_
    refine zz_bipush (v := nI 9) hX dL_isStruck_67 rfl ?_
    refine zz_irem (z := nI ((one / 4) % 9)) hX dL_isStruck_69 (by decide) (pk_rem (by omega) (by decide) (by decide)) ?_
    refine zz_bipush (v := nI 8) hX dL_isStruck_70 rfl ?_
    refine zz_icmp_neN hX (by omega) (by decide) 80 dL_isStruck_72 (by decide) (fun c72 => ?_) (fun c72 => ?_)
    · skip
      refine zz_iload hX dL_isStruck_80 16 rfl ?_
      refine zz_if_ne hX 89 dL_isStruck_82 (by decide) (fun c => absurd c (by decide)) (fun _ => ?_)
      refine zz_iconst (v := nI 0) hX dL_isStruck_85 rfl ?_
      refine zz_goto hX 96 dL_isStruck_86 (by decide) ?_
      exact zz_top (rfl) K96
    · skip
      refine zz_iload hX dL_isStruck_75 16 rfl ?_
      refine zz_goto hX 96 dL_isStruck_77 (by decide) ?_
      exact zz_top (rfl) K96

set_option maxHeartbeats 1000000 in
set_option maxRecDepth 20000 in
theorem S_play (n : Nat) (hn : n + 1 ≤ 64) (S : zS) (sh : zm_Sh) (mi : zm_Mi) (mr : zm_Mr) (hI : ql_I n S sh mi) (hR : zR S sh mi mr) (h10 : sh 10 = some (9, 0)) (one two : Nat) (ho : one < 60000) (ht : two < 60000)  : zz_Con yL_isStruck (.code yL_isStruck cL_isStruck 24 (some Jvm.ClassFile.FieldType.boolean)) 12 10 60 [.ref 2, .ref 100, .ref 101, .ref 102, .ref 103, .ref 104, .ref 105, .ref 106, .ref 107, .ref 108, .ref 109, .int (nI 2), .int (nI one), .int (nI two)] sh mi mr (ql_T n) zz_none := by
  refine zz_begin RL [(0, .ref 2), (1, .ref 100), (2, .ref 101), (3, .ref 102), (4, .ref 103), (5, .ref 104), (6, .ref 105), (7, .ref 106), (8, .ref 107), (9, .ref 108), (10, .ref 109), (11, .int (nI 2)), (12, .int (nI one)), (13, .int (nI two))] (by decide) rfl rfl (Nat.le_of_ble_eq_true rfl) rfl ?_
  intro Γ D E ad hX hr hN hT
  obtain ⟨n1, n2, n3, n4⟩ := ql_num hI
  have hsm := ql_small hI
  refine zz_iload hX dL_isStruck_0 12 rfl ?_
  refine zz_aload hX dL_isStruck_2 10 rfl ?_
  refine zz_iconst (v := nI 2) hX dL_isStruck_4 rfl ?_
  refine zz_iald (x := nI (zv_ns S)) hX (ql_s109 hI) 2 rfl (by decide) (by decide) ((ql_g2 hI)) dL_isStruck_5 ?_
  refine zz_iconst (v := nI 1) hX dL_isStruck_6 rfl ?_
  refine zz_iadd (z := nI (zv_ns S + 1)) hX dL_isStruck_7 (nI_add _ _) ?_
  refine zz_irem (z := nI (one % (zv_ns S + 1))) hX dL_isStruck_8 (nI_ne0 (by omega) (by omega)) (pk_rem (by omega) (by omega) (by omega)) ?_
  have hq9 : one % (zv_ns S + 1) < zv_ns S + 1 := Nat.mod_lt _ (by omega)
  generalize one % (zv_ns S + 1) = q at hq9 ⊢
  have z_q : zn (nI q) = q := nI_clamp (n := q) (by omega)
  refine zz_istore (ls' := [(0, .ref 2), (1, .ref 100), (2, .ref 101), (3, .ref 102), (4, .ref 103), (5, .ref 104), (6, .ref 105), (7, .ref 106), (8, .ref 107), (9, .ref 108), (10, .ref 109), (11, .int (nI 2)), (12, .int (nI one)), (13, .int (nI two)), (14, .int (nI q))]) hX dL_isStruck_9 (Nat.le_of_ble_eq_true rfl) rfl ?_
  by_cases g0 : q < zv_ns S
  · skip
    have hwq := ql_hw_lt hI g0
    obtain ⟨q1, q2, q3, q4, q5, q6, q7, q8, q9, q10, q11, q12⟩ := ql_shot hI g0
    refine zz_iload hX dL_isStruck_11 14 rfl ?_
    refine zz_aload hX dL_isStruck_13 10 rfl ?_
    refine zz_iconst (v := nI 2) hX dL_isStruck_15 rfl ?_
    refine zz_iald (x := nI (zv_ns S)) hX (ql_s109 hI) 2 rfl (by decide) (by decide) ((ql_g2 hI)) dL_isStruck_16 ?_
    refine zz_icmp_geN hX (by omega) (by omega) 24 dL_isStruck_17 (by decide) (fun c17 => absurd c17 (by omega)) (fun c17 => ?_)
    refine zz_iconst (v := nI 1) hX dL_isStruck_20 rfl ?_
    refine zz_goto hX 25 dL_isStruck_21 (by decide) ?_
    refine zz_istore (ls' := [(0, .ref 2), (1, .ref 100), (2, .ref 101), (3, .ref 102), (4, .ref 103), (5, .ref 104), (6, .ref 105), (7, .ref 106), (8, .ref 107), (9, .ref 108), (10, .ref 109), (11, .int (nI 2)), (12, .int (nI one)), (13, .int (nI two)), (14, .int (nI q)), (15, .int (nI 1))]) hX dL_isStruck_25 (Nat.le_of_ble_eq_true rfl) rfl ?_
    refine zz_iload hX dL_isStruck_27 15 rfl ?_
    refine zz_if_eq hX 42 dL_isStruck_29 (by decide) (fun c => absurd c (by decide)) (fun _ => ?_)
    refine zz_aload hX dL_isStruck_32 5 rfl ?_
    refine zz_iload hX dL_isStruck_34 14 rfl ?_
    refine zz_sI (x := nI (zv_fr S q)) hX zf_M_L_105 (As := [.ref 104, .int (nI q)]) (st := []) (Q_frames n S sh mi mr hI q (by omega)) rfl rfl (by decide) (Nat.le_of_ble_eq_true rfl) (Nat.le_of_ble_eq_true rfl) (Nat.le_of_ble_eq_true rfl) dL_isStruck_36 ?_
    refine zz_goto hX 43 dL_isStruck_39 (by decide) ?_
    refine zz_istore (ls' := [(0, .ref 2), (1, .ref 100), (2, .ref 101), (3, .ref 102), (4, .ref 103), (5, .ref 104), (6, .ref 105), (7, .ref 106), (8, .ref 107), (9, .ref 108), (10, .ref 109), (11, .int (nI 2)), (12, .int (nI one)), (13, .int (nI two)), (14, .int (nI q)), (15, .int (nI 1)), (16, .int (nI (zv_fr S q)))]) hX dL_isStruck_43 (Nat.le_of_ble_eq_true rfl) rfl ?_
    refine zz_iload hX dL_isStruck_45 15 rfl ?_
    refine zz_if_eq hX 60 dL_isStruck_47 (by decide) (fun c => absurd c (by decide)) (fun _ => ?_)
    refine zz_aload hX dL_isStruck_50 5 rfl ?_
    refine zz_iload hX dL_isStruck_52 14 rfl ?_
    refine zz_sI (x := nI (zv_sk S q)) hX zf_M_L_101 (As := [.ref 104, .int (nI q)]) (st := []) (Q_struck n S sh mi mr hI q (by omega)) rfl rfl (by decide) (Nat.le_of_ble_eq_true rfl) (Nat.le_of_ble_eq_true rfl) (Nat.le_of_ble_eq_true rfl) dL_isStruck_54 ?_
    refine zz_goto hX 61 dL_isStruck_57 (by decide) ?_
    refine zz_istore (ls' := [(0, .ref 2), (1, .ref 100), (2, .ref 101), (3, .ref 102), (4, .ref 103), (5, .ref 104), (6, .ref 105), (7, .ref 106), (8, .ref 107), (9, .ref 108), (10, .ref 109), (11, .int (nI 2)), (12, .int (nI one)), (13, .int (nI two)), (14, .int (nI q)), (15, .int (nI 1)), (16, .int (nI (zv_fr S q))), (17, .int (nI (zv_sk S q)))]) hX dL_isStruck_61 (Nat.le_of_ble_eq_true rfl) rfl ?_
    have K96 : ∀ f : Nat, f ≤ zv_fr S q → zz Γ (D, E, 24, ad, sh) (zz_End Γ (D, E, 24, ad, sh) (ql_T n) zz_none 10 60) 0 0 sh mi mr 96 [(0, .ref 2), (1, .ref 100), (2, .ref 101), (3, .ref 102), (4, .ref 103), (5, .ref 104), (6, .ref 105), (7, .ref 106), (8, .ref 107), (9, .ref 108), (10, .ref 109), (11, .int (nI 2)), (12, .int (nI one)), (13, .int (nI two)), (14, .int (nI q)), (15, .int (nI 1)), (16, .int (nI (zv_fr S q))), (17, .int (nI (zv_sk S q)))] [.int (nI f)] := by
      intro f hf
      have z_f : zn (nI f) = f := nI_clamp (n := f) (by omega)
      refine zz_istore (ls' := [(0, .ref 2), (1, .ref 100), (2, .ref 101), (3, .ref 102), (4, .ref 103), (5, .ref 104), (6, .ref 105), (7, .ref 106), (8, .ref 107), (9, .ref 108), (10, .ref 109), (11, .int (nI 2)), (12, .int (nI one)), (13, .int (nI two)), (14, .int (nI q)), (15, .int (nI 1)), (16, .int (nI (zv_fr S q))), (17, .int (nI (zv_sk S q))), (18, .int (nI f))]) hX dL_isStruck_96 (Nat.le_of_ble_eq_true rfl) rfl ?_
      refine zz_iload hX dL_isStruck_98 11 rfl ?_
      refine zz_if_ne hX 362 dL_isStruck_100 (by decide) (fun _ => ?_) (fun c => absurd c (by decide))
      refine zz_iload hX dL_isStruck_362 11 rfl ?_
      refine zz_iconst (v := nI 1) hX dL_isStruck_364 rfl ?_
      refine zz_icmp_ne hX 573 dL_isStruck_365 (by decide) (fun _ => ?_) (fun c => absurd c (by decide))
      refine zz_iload hX dL_isStruck_573 11 rfl ?_
      refine zz_iconst (v := nI 2) hX dL_isStruck_575 rfl ?_
      refine zz_icmp_ne hX 644 dL_isStruck_576 (by decide) (fun c => absurd c (by decide)) (fun _ => ?_)
      refine zz_iload hX dL_isStruck_579 12 rfl ?_
      refine zz_bipush (v := nI 22) hX dL_isStruck_581 rfl ?_
      refine zz_irem (z := nI (one % 22)) hX dL_isStruck_583 (by decide) (pk_rem (by omega) (by decide) (by decide)) ?_
      have hu9 : one % 22 < 22 := Nat.mod_lt _ (by omega)
      generalize one % 22 = u at hu9 ⊢
      have z_u : zn (nI u) = u := nI_clamp (n := u) (by omega)
      refine zz_istore (ls' := [(0, .ref 2), (1, .ref 100), (2, .ref 101), (3, .ref 102), (4, .ref 103), (5, .ref 104), (6, .ref 105), (7, .ref 106), (8, .ref 107), (9, .ref 108), (10, .ref 109), (11, .int (nI 2)), (12, .int (nI one)), (13, .int (nI two)), (14, .int (nI q)), (15, .int (nI 1)), (16, .int (nI (zv_fr S q))), (17, .int (nI (zv_sk S q))), (18, .int (nI f)), (19, .int (nI u))]) hX dL_isStruck_584 (Nat.le_of_ble_eq_true rfl) rfl ?_
      by_cases u0 : u < 21
      · skip
        refine zz_aload hX dL_isStruck_586 10 rfl ?_
        refine zz_iconst (v := nI 3) hX dL_isStruck_588 rfl ?_
        refine zz_iald (x := S 20 0) hX (ql_s109 hI) 3 rfl (by decide) (by decide) ((ql_g3 hI)) dL_isStruck_589 ?_
        refine zz_istore (ls' := [(0, .ref 2), (1, .ref 100), (2, .ref 101), (3, .ref 102), (4, .ref 103), (5, .ref 104), (6, .ref 105), (7, .ref 106), (8, .ref 107), (9, .ref 108), (10, .ref 109), (11, .int (nI 2)), (12, .int (nI one)), (13, .int (nI two)), (14, .int (nI q)), (15, .int (nI 1)), (16, .int (nI (zv_fr S q))), (17, .int (nI (zv_sk S q))), (18, .int (nI f)), (19, .int (nI u)), (20, .int (S 20 0))]) hX dL_isStruck_590 (Nat.le_of_ble_eq_true rfl) rfl ?_
        refine zz_aload hX dL_isStruck_592 10 rfl ?_
        refine zz_iconst (v := nI 3) hX dL_isStruck_594 rfl ?_
        refine zz_iload hX dL_isStruck_595 19 rfl ?_
        refine zz_bipush (v := nI 21) hX dL_isStruck_597 rfl ?_
        refine zz_icmp_geN hX (by omega) (by decide) 607 dL_isStruck_599 (by decide) (fun c599 => absurd c599 (by omega)) (fun c599 => ?_)
        refine zz_iload hX dL_isStruck_602 19 rfl ?_
        refine zz_goto hX 609 dL_isStruck_604 (by decide) ?_
        refine zz_iast hX (ql_s109 hI) 3 rfl (by decide) (by decide) dL_isStruck_609 ?_
        refine zz_aload_n hX dL_isStruck_610 0 rfl rfl ?_
        refine zz_bipush (v := nI 10) hX dL_isStruck_611 rfl ?_
        refine zz_iload hX dL_isStruck_613 19 rfl ?_
        refine zz_iconst (v := nI 0) hX dL_isStruck_615 rfl ?_
        refine zz_iconst (v := nI 0) hX dL_isStruck_616 rfl ?_
        refine zz_iconst (v := nI 0) hX dL_isStruck_617 rfl ?_
        have hB9 : nI 0 ≤ nI u ∧ nI u ≤ nI 20 := (zs_r2 (by omega)).mpr (by omega)
        refine zz_callSH hX zf_M_L_161 (As := [.ref 2, .int (nI 10), .int (nI u), .int (nI 0), .int (nI 0), .int (nI 0)]) (st := []) (D_play S sh (zm_u2 mi 109 3 (nI u)) mr (ql_W hI) (ql_R_f (ql_W hI) hR (M := (zm_u2 mi 109 3 (nI u))) (fun l hl => zm_u2r (by omega))) (nI u) (nI 0) (nI 0) (nI 0)) rfl rfl (by decide) (Nat.le_of_ble_eq_true rfl) (Nat.le_of_ble_eq_true rfl) (Nat.le_of_ble_eq_true rfl) dL_isStruck_618 ?_ (fun _ _ _ _ h _ => h.elim)
        rintro v9 s9 i9 m9 ⟨k9, rfl, hk9, hS9⟩ -
        obtain ⟨e9, hR9⟩ := zq_d1 hk9 trivial hB9 trivial
        obtain rfl := e9.symm
        refine zz_iload hX dL_isStruck_621 19 rfl ?_
        refine zz_bipush (v := nI 21) hX dL_isStruck_623 rfl ?_
        refine zz_icmp_neN hX (by omega) (by decide) 633 dL_isStruck_625 (by decide) (fun c625 => ?_) (fun c625 => absurd c625 (by omega))
        refine zz_iload hX dL_isStruck_633 20 rfl ?_
        refine zz_icmp_ne hX 642 dL_isStruck_635 (by decide) (fun c635 => absurd rfl c635) (fun c635 => ?_)
        refine zz_iconst (v := nI 1) hX dL_isStruck_638 rfl ?_
        refine zz_goto hX 643 dL_isStruck_639 (by decide) ?_
        refine zz_iret hX hr rfl (Nat.le_of_ble_eq_true rfl) (Nat.le_of_ble_eq_true rfl) dL_isStruck_643 ?_
        exact ⟨rfl, ⟨_, ql_J_end hn (U_play (ql_W hI) (nI u) trivial hB9 trivial) (ql_B_play (ql_BB hI) (by unfold zv_in; rw [nI_toInt (by omega)]; omega)) (ql_N_play hI.2.2.2) hR9 hS9⟩, ql_10 h10 hS9⟩
      · skip
        refine zz_aload hX dL_isStruck_586 10 rfl ?_
        refine zz_iconst (v := nI 3) hX dL_isStruck_588 rfl ?_
        refine zz_iald (x := S 20 0) hX (ql_s109 hI) 3 rfl (by decide) (by decide) ((ql_g3 hI)) dL_isStruck_589 ?_
        refine zz_istore (ls' := [(0, .ref 2), (1, .ref 100), (2, .ref 101), (3, .ref 102), (4, .ref 103), (5, .ref 104), (6, .ref 105), (7, .ref 106), (8, .ref 107), (9, .ref 108), (10, .ref 109), (11, .int (nI 2)), (12, .int (nI one)), (13, .int (nI two)), (14, .int (nI q)), (15, .int (nI 1)), (16, .int (nI (zv_fr S q))), (17, .int (nI (zv_sk S q))), (18, .int (nI f)), (19, .int (nI u)), (20, .int (S 20 0))]) hX dL_isStruck_590 (Nat.le_of_ble_eq_true rfl) rfl ?_
        refine zz_aload hX dL_isStruck_592 10 rfl ?_
        refine zz_iconst (v := nI 3) hX dL_isStruck_594 rfl ?_
        refine zz_iload hX dL_isStruck_595 19 rfl ?_
        refine zz_bipush (v := nI 21) hX dL_isStruck_597 rfl ?_
        refine zz_icmp_geN hX (by omega) (by decide) 607 dL_isStruck_599 (by decide) (fun c599 => ?_) (fun c599 => absurd c599 (by omega))
        refine zz_iload hX dL_isStruck_607 20 rfl ?_
        refine zz_iast hX (ql_s109 hI) 3 rfl (by decide) (by decide) dL_isStruck_609 ?_
        refine zz_aload_n hX dL_isStruck_610 0 rfl rfl ?_
        refine zz_bipush (v := nI 10) hX dL_isStruck_611 rfl ?_
        refine zz_iload hX dL_isStruck_613 19 rfl ?_
        refine zz_iconst (v := nI 0) hX dL_isStruck_615 rfl ?_
        refine zz_iconst (v := nI 0) hX dL_isStruck_616 rfl ?_
        refine zz_iconst (v := nI 0) hX dL_isStruck_617 rfl ?_
        refine zz_callSH hX zf_M_L_161 (As := [.ref 2, .int (nI 10), .int (nI u), .int (nI 0), .int (nI 0), .int (nI 0)]) (st := []) (D_play S sh (zm_u2 mi 109 3 (S 20 0)) mr (ql_W hI) (ql_R_f (ql_W hI) hR (M := (zm_u2 mi 109 3 (S 20 0))) (fun l hl => zm_u2r (by omega))) (nI u) (nI 0) (nI 0) (nI 0)) rfl rfl (by decide) (Nat.le_of_ble_eq_true rfl) (Nat.le_of_ble_eq_true rfl) (Nat.le_of_ble_eq_true rfl) dL_isStruck_618 ?_ (fun _ _ _ _ h _ => h.elim)
        rintro v9 s9 i9 m9 ⟨k9, rfl, hk9, hS9⟩ -
        obtain ⟨e9, hR9⟩ := zq_d3 hk9 trivial (fun h => by have h1 := (zs_r2 (x := u) (by omega)).mp h; omega)
        obtain rfl := e9.symm
        refine zz_iload hX dL_isStruck_621 19 rfl ?_
        refine zz_bipush (v := nI 21) hX dL_isStruck_623 rfl ?_
        refine zz_icmp_neN hX (by omega) (by decide) 633 dL_isStruck_625 (by decide) (fun c625 => absurd c625 (by omega)) (fun c625 => ?_)
        refine zz_ldc (v := -2000000) hX zw_con_L_87 dL_isStruck_628 ?_
        refine zz_goto hX 635 dL_isStruck_630 (by decide) ?_
        refine zz_icmp_ne hX 642 dL_isStruck_635 (by decide) (fun c => absurd c (by decide)) (fun _ => ?_)
        refine zz_iconst (v := nI 1) hX dL_isStruck_638 rfl ?_
        refine zz_goto hX 643 dL_isStruck_639 (by decide) ?_
        refine zz_iret hX hr rfl (Nat.le_of_ble_eq_true rfl) (Nat.le_of_ble_eq_true rfl) dL_isStruck_643 ?_
        exact ⟨rfl, ⟨_, ql_J_end hn (ql_W hI) (ql_B_mono (ql_BB hI) (by omega)) (by rw [zm_u2_id (ql_g3 hI)]; exact hI.2.2.2) hR9 hS9⟩, ql_10 h10 hS9⟩
    refine zz_iload hX dL_isStruck_63 12 rfl ?_
    refine zz_iconst (v := nI 4) hX dL_isStruck_65 rfl ?_
    refine zz_idiv (z := nI (one / 4)) hX dL_isStruck_66 (by decide) (pk_div (by omega) (by decide) (by decide)) ?_
    refine zz_bipush (v := nI 9) hX dL_isStruck_67 rfl ?_
    refine zz_irem (z := nI ((one / 4) % 9)) hX dL_isStruck_69 (by decide) (pk_rem (by omega) (by decide) (by decide)) ?_
    refine zz_bipush (v := nI 8) hX dL_isStruck_70 rfl ?_
    refine zz_icmp_neN hX (by omega) (by decide) 80 dL_isStruck_72 (by decide) (fun c72 => ?_) (fun c72 => ?_)
    · skip
      refine zz_iload hX dL_isStruck_80 16 rfl ?_
      refine zz_if_neN hX (by omega) 89 dL_isStruck_82 (by decide) (fun c82 => ?_) (fun c82 => absurd c82 (by omega))
      refine zz_iload hX dL_isStruck_89 12 rfl ?_
      refine zz_iconst (v := nI 4) hX dL_isStruck_91 rfl ?_
      refine zz_idiv (z := nI (one / 4)) hX dL_isStruck_92 (by decide) (pk_div (by omega) (by decide) (by decide)) ?_
      refine zz_iload hX dL_isStruck_93 16 rfl ?_
      refine zz_irem (z := nI ((one / 4) % (zv_fr S q))) hX dL_isStruck_95 (nI_ne0 (by omega) (by omega)) (pk_rem (by omega) (by omega) (by omega)) ?_
      exact K96 ((one / 4) % (zv_fr S q)) (by first | omega | exact Nat.le_of_lt (Nat.mod_lt _ (by omega)))
    · skip
      refine zz_iload hX dL_isStruck_75 16 rfl ?_
      refine zz_goto hX 96 dL_isStruck_77 (by decide) ?_
      exact K96 (zv_fr S q) (by first | omega | exact Nat.le_of_lt (Nat.mod_lt _ (by omega)))
  · skip
    refine zz_iload hX dL_isStruck_11 14 rfl ?_
    refine zz_aload hX dL_isStruck_13 10 rfl ?_
    refine zz_iconst (v := nI 2) hX dL_isStruck_15 rfl ?_
    refine zz_iald (x := nI (zv_ns S)) hX (ql_s109 hI) 2 rfl (by decide) (by decide) ((ql_g2 hI)) dL_isStruck_16 ?_
    refine zz_icmp_geN hX (by omega) (by omega) 24 dL_isStruck_17 (by decide) (fun c17 => ?_) (fun c17 => absurd c17 (by omega))
    refine zz_iconst (v := nI 0) hX dL_isStruck_24 rfl ?_
    refine zz_istore (ls' := [(0, .ref 2), (1, .ref 100), (2, .ref 101), (3, .ref 102), (4, .ref 103), (5, .ref 104), (6, .ref 105), (7, .ref 106), (8, .ref 107), (9, .ref 108), (10, .ref 109), (11, .int (nI 2)), (12, .int (nI one)), (13, .int (nI two)), (14, .int (nI q)), (15, .int (nI 0))]) hX dL_isStruck_25 (Nat.le_of_ble_eq_true rfl) rfl ?_
    refine zz_iload hX dL_isStruck_27 15 rfl ?_
    refine zz_if_eq hX 42 dL_isStruck_29 (by decide) (fun _ => ?_) (fun c => absurd c (by decide))
    refine zz_iconst (v := nI 0) hX dL_isStruck_42 rfl ?_
    refine zz_istore (ls' := [(0, .ref 2), (1, .ref 100), (2, .ref 101), (3, .ref 102), (4, .ref 103), (5, .ref 104), (6, .ref 105), (7, .ref 106), (8, .ref 107), (9, .ref 108), (10, .ref 109), (11, .int (nI 2)), (12, .int (nI one)), (13, .int (nI two)), (14, .int (nI q)), (15, .int (nI 0)), (16, .int (nI 0))]) hX dL_isStruck_43 (Nat.le_of_ble_eq_true rfl) rfl ?_
    refine zz_iload hX dL_isStruck_45 15 rfl ?_
    refine zz_if_eq hX 60 dL_isStruck_47 (by decide) (fun _ => ?_) (fun c => absurd c (by decide))
    refine zz_iconst (v := nI 0) hX dL_isStruck_60 rfl ?_
    refine zz_istore (ls' := [(0, .ref 2), (1, .ref 100), (2, .ref 101), (3, .ref 102), (4, .ref 103), (5, .ref 104), (6, .ref 105), (7, .ref 106), (8, .ref 107), (9, .ref 108), (10, .ref 109), (11, .int (nI 2)), (12, .int (nI one)), (13, .int (nI two)), (14, .int (nI q)), (15, .int (nI 0)), (16, .int (nI 0)), (17, .int (nI 0))]) hX dL_isStruck_61 (Nat.le_of_ble_eq_true rfl) rfl ?_
    have K96 : zz Γ (D, E, 24, ad, sh) (zz_End Γ (D, E, 24, ad, sh) (ql_T n) zz_none 10 60) 0 0 sh mi mr 96 [(0, .ref 2), (1, .ref 100), (2, .ref 101), (3, .ref 102), (4, .ref 103), (5, .ref 104), (6, .ref 105), (7, .ref 106), (8, .ref 107), (9, .ref 108), (10, .ref 109), (11, .int (nI 2)), (12, .int (nI one)), (13, .int (nI two)), (14, .int (nI q)), (15, .int (nI 0)), (16, .int (nI 0)), (17, .int (nI 0))] [.int (nI 0)] := by
      refine zz_istore (ls' := [(0, .ref 2), (1, .ref 100), (2, .ref 101), (3, .ref 102), (4, .ref 103), (5, .ref 104), (6, .ref 105), (7, .ref 106), (8, .ref 107), (9, .ref 108), (10, .ref 109), (11, .int (nI 2)), (12, .int (nI one)), (13, .int (nI two)), (14, .int (nI q)), (15, .int (nI 0)), (16, .int (nI 0)), (17, .int (nI 0)), (18, .int (nI 0))]) hX dL_isStruck_96 (Nat.le_of_ble_eq_true rfl) rfl ?_
      refine zz_iload hX dL_isStruck_98 11 rfl ?_
      refine zz_if_ne hX 362 dL_isStruck_100 (by decide) (fun _ => ?_) (fun c => absurd c (by decide))
      refine zz_iload hX dL_isStruck_362 11 rfl ?_
      refine zz_iconst (v := nI 1) hX dL_isStruck_364 rfl ?_
      refine zz_icmp_ne hX 573 dL_isStruck_365 (by decide) (fun _ => ?_) (fun c => absurd c (by decide))
      refine zz_iload hX dL_isStruck_573 11 rfl ?_
      refine zz_iconst (v := nI 2) hX dL_isStruck_575 rfl ?_
      refine zz_icmp_ne hX 644 dL_isStruck_576 (by decide) (fun c => absurd c (by decide)) (fun _ => ?_)
      refine zz_iload hX dL_isStruck_579 12 rfl ?_
      refine zz_bipush (v := nI 22) hX dL_isStruck_581 rfl ?_
      refine zz_irem (z := nI (one % 22)) hX dL_isStruck_583 (by decide) (pk_rem (by omega) (by decide) (by decide)) ?_
      have hu9 : one % 22 < 22 := Nat.mod_lt _ (by omega)
      generalize one % 22 = u at hu9 ⊢
      have z_u : zn (nI u) = u := nI_clamp (n := u) (by omega)
      refine zz_istore (ls' := [(0, .ref 2), (1, .ref 100), (2, .ref 101), (3, .ref 102), (4, .ref 103), (5, .ref 104), (6, .ref 105), (7, .ref 106), (8, .ref 107), (9, .ref 108), (10, .ref 109), (11, .int (nI 2)), (12, .int (nI one)), (13, .int (nI two)), (14, .int (nI q)), (15, .int (nI 0)), (16, .int (nI 0)), (17, .int (nI 0)), (18, .int (nI 0)), (19, .int (nI u))]) hX dL_isStruck_584 (Nat.le_of_ble_eq_true rfl) rfl ?_
      by_cases u0 : u < 21
      · skip
        refine zz_aload hX dL_isStruck_586 10 rfl ?_
        refine zz_iconst (v := nI 3) hX dL_isStruck_588 rfl ?_
        refine zz_iald (x := S 20 0) hX (ql_s109 hI) 3 rfl (by decide) (by decide) ((ql_g3 hI)) dL_isStruck_589 ?_
        refine zz_istore (ls' := [(0, .ref 2), (1, .ref 100), (2, .ref 101), (3, .ref 102), (4, .ref 103), (5, .ref 104), (6, .ref 105), (7, .ref 106), (8, .ref 107), (9, .ref 108), (10, .ref 109), (11, .int (nI 2)), (12, .int (nI one)), (13, .int (nI two)), (14, .int (nI q)), (15, .int (nI 0)), (16, .int (nI 0)), (17, .int (nI 0)), (18, .int (nI 0)), (19, .int (nI u)), (20, .int (S 20 0))]) hX dL_isStruck_590 (Nat.le_of_ble_eq_true rfl) rfl ?_
        refine zz_aload hX dL_isStruck_592 10 rfl ?_
        refine zz_iconst (v := nI 3) hX dL_isStruck_594 rfl ?_
        refine zz_iload hX dL_isStruck_595 19 rfl ?_
        refine zz_bipush (v := nI 21) hX dL_isStruck_597 rfl ?_
        refine zz_icmp_geN hX (by omega) (by decide) 607 dL_isStruck_599 (by decide) (fun c599 => absurd c599 (by omega)) (fun c599 => ?_)
        refine zz_iload hX dL_isStruck_602 19 rfl ?_
        refine zz_goto hX 609 dL_isStruck_604 (by decide) ?_
        refine zz_iast hX (ql_s109 hI) 3 rfl (by decide) (by decide) dL_isStruck_609 ?_
        refine zz_aload_n hX dL_isStruck_610 0 rfl rfl ?_
        refine zz_bipush (v := nI 10) hX dL_isStruck_611 rfl ?_
        refine zz_iload hX dL_isStruck_613 19 rfl ?_
        refine zz_iconst (v := nI 0) hX dL_isStruck_615 rfl ?_
        refine zz_iconst (v := nI 0) hX dL_isStruck_616 rfl ?_
        refine zz_iconst (v := nI 0) hX dL_isStruck_617 rfl ?_
        have hB9 : nI 0 ≤ nI u ∧ nI u ≤ nI 20 := (zs_r2 (by omega)).mpr (by omega)
        refine zz_callSH hX zf_M_L_161 (As := [.ref 2, .int (nI 10), .int (nI u), .int (nI 0), .int (nI 0), .int (nI 0)]) (st := []) (D_play S sh (zm_u2 mi 109 3 (nI u)) mr (ql_W hI) (ql_R_f (ql_W hI) hR (M := (zm_u2 mi 109 3 (nI u))) (fun l hl => zm_u2r (by omega))) (nI u) (nI 0) (nI 0) (nI 0)) rfl rfl (by decide) (Nat.le_of_ble_eq_true rfl) (Nat.le_of_ble_eq_true rfl) (Nat.le_of_ble_eq_true rfl) dL_isStruck_618 ?_ (fun _ _ _ _ h _ => h.elim)
        rintro v9 s9 i9 m9 ⟨k9, rfl, hk9, hS9⟩ -
        obtain ⟨e9, hR9⟩ := zq_d1 hk9 trivial hB9 trivial
        obtain rfl := e9.symm
        refine zz_iload hX dL_isStruck_621 19 rfl ?_
        refine zz_bipush (v := nI 21) hX dL_isStruck_623 rfl ?_
        refine zz_icmp_neN hX (by omega) (by decide) 633 dL_isStruck_625 (by decide) (fun c625 => ?_) (fun c625 => absurd c625 (by omega))
        refine zz_iload hX dL_isStruck_633 20 rfl ?_
        refine zz_icmp_ne hX 642 dL_isStruck_635 (by decide) (fun c635 => absurd rfl c635) (fun c635 => ?_)
        refine zz_iconst (v := nI 1) hX dL_isStruck_638 rfl ?_
        refine zz_goto hX 643 dL_isStruck_639 (by decide) ?_
        refine zz_iret hX hr rfl (Nat.le_of_ble_eq_true rfl) (Nat.le_of_ble_eq_true rfl) dL_isStruck_643 ?_
        exact ⟨rfl, ⟨_, ql_J_end hn (U_play (ql_W hI) (nI u) trivial hB9 trivial) (ql_B_play (ql_BB hI) (by unfold zv_in; rw [nI_toInt (by omega)]; omega)) (ql_N_play hI.2.2.2) hR9 hS9⟩, ql_10 h10 hS9⟩
      · skip
        refine zz_aload hX dL_isStruck_586 10 rfl ?_
        refine zz_iconst (v := nI 3) hX dL_isStruck_588 rfl ?_
        refine zz_iald (x := S 20 0) hX (ql_s109 hI) 3 rfl (by decide) (by decide) ((ql_g3 hI)) dL_isStruck_589 ?_
        refine zz_istore (ls' := [(0, .ref 2), (1, .ref 100), (2, .ref 101), (3, .ref 102), (4, .ref 103), (5, .ref 104), (6, .ref 105), (7, .ref 106), (8, .ref 107), (9, .ref 108), (10, .ref 109), (11, .int (nI 2)), (12, .int (nI one)), (13, .int (nI two)), (14, .int (nI q)), (15, .int (nI 0)), (16, .int (nI 0)), (17, .int (nI 0)), (18, .int (nI 0)), (19, .int (nI u)), (20, .int (S 20 0))]) hX dL_isStruck_590 (Nat.le_of_ble_eq_true rfl) rfl ?_
        refine zz_aload hX dL_isStruck_592 10 rfl ?_
        refine zz_iconst (v := nI 3) hX dL_isStruck_594 rfl ?_
        refine zz_iload hX dL_isStruck_595 19 rfl ?_
        refine zz_bipush (v := nI 21) hX dL_isStruck_597 rfl ?_
        refine zz_icmp_geN hX (by omega) (by decide) 607 dL_isStruck_599 (by decide) (fun c599 => ?_) (fun c599 => absurd c599 (by omega))
        refine zz_iload hX dL_isStruck_607 20 rfl ?_
        refine zz_iast hX (ql_s109 hI) 3 rfl (by decide) (by decide) dL_isStruck_609 ?_
        refine zz_aload_n hX dL_isStruck_610 0 rfl rfl ?_
        refine zz_bipush (v := nI 10) hX dL_isStruck_611 rfl ?_
        refine zz_iload hX dL_isStruck_613 19 rfl ?_
        refine zz_iconst (v := nI 0) hX dL_isStruck_615 rfl ?_
        refine zz_iconst (v := nI 0) hX dL_isStruck_616 rfl ?_
        refine zz_iconst (v := nI 0) hX dL_isStruck_617 rfl ?_
        refine zz_callSH hX zf_M_L_161 (As := [.ref 2, .int (nI 10), .int (nI u), .int (nI 0), .int (nI 0), .int (nI 0)]) (st := []) (D_play S sh (zm_u2 mi 109 3 (S 20 0)) mr (ql_W hI) (ql_R_f (ql_W hI) hR (M := (zm_u2 mi 109 3 (S 20 0))) (fun l hl => zm_u2r (by omega))) (nI u) (nI 0) (nI 0) (nI 0)) rfl rfl (by decide) (Nat.le_of_ble_eq_true rfl) (Nat.le_of_ble_eq_true rfl) (Nat.le_of_ble_eq_true rfl) dL_isStruck_618 ?_ (fun _ _ _ _ h _ => h.elim)
        rintro v9 s9 i9 m9 ⟨k9, rfl, hk9, hS9⟩ -
        obtain ⟨e9, hR9⟩ := zq_d3 hk9 trivial (fun h => by have h1 := (zs_r2 (x := u) (by omega)).mp h; omega)
        obtain rfl := e9.symm
        refine zz_iload hX dL_isStruck_621 19 rfl ?_
        refine zz_bipush (v := nI 21) hX dL_isStruck_623 rfl ?_
        refine zz_icmp_neN hX (by omega) (by decide) 633 dL_isStruck_625 (by decide) (fun c625 => absurd c625 (by omega)) (fun c625 => ?_)
        refine zz_ldc (v := -2000000) hX zw_con_L_87 dL_isStruck_628 ?_
        refine zz_goto hX 635 dL_isStruck_630 (by decide) ?_
        refine zz_icmp_ne hX 642 dL_isStruck_635 (by decide) (fun c => absurd c (by decide)) (fun _ => ?_)
        refine zz_iconst (v := nI 1) hX dL_isStruck_638 rfl ?_
        refine zz_goto hX 643 dL_isStruck_639 (by decide) ?_
        refine zz_iret hX hr rfl (Nat.le_of_ble_eq_true rfl) (Nat.le_of_ble_eq_true rfl) dL_isStruck_643 ?_
        exact ⟨rfl, ⟨_, ql_J_end hn (ql_W hI) (ql_B_mono (ql_BB hI) (by omega)) (by rw [zm_u2_id (ql_g3 hI)]; exact hI.2.2.2) hR9 hS9⟩, ql_10 h10 hS9⟩
    refine zz_iload hX dL_isStruck_63 12 rfl ?_
    refine zz_iconst (v := nI 4) hX dL_isStruck_65 rfl ?_
    refine zz_idiv (z := nI (one / 4)) hX dL_isStruck_66 (by decide) (pk_div (by omega) (by decide) (by decide)) ?_
    refine zz_bipush (v := nI 9) hX dL_isStruck_67 rfl ?_
    refine zz_irem (z := nI ((one / 4) % 9)) hX dL_isStruck_69 (by decide) (pk_rem (by omega) (by decide) (by decide)) ?_
    refine zz_bipush (v := nI 8) hX dL_isStruck_70 rfl ?_
    refine zz_icmp_neN hX (by omega) (by decide) 80 dL_isStruck_72 (by decide) (fun c72 => ?_) (fun c72 => ?_)
    · skip
      refine zz_iload hX dL_isStruck_80 16 rfl ?_
      refine zz_if_ne hX 89 dL_isStruck_82 (by decide) (fun c => absurd c (by decide)) (fun _ => ?_)
      refine zz_iconst (v := nI 0) hX dL_isStruck_85 rfl ?_
      refine zz_goto hX 96 dL_isStruck_86 (by decide) ?_
      exact zz_top (rfl) K96
    · skip
      refine zz_iload hX dL_isStruck_75 16 rfl ?_
      refine zz_goto hX 96 dL_isStruck_77 (by decide) ?_
      exact zz_top (rfl) K96

set_option maxHeartbeats 1000000 in
set_option maxRecDepth 20000 in
theorem S_strike (n : Nat) (hn : n + 1 ≤ 64) (S : zS) (sh : zm_Sh) (mi : zm_Mi) (mr : zm_Mr) (hI : ql_I n S sh mi) (hR : zR S sh mi mr) (h10 : sh 10 = some (9, 0)) (one two : Nat) (ho : one < 60000) (ht : two < 60000)  : zz_Con yL_isStruck (.code yL_isStruck cL_isStruck 24 (some Jvm.ClassFile.FieldType.boolean)) 12 10 60 [.ref 2, .ref 100, .ref 101, .ref 102, .ref 103, .ref 104, .ref 105, .ref 106, .ref 107, .ref 108, .ref 109, .int (nI 3), .int (nI one), .int (nI two)] sh mi mr (ql_T n) zz_none := by
  refine zz_begin RL [(0, .ref 2), (1, .ref 100), (2, .ref 101), (3, .ref 102), (4, .ref 103), (5, .ref 104), (6, .ref 105), (7, .ref 106), (8, .ref 107), (9, .ref 108), (10, .ref 109), (11, .int (nI 3)), (12, .int (nI one)), (13, .int (nI two))] (by decide) rfl rfl (Nat.le_of_ble_eq_true rfl) rfl ?_
  intro Γ D E ad hX hr hN hT
  obtain ⟨n1, n2, n3, n4⟩ := ql_num hI
  have hsm := ql_small hI
  refine zz_iload hX dL_isStruck_0 12 rfl ?_
  refine zz_aload hX dL_isStruck_2 10 rfl ?_
  refine zz_iconst (v := nI 2) hX dL_isStruck_4 rfl ?_
  refine zz_iald (x := nI (zv_ns S)) hX (ql_s109 hI) 2 rfl (by decide) (by decide) ((ql_g2 hI)) dL_isStruck_5 ?_
  refine zz_iconst (v := nI 1) hX dL_isStruck_6 rfl ?_
  refine zz_iadd (z := nI (zv_ns S + 1)) hX dL_isStruck_7 (nI_add _ _) ?_
  refine zz_irem (z := nI (one % (zv_ns S + 1))) hX dL_isStruck_8 (nI_ne0 (by omega) (by omega)) (pk_rem (by omega) (by omega) (by omega)) ?_
  have hq9 : one % (zv_ns S + 1) < zv_ns S + 1 := Nat.mod_lt _ (by omega)
  generalize one % (zv_ns S + 1) = q at hq9 ⊢
  have z_q : zn (nI q) = q := nI_clamp (n := q) (by omega)
  refine zz_istore (ls' := [(0, .ref 2), (1, .ref 100), (2, .ref 101), (3, .ref 102), (4, .ref 103), (5, .ref 104), (6, .ref 105), (7, .ref 106), (8, .ref 107), (9, .ref 108), (10, .ref 109), (11, .int (nI 3)), (12, .int (nI one)), (13, .int (nI two)), (14, .int (nI q))]) hX dL_isStruck_9 (Nat.le_of_ble_eq_true rfl) rfl ?_
  by_cases g0 : q < zv_ns S
  · skip
    have hwq := ql_hw_lt hI g0
    obtain ⟨q1, q2, q3, q4, q5, q6, q7, q8, q9, q10, q11, q12⟩ := ql_shot hI g0
    refine zz_iload hX dL_isStruck_11 14 rfl ?_
    refine zz_aload hX dL_isStruck_13 10 rfl ?_
    refine zz_iconst (v := nI 2) hX dL_isStruck_15 rfl ?_
    refine zz_iald (x := nI (zv_ns S)) hX (ql_s109 hI) 2 rfl (by decide) (by decide) ((ql_g2 hI)) dL_isStruck_16 ?_
    refine zz_icmp_geN hX (by omega) (by omega) 24 dL_isStruck_17 (by decide) (fun c17 => absurd c17 (by omega)) (fun c17 => ?_)
    refine zz_iconst (v := nI 1) hX dL_isStruck_20 rfl ?_
    refine zz_goto hX 25 dL_isStruck_21 (by decide) ?_
    refine zz_istore (ls' := [(0, .ref 2), (1, .ref 100), (2, .ref 101), (3, .ref 102), (4, .ref 103), (5, .ref 104), (6, .ref 105), (7, .ref 106), (8, .ref 107), (9, .ref 108), (10, .ref 109), (11, .int (nI 3)), (12, .int (nI one)), (13, .int (nI two)), (14, .int (nI q)), (15, .int (nI 1))]) hX dL_isStruck_25 (Nat.le_of_ble_eq_true rfl) rfl ?_
    refine zz_iload hX dL_isStruck_27 15 rfl ?_
    refine zz_if_eq hX 42 dL_isStruck_29 (by decide) (fun c => absurd c (by decide)) (fun _ => ?_)
    refine zz_aload hX dL_isStruck_32 5 rfl ?_
    refine zz_iload hX dL_isStruck_34 14 rfl ?_
    refine zz_sI (x := nI (zv_fr S q)) hX zf_M_L_105 (As := [.ref 104, .int (nI q)]) (st := []) (Q_frames n S sh mi mr hI q (by omega)) rfl rfl (by decide) (Nat.le_of_ble_eq_true rfl) (Nat.le_of_ble_eq_true rfl) (Nat.le_of_ble_eq_true rfl) dL_isStruck_36 ?_
    refine zz_goto hX 43 dL_isStruck_39 (by decide) ?_
    refine zz_istore (ls' := [(0, .ref 2), (1, .ref 100), (2, .ref 101), (3, .ref 102), (4, .ref 103), (5, .ref 104), (6, .ref 105), (7, .ref 106), (8, .ref 107), (9, .ref 108), (10, .ref 109), (11, .int (nI 3)), (12, .int (nI one)), (13, .int (nI two)), (14, .int (nI q)), (15, .int (nI 1)), (16, .int (nI (zv_fr S q)))]) hX dL_isStruck_43 (Nat.le_of_ble_eq_true rfl) rfl ?_
    refine zz_iload hX dL_isStruck_45 15 rfl ?_
    refine zz_if_eq hX 60 dL_isStruck_47 (by decide) (fun c => absurd c (by decide)) (fun _ => ?_)
    refine zz_aload hX dL_isStruck_50 5 rfl ?_
    refine zz_iload hX dL_isStruck_52 14 rfl ?_
    refine zz_sI (x := nI (zv_sk S q)) hX zf_M_L_101 (As := [.ref 104, .int (nI q)]) (st := []) (Q_struck n S sh mi mr hI q (by omega)) rfl rfl (by decide) (Nat.le_of_ble_eq_true rfl) (Nat.le_of_ble_eq_true rfl) (Nat.le_of_ble_eq_true rfl) dL_isStruck_54 ?_
    refine zz_goto hX 61 dL_isStruck_57 (by decide) ?_
    refine zz_istore (ls' := [(0, .ref 2), (1, .ref 100), (2, .ref 101), (3, .ref 102), (4, .ref 103), (5, .ref 104), (6, .ref 105), (7, .ref 106), (8, .ref 107), (9, .ref 108), (10, .ref 109), (11, .int (nI 3)), (12, .int (nI one)), (13, .int (nI two)), (14, .int (nI q)), (15, .int (nI 1)), (16, .int (nI (zv_fr S q))), (17, .int (nI (zv_sk S q)))]) hX dL_isStruck_61 (Nat.le_of_ble_eq_true rfl) rfl ?_
    have K96 : ∀ f : Nat, f ≤ zv_fr S q → zz Γ (D, E, 24, ad, sh) (zz_End Γ (D, E, 24, ad, sh) (ql_T n) zz_none 10 60) 0 0 sh mi mr 96 [(0, .ref 2), (1, .ref 100), (2, .ref 101), (3, .ref 102), (4, .ref 103), (5, .ref 104), (6, .ref 105), (7, .ref 106), (8, .ref 107), (9, .ref 108), (10, .ref 109), (11, .int (nI 3)), (12, .int (nI one)), (13, .int (nI two)), (14, .int (nI q)), (15, .int (nI 1)), (16, .int (nI (zv_fr S q))), (17, .int (nI (zv_sk S q)))] [.int (nI f)] := by
      intro f hf
      have z_f : zn (nI f) = f := nI_clamp (n := f) (by omega)
      refine zz_istore (ls' := [(0, .ref 2), (1, .ref 100), (2, .ref 101), (3, .ref 102), (4, .ref 103), (5, .ref 104), (6, .ref 105), (7, .ref 106), (8, .ref 107), (9, .ref 108), (10, .ref 109), (11, .int (nI 3)), (12, .int (nI one)), (13, .int (nI two)), (14, .int (nI q)), (15, .int (nI 1)), (16, .int (nI (zv_fr S q))), (17, .int (nI (zv_sk S q))), (18, .int (nI f))]) hX dL_isStruck_96 (Nat.le_of_ble_eq_true rfl) rfl ?_
      refine zz_iload hX dL_isStruck_98 11 rfl ?_
      refine zz_if_ne hX 362 dL_isStruck_100 (by decide) (fun _ => ?_) (fun c => absurd c (by decide))
      refine zz_iload hX dL_isStruck_362 11 rfl ?_
      refine zz_iconst (v := nI 1) hX dL_isStruck_364 rfl ?_
      refine zz_icmp_ne hX 573 dL_isStruck_365 (by decide) (fun _ => ?_) (fun c => absurd c (by decide))
      refine zz_iload hX dL_isStruck_573 11 rfl ?_
      refine zz_iconst (v := nI 2) hX dL_isStruck_575 rfl ?_
      refine zz_icmp_ne hX 644 dL_isStruck_576 (by decide) (fun _ => ?_) (fun c => absurd c (by decide))
      refine zz_iload hX dL_isStruck_644 11 rfl ?_
      refine zz_iconst (v := nI 3) hX dL_isStruck_646 rfl ?_
      refine zz_icmp_ne hX 751 dL_isStruck_647 (by decide) (fun c => absurd c (by decide)) (fun _ => ?_)
      refine zz_iload hX dL_isStruck_650 15 rfl ?_
      refine zz_if_eq hX 674 dL_isStruck_652 (by decide) (fun c => absurd c (by decide)) (fun _ => ?_)
      refine zz_aload_n hX dL_isStruck_655 1 rfl rfl ?_
      refine zz_aload_n hX dL_isStruck_656 2 rfl rfl ?_
      refine zz_aload_n hX dL_isStruck_657 3 rfl rfl ?_
      refine zz_aload hX dL_isStruck_658 4 rfl ?_
      refine zz_aload hX dL_isStruck_660 5 rfl ?_
      refine zz_aload hX dL_isStruck_662 9 rfl ?_
      refine zz_aload hX dL_isStruck_664 10 rfl ?_
      refine zz_iload hX dL_isStruck_666 14 rfl ?_
      refine zz_sI (x := nI (zp_bar S q)) hX zf_M_L_158 (As := [.ref 100, .ref 101, .ref 102, .ref 103, .ref 104, .ref 108, .ref 109, .int (nI q)]) (st := []) (Q_bars n S sh mi mr hI q (by omega)) rfl rfl (by decide) (Nat.le_of_ble_eq_true rfl) (Nat.le_of_ble_eq_true rfl) (Nat.le_of_ble_eq_true rfl) dL_isStruck_668 ?_
      refine zz_goto hX 675 dL_isStruck_671 (by decide) ?_
      have hbl := zp_bar_lt (S := S) (i := q)
      refine zz_istore (ls' := [(0, .ref 2), (1, .ref 100), (2, .ref 101), (3, .ref 102), (4, .ref 103), (5, .ref 104), (6, .ref 105), (7, .ref 106), (8, .ref 107), (9, .ref 108), (10, .ref 109), (11, .int (nI 3)), (12, .int (nI one)), (13, .int (nI two)), (14, .int (nI q)), (15, .int (nI 1)), (16, .int (nI (zv_fr S q))), (17, .int (nI (zv_sk S q))), (18, .int (nI f)), (19, .int (nI (zp_bar S q)))]) hX dL_isStruck_675 (Nat.le_of_ble_eq_true rfl) rfl ?_
      by_cases u0 : zp_bar S q = 0
      · skip
        refine zz_iload hX dL_isStruck_677 15 rfl ?_
        refine zz_if_eq hX 709 dL_isStruck_679 (by decide) (fun c => absurd c (by decide)) (fun _ => ?_)
        refine zz_iload hX dL_isStruck_682 19 rfl ?_
        refine zz_if_neN hX (by omega) 709 dL_isStruck_684 (by decide) (fun c684 => absurd c684 (by omega)) (fun c684 => ?_)
        refine zz_aload_n hX dL_isStruck_687 1 rfl rfl ?_
        refine zz_aload_n hX dL_isStruck_688 2 rfl rfl ?_
        refine zz_aload_n hX dL_isStruck_689 3 rfl rfl ?_
        refine zz_aload hX dL_isStruck_690 4 rfl ?_
        refine zz_aload hX dL_isStruck_692 5 rfl ?_
        refine zz_aload hX dL_isStruck_694 6 rfl ?_
        refine zz_aload hX dL_isStruck_696 7 rfl ?_
        refine zz_aload hX dL_isStruck_698 8 rfl ?_
        refine zz_aload hX dL_isStruck_700 9 rfl ?_
        refine zz_aload hX dL_isStruck_702 10 rfl ?_
        refine zz_iload hX dL_isStruck_704 14 rfl ?_
        refine zz_callSB hX zf_M_L_168 (As := [.ref 100, .ref 101, .ref 102, .ref 103, .ref 104, .ref 105, .ref 106, .ref 107, .ref 108, .ref 109, .int (nI q)]) (st := []) (Q_strikes n S sh mi mr hI q g0 hn u0) rfl rfl (by decide) (by decide) (Nat.le_of_ble_eq_true rfl) (Nat.le_of_ble_eq_true rfl) (Nat.le_of_ble_eq_true rfl) dL_isStruck_706 ?_ (fun _ _ _ _ h _ => h.elim)
        rintro v8 s8 i8 m8 ⟨rfl, e2, e3, hN8, hB8, hf8⟩ -
        obtain rfl := e2.symm
        obtain rfl := e3.symm
        refine zz_aload_n hX dL_isStruck_709 0 rfl rfl ?_
        refine zz_bipush (v := nI 11) hX dL_isStruck_710 rfl ?_
        refine zz_iload hX dL_isStruck_712 14 rfl ?_
        refine zz_iconst (v := nI 0) hX dL_isStruck_714 rfl ?_
        refine zz_iconst (v := nI 0) hX dL_isStruck_715 rfl ?_
        refine zz_iconst (v := nI 0) hX dL_isStruck_716 rfl ?_
        have hA9 : zs_ix (nI q) (zv_ns S) := zs_ix_nI g0 (by omega)
        have hC9 : zp_bar S (zn (nI q)) = 0 := by rw [z_q]; exact u0
        refine zz_callSH hX zf_M_L_161 (As := [.ref 2, .int (nI 11), .int (nI q), .int (nI 0), .int (nI 0), .int (nI 0)]) (st := []) (D_strike S sh i8 mr (ql_W hI) (ql_R_f (ql_W hI) hR (M := i8) (hf8)) (nI q) (nI 0) (nI 0) (nI 0)) rfl rfl (by decide) (Nat.le_of_ble_eq_true rfl) (Nat.le_of_ble_eq_true rfl) (Nat.le_of_ble_eq_true rfl) dL_isStruck_717 ?_ (fun _ _ _ _ h _ => h.elim)
        rintro v9 s9 i9 m9 ⟨k9, rfl, hk9, hS9⟩ -
        obtain ⟨e9, hR9⟩ := zq_d1 hk9 hA9 trivial hC9
        simp only [z_q] at e9 hR9
        obtain rfl := e9.symm
        refine zz_iload hX dL_isStruck_720 15 rfl ?_
        refine zz_if_ne hX 730 dL_isStruck_722 (by decide) (fun _ => ?_) (fun c => absurd c (by decide))
        refine zz_iload hX dL_isStruck_730 19 rfl ?_
        refine zz_if_leN hX (by omega) 740 dL_isStruck_732 (by decide) (fun c732 => ?_) (fun c732 => absurd c732 (by omega))
        refine zz_iload hX dL_isStruck_740 17 rfl ?_
        refine zz_icmp_neN hX (by omega) (by omega) 749 dL_isStruck_742 (by decide) (fun c742 => absurd c742 (by omega)) (fun c742 => ?_)
        refine zz_iconst (v := nI 1) hX dL_isStruck_745 rfl ?_
        refine zz_goto hX 750 dL_isStruck_746 (by decide) ?_
        refine zz_iret hX hr rfl (Nat.le_of_ble_eq_true rfl) (Nat.le_of_ble_eq_true rfl) dL_isStruck_750 ?_
        exact ⟨rfl, ⟨_, ql_J_end hn (by have z := U_strike (ql_W hI) (nI q) hA9 trivial hC9; simp only [z_q] at z; exact z) hB8 hN8 hR9 hS9⟩, ql_10 h10 hS9⟩
      · skip
        refine zz_iload hX dL_isStruck_677 15 rfl ?_
        refine zz_if_eq hX 709 dL_isStruck_679 (by decide) (fun c => absurd c (by decide)) (fun _ => ?_)
        refine zz_iload hX dL_isStruck_682 19 rfl ?_
        refine zz_if_neN hX (by omega) 709 dL_isStruck_684 (by decide) (fun c684 => ?_) (fun c684 => absurd c684 (by omega))
        refine zz_aload_n hX dL_isStruck_709 0 rfl rfl ?_
        refine zz_bipush (v := nI 11) hX dL_isStruck_710 rfl ?_
        refine zz_iload hX dL_isStruck_712 14 rfl ?_
        refine zz_iconst (v := nI 0) hX dL_isStruck_714 rfl ?_
        refine zz_iconst (v := nI 0) hX dL_isStruck_715 rfl ?_
        refine zz_iconst (v := nI 0) hX dL_isStruck_716 rfl ?_
        have hA9 : zs_ix (nI q) (zv_ns S) := zs_ix_nI g0 (by omega)
        refine zz_callSH hX zf_M_L_161 (As := [.ref 2, .int (nI 11), .int (nI q), .int (nI 0), .int (nI 0), .int (nI 0)]) (st := []) (D_strike S sh mi mr (ql_W hI) (ql_R_f (ql_W hI) hR (M := mi) (fun l hl => rfl)) (nI q) (nI 0) (nI 0) (nI 0)) rfl rfl (by decide) (Nat.le_of_ble_eq_true rfl) (Nat.le_of_ble_eq_true rfl) (Nat.le_of_ble_eq_true rfl) dL_isStruck_717 ?_ (fun _ _ _ _ h _ => h.elim)
        rintro v9 s9 i9 m9 ⟨k9, rfl, hk9, hS9⟩ -
        obtain ⟨e9, hR9⟩ := zq_d4 hk9 hA9 trivial (fun h => u0 (by rw [z_q] at h; exact h))
        obtain rfl := e9.symm
        refine zz_iload hX dL_isStruck_720 15 rfl ?_
        refine zz_if_ne hX 730 dL_isStruck_722 (by decide) (fun _ => ?_) (fun c => absurd c (by decide))
        refine zz_iload hX dL_isStruck_730 19 rfl ?_
        refine zz_if_leN hX (by omega) 740 dL_isStruck_732 (by decide) (fun c732 => absurd c732 (by omega)) (fun c732 => ?_)
        refine zz_ldc (v := -1000000) hX zw_con_L_90 dL_isStruck_735 ?_
        refine zz_goto hX 742 dL_isStruck_737 (by decide) ?_
        refine zz_icmp_ne hX 749 dL_isStruck_742 (by decide) (fun c => absurd c (by decide)) (fun _ => ?_)
        refine zz_iconst (v := nI 1) hX dL_isStruck_745 rfl ?_
        refine zz_goto hX 750 dL_isStruck_746 (by decide) ?_
        refine zz_iret hX hr rfl (Nat.le_of_ble_eq_true rfl) (Nat.le_of_ble_eq_true rfl) dL_isStruck_750 ?_
        exact ⟨rfl, ⟨_, ql_J_end hn (ql_W hI) (ql_B_mono (ql_BB hI) (by omega)) hI.2.2.2 hR9 hS9⟩, ql_10 h10 hS9⟩
    refine zz_iload hX dL_isStruck_63 12 rfl ?_
    refine zz_iconst (v := nI 4) hX dL_isStruck_65 rfl ?_
    refine zz_idiv (z := nI (one / 4)) hX dL_isStruck_66 (by decide) (pk_div (by omega) (by decide) (by decide)) ?_
    refine zz_bipush (v := nI 9) hX dL_isStruck_67 rfl ?_
    refine zz_irem (z := nI ((one / 4) % 9)) hX dL_isStruck_69 (by decide) (pk_rem (by omega) (by decide) (by decide)) ?_
    refine zz_bipush (v := nI 8) hX dL_isStruck_70 rfl ?_
    refine zz_icmp_neN hX (by omega) (by decide) 80 dL_isStruck_72 (by decide) (fun c72 => ?_) (fun c72 => ?_)
    · skip
      refine zz_iload hX dL_isStruck_80 16 rfl ?_
      refine zz_if_neN hX (by omega) 89 dL_isStruck_82 (by decide) (fun c82 => ?_) (fun c82 => absurd c82 (by omega))
      refine zz_iload hX dL_isStruck_89 12 rfl ?_
      refine zz_iconst (v := nI 4) hX dL_isStruck_91 rfl ?_
      refine zz_idiv (z := nI (one / 4)) hX dL_isStruck_92 (by decide) (pk_div (by omega) (by decide) (by decide)) ?_
      refine zz_iload hX dL_isStruck_93 16 rfl ?_
      refine zz_irem (z := nI ((one / 4) % (zv_fr S q))) hX dL_isStruck_95 (nI_ne0 (by omega) (by omega)) (pk_rem (by omega) (by omega) (by omega)) ?_
      exact K96 ((one / 4) % (zv_fr S q)) (by first | omega | exact Nat.le_of_lt (Nat.mod_lt _ (by omega)))
    · skip
      refine zz_iload hX dL_isStruck_75 16 rfl ?_
      refine zz_goto hX 96 dL_isStruck_77 (by decide) ?_
      exact K96 (zv_fr S q) (by first | omega | exact Nat.le_of_lt (Nat.mod_lt _ (by omega)))
  · skip
    refine zz_iload hX dL_isStruck_11 14 rfl ?_
    refine zz_aload hX dL_isStruck_13 10 rfl ?_
    refine zz_iconst (v := nI 2) hX dL_isStruck_15 rfl ?_
    refine zz_iald (x := nI (zv_ns S)) hX (ql_s109 hI) 2 rfl (by decide) (by decide) ((ql_g2 hI)) dL_isStruck_16 ?_
    refine zz_icmp_geN hX (by omega) (by omega) 24 dL_isStruck_17 (by decide) (fun c17 => ?_) (fun c17 => absurd c17 (by omega))
    refine zz_iconst (v := nI 0) hX dL_isStruck_24 rfl ?_
    refine zz_istore (ls' := [(0, .ref 2), (1, .ref 100), (2, .ref 101), (3, .ref 102), (4, .ref 103), (5, .ref 104), (6, .ref 105), (7, .ref 106), (8, .ref 107), (9, .ref 108), (10, .ref 109), (11, .int (nI 3)), (12, .int (nI one)), (13, .int (nI two)), (14, .int (nI q)), (15, .int (nI 0))]) hX dL_isStruck_25 (Nat.le_of_ble_eq_true rfl) rfl ?_
    refine zz_iload hX dL_isStruck_27 15 rfl ?_
    refine zz_if_eq hX 42 dL_isStruck_29 (by decide) (fun _ => ?_) (fun c => absurd c (by decide))
    refine zz_iconst (v := nI 0) hX dL_isStruck_42 rfl ?_
    refine zz_istore (ls' := [(0, .ref 2), (1, .ref 100), (2, .ref 101), (3, .ref 102), (4, .ref 103), (5, .ref 104), (6, .ref 105), (7, .ref 106), (8, .ref 107), (9, .ref 108), (10, .ref 109), (11, .int (nI 3)), (12, .int (nI one)), (13, .int (nI two)), (14, .int (nI q)), (15, .int (nI 0)), (16, .int (nI 0))]) hX dL_isStruck_43 (Nat.le_of_ble_eq_true rfl) rfl ?_
    refine zz_iload hX dL_isStruck_45 15 rfl ?_
    refine zz_if_eq hX 60 dL_isStruck_47 (by decide) (fun _ => ?_) (fun c => absurd c (by decide))
    refine zz_iconst (v := nI 0) hX dL_isStruck_60 rfl ?_
    refine zz_istore (ls' := [(0, .ref 2), (1, .ref 100), (2, .ref 101), (3, .ref 102), (4, .ref 103), (5, .ref 104), (6, .ref 105), (7, .ref 106), (8, .ref 107), (9, .ref 108), (10, .ref 109), (11, .int (nI 3)), (12, .int (nI one)), (13, .int (nI two)), (14, .int (nI q)), (15, .int (nI 0)), (16, .int (nI 0)), (17, .int (nI 0))]) hX dL_isStruck_61 (Nat.le_of_ble_eq_true rfl) rfl ?_
    have K96 : zz Γ (D, E, 24, ad, sh) (zz_End Γ (D, E, 24, ad, sh) (ql_T n) zz_none 10 60) 0 0 sh mi mr 96 [(0, .ref 2), (1, .ref 100), (2, .ref 101), (3, .ref 102), (4, .ref 103), (5, .ref 104), (6, .ref 105), (7, .ref 106), (8, .ref 107), (9, .ref 108), (10, .ref 109), (11, .int (nI 3)), (12, .int (nI one)), (13, .int (nI two)), (14, .int (nI q)), (15, .int (nI 0)), (16, .int (nI 0)), (17, .int (nI 0))] [.int (nI 0)] := by
      refine zz_istore (ls' := [(0, .ref 2), (1, .ref 100), (2, .ref 101), (3, .ref 102), (4, .ref 103), (5, .ref 104), (6, .ref 105), (7, .ref 106), (8, .ref 107), (9, .ref 108), (10, .ref 109), (11, .int (nI 3)), (12, .int (nI one)), (13, .int (nI two)), (14, .int (nI q)), (15, .int (nI 0)), (16, .int (nI 0)), (17, .int (nI 0)), (18, .int (nI 0))]) hX dL_isStruck_96 (Nat.le_of_ble_eq_true rfl) rfl ?_
      refine zz_iload hX dL_isStruck_98 11 rfl ?_
      refine zz_if_ne hX 362 dL_isStruck_100 (by decide) (fun _ => ?_) (fun c => absurd c (by decide))
      refine zz_iload hX dL_isStruck_362 11 rfl ?_
      refine zz_iconst (v := nI 1) hX dL_isStruck_364 rfl ?_
      refine zz_icmp_ne hX 573 dL_isStruck_365 (by decide) (fun _ => ?_) (fun c => absurd c (by decide))
      refine zz_iload hX dL_isStruck_573 11 rfl ?_
      refine zz_iconst (v := nI 2) hX dL_isStruck_575 rfl ?_
      refine zz_icmp_ne hX 644 dL_isStruck_576 (by decide) (fun _ => ?_) (fun c => absurd c (by decide))
      refine zz_iload hX dL_isStruck_644 11 rfl ?_
      refine zz_iconst (v := nI 3) hX dL_isStruck_646 rfl ?_
      refine zz_icmp_ne hX 751 dL_isStruck_647 (by decide) (fun c => absurd c (by decide)) (fun _ => ?_)
      refine zz_iload hX dL_isStruck_650 15 rfl ?_
      refine zz_if_eq hX 674 dL_isStruck_652 (by decide) (fun _ => ?_) (fun c => absurd c (by decide))
      refine zz_iconst (v := nI 0) hX dL_isStruck_674 rfl ?_
      have hbl := zp_bar_lt (S := S) (i := q)
      refine zz_istore (ls' := [(0, .ref 2), (1, .ref 100), (2, .ref 101), (3, .ref 102), (4, .ref 103), (5, .ref 104), (6, .ref 105), (7, .ref 106), (8, .ref 107), (9, .ref 108), (10, .ref 109), (11, .int (nI 3)), (12, .int (nI one)), (13, .int (nI two)), (14, .int (nI q)), (15, .int (nI 0)), (16, .int (nI 0)), (17, .int (nI 0)), (18, .int (nI 0)), (19, .int (nI 0))]) hX dL_isStruck_675 (Nat.le_of_ble_eq_true rfl) rfl ?_
      refine zz_iload hX dL_isStruck_677 15 rfl ?_
      refine zz_if_eq hX 709 dL_isStruck_679 (by decide) (fun _ => ?_) (fun c => absurd c (by decide))
      refine zz_aload_n hX dL_isStruck_709 0 rfl rfl ?_
      refine zz_bipush (v := nI 11) hX dL_isStruck_710 rfl ?_
      refine zz_iload hX dL_isStruck_712 14 rfl ?_
      refine zz_iconst (v := nI 0) hX dL_isStruck_714 rfl ?_
      refine zz_iconst (v := nI 0) hX dL_isStruck_715 rfl ?_
      refine zz_iconst (v := nI 0) hX dL_isStruck_716 rfl ?_
      refine zz_callSH hX zf_M_L_161 (As := [.ref 2, .int (nI 11), .int (nI q), .int (nI 0), .int (nI 0), .int (nI 0)]) (st := []) (D_strike S sh mi mr (ql_W hI) (ql_R_f (ql_W hI) hR (M := mi) (fun l hl => rfl)) (nI q) (nI 0) (nI 0) (nI 0)) rfl rfl (by decide) (Nat.le_of_ble_eq_true rfl) (Nat.le_of_ble_eq_true rfl) (Nat.le_of_ble_eq_true rfl) dL_isStruck_717 ?_ (fun _ _ _ _ h _ => h.elim)
      rintro v9 s9 i9 m9 ⟨k9, rfl, hk9, hS9⟩ -
      obtain ⟨e9, hR9⟩ := zq_d2 hk9 (fun h => g0 (zs_ixl h (by omega)))
      obtain rfl := e9.symm
      refine zz_iload hX dL_isStruck_720 15 rfl ?_
      refine zz_if_ne hX 730 dL_isStruck_722 (by decide) (fun c => absurd c (by decide)) (fun _ => ?_)
      refine zz_ldc (v := -3000000) hX zw_con_L_84 dL_isStruck_725 ?_
      refine zz_goto hX 742 dL_isStruck_727 (by decide) ?_
      refine zz_icmp_ne hX 749 dL_isStruck_742 (by decide) (fun c => absurd c (by decide)) (fun _ => ?_)
      refine zz_iconst (v := nI 1) hX dL_isStruck_745 rfl ?_
      refine zz_goto hX 750 dL_isStruck_746 (by decide) ?_
      refine zz_iret hX hr rfl (Nat.le_of_ble_eq_true rfl) (Nat.le_of_ble_eq_true rfl) dL_isStruck_750 ?_
      exact ⟨rfl, ⟨_, ql_J_end hn (ql_W hI) (ql_B_mono (ql_BB hI) (by omega)) hI.2.2.2 hR9 hS9⟩, ql_10 h10 hS9⟩
    refine zz_iload hX dL_isStruck_63 12 rfl ?_
    refine zz_iconst (v := nI 4) hX dL_isStruck_65 rfl ?_
    refine zz_idiv (z := nI (one / 4)) hX dL_isStruck_66 (by decide) (pk_div (by omega) (by decide) (by decide)) ?_
    refine zz_bipush (v := nI 9) hX dL_isStruck_67 rfl ?_
    refine zz_irem (z := nI ((one / 4) % 9)) hX dL_isStruck_69 (by decide) (pk_rem (by omega) (by decide) (by decide)) ?_
    refine zz_bipush (v := nI 8) hX dL_isStruck_70 rfl ?_
    refine zz_icmp_neN hX (by omega) (by decide) 80 dL_isStruck_72 (by decide) (fun c72 => ?_) (fun c72 => ?_)
    · skip
      refine zz_iload hX dL_isStruck_80 16 rfl ?_
      refine zz_if_ne hX 89 dL_isStruck_82 (by decide) (fun c => absurd c (by decide)) (fun _ => ?_)
      refine zz_iconst (v := nI 0) hX dL_isStruck_85 rfl ?_
      refine zz_goto hX 96 dL_isStruck_86 (by decide) ?_
      exact zz_top (rfl) K96
    · skip
      refine zz_iload hX dL_isStruck_75 16 rfl ?_
      refine zz_goto hX 96 dL_isStruck_77 (by decide) ?_
      exact zz_top (rfl) K96

set_option maxHeartbeats 1000000 in
set_option maxRecDepth 20000 in
theorem S_bump (n : Nat) (hn : n + 1 ≤ 64) (S : zS) (sh : zm_Sh) (mi : zm_Mi) (mr : zm_Mr) (hI : ql_I n S sh mi) (hR : zR S sh mi mr) (h10 : sh 10 = some (9, 0)) (one two : Nat) (ho : one < 60000) (ht : two < 60000)  : zz_Con yL_isStruck (.code yL_isStruck cL_isStruck 24 (some Jvm.ClassFile.FieldType.boolean)) 12 10 60 [.ref 2, .ref 100, .ref 101, .ref 102, .ref 103, .ref 104, .ref 105, .ref 106, .ref 107, .ref 108, .ref 109, .int (nI 4), .int (nI one), .int (nI two)] sh mi mr (ql_T n) zz_none := by
  refine zz_begin RL [(0, .ref 2), (1, .ref 100), (2, .ref 101), (3, .ref 102), (4, .ref 103), (5, .ref 104), (6, .ref 105), (7, .ref 106), (8, .ref 107), (9, .ref 108), (10, .ref 109), (11, .int (nI 4)), (12, .int (nI one)), (13, .int (nI two))] (by decide) rfl rfl (Nat.le_of_ble_eq_true rfl) rfl ?_
  intro Γ D E ad hX hr hN hT
  obtain ⟨n1, n2, n3, n4⟩ := ql_num hI
  have hsm := ql_small hI
  refine zz_iload hX dL_isStruck_0 12 rfl ?_
  refine zz_aload hX dL_isStruck_2 10 rfl ?_
  refine zz_iconst (v := nI 2) hX dL_isStruck_4 rfl ?_
  refine zz_iald (x := nI (zv_ns S)) hX (ql_s109 hI) 2 rfl (by decide) (by decide) ((ql_g2 hI)) dL_isStruck_5 ?_
  refine zz_iconst (v := nI 1) hX dL_isStruck_6 rfl ?_
  refine zz_iadd (z := nI (zv_ns S + 1)) hX dL_isStruck_7 (nI_add _ _) ?_
  refine zz_irem (z := nI (one % (zv_ns S + 1))) hX dL_isStruck_8 (nI_ne0 (by omega) (by omega)) (pk_rem (by omega) (by omega) (by omega)) ?_
  have hq9 : one % (zv_ns S + 1) < zv_ns S + 1 := Nat.mod_lt _ (by omega)
  generalize one % (zv_ns S + 1) = q at hq9 ⊢
  have z_q : zn (nI q) = q := nI_clamp (n := q) (by omega)
  refine zz_istore (ls' := [(0, .ref 2), (1, .ref 100), (2, .ref 101), (3, .ref 102), (4, .ref 103), (5, .ref 104), (6, .ref 105), (7, .ref 106), (8, .ref 107), (9, .ref 108), (10, .ref 109), (11, .int (nI 4)), (12, .int (nI one)), (13, .int (nI two)), (14, .int (nI q))]) hX dL_isStruck_9 (Nat.le_of_ble_eq_true rfl) rfl ?_
  by_cases g0 : q < zv_ns S
  · skip
    have hwq := ql_hw_lt hI g0
    obtain ⟨q1, q2, q3, q4, q5, q6, q7, q8, q9, q10, q11, q12⟩ := ql_shot hI g0
    refine zz_iload hX dL_isStruck_11 14 rfl ?_
    refine zz_aload hX dL_isStruck_13 10 rfl ?_
    refine zz_iconst (v := nI 2) hX dL_isStruck_15 rfl ?_
    refine zz_iald (x := nI (zv_ns S)) hX (ql_s109 hI) 2 rfl (by decide) (by decide) ((ql_g2 hI)) dL_isStruck_16 ?_
    refine zz_icmp_geN hX (by omega) (by omega) 24 dL_isStruck_17 (by decide) (fun c17 => absurd c17 (by omega)) (fun c17 => ?_)
    refine zz_iconst (v := nI 1) hX dL_isStruck_20 rfl ?_
    refine zz_goto hX 25 dL_isStruck_21 (by decide) ?_
    refine zz_istore (ls' := [(0, .ref 2), (1, .ref 100), (2, .ref 101), (3, .ref 102), (4, .ref 103), (5, .ref 104), (6, .ref 105), (7, .ref 106), (8, .ref 107), (9, .ref 108), (10, .ref 109), (11, .int (nI 4)), (12, .int (nI one)), (13, .int (nI two)), (14, .int (nI q)), (15, .int (nI 1))]) hX dL_isStruck_25 (Nat.le_of_ble_eq_true rfl) rfl ?_
    refine zz_iload hX dL_isStruck_27 15 rfl ?_
    refine zz_if_eq hX 42 dL_isStruck_29 (by decide) (fun c => absurd c (by decide)) (fun _ => ?_)
    refine zz_aload hX dL_isStruck_32 5 rfl ?_
    refine zz_iload hX dL_isStruck_34 14 rfl ?_
    refine zz_sI (x := nI (zv_fr S q)) hX zf_M_L_105 (As := [.ref 104, .int (nI q)]) (st := []) (Q_frames n S sh mi mr hI q (by omega)) rfl rfl (by decide) (Nat.le_of_ble_eq_true rfl) (Nat.le_of_ble_eq_true rfl) (Nat.le_of_ble_eq_true rfl) dL_isStruck_36 ?_
    refine zz_goto hX 43 dL_isStruck_39 (by decide) ?_
    refine zz_istore (ls' := [(0, .ref 2), (1, .ref 100), (2, .ref 101), (3, .ref 102), (4, .ref 103), (5, .ref 104), (6, .ref 105), (7, .ref 106), (8, .ref 107), (9, .ref 108), (10, .ref 109), (11, .int (nI 4)), (12, .int (nI one)), (13, .int (nI two)), (14, .int (nI q)), (15, .int (nI 1)), (16, .int (nI (zv_fr S q)))]) hX dL_isStruck_43 (Nat.le_of_ble_eq_true rfl) rfl ?_
    refine zz_iload hX dL_isStruck_45 15 rfl ?_
    refine zz_if_eq hX 60 dL_isStruck_47 (by decide) (fun c => absurd c (by decide)) (fun _ => ?_)
    refine zz_aload hX dL_isStruck_50 5 rfl ?_
    refine zz_iload hX dL_isStruck_52 14 rfl ?_
    refine zz_sI (x := nI (zv_sk S q)) hX zf_M_L_101 (As := [.ref 104, .int (nI q)]) (st := []) (Q_struck n S sh mi mr hI q (by omega)) rfl rfl (by decide) (Nat.le_of_ble_eq_true rfl) (Nat.le_of_ble_eq_true rfl) (Nat.le_of_ble_eq_true rfl) dL_isStruck_54 ?_
    refine zz_goto hX 61 dL_isStruck_57 (by decide) ?_
    refine zz_istore (ls' := [(0, .ref 2), (1, .ref 100), (2, .ref 101), (3, .ref 102), (4, .ref 103), (5, .ref 104), (6, .ref 105), (7, .ref 106), (8, .ref 107), (9, .ref 108), (10, .ref 109), (11, .int (nI 4)), (12, .int (nI one)), (13, .int (nI two)), (14, .int (nI q)), (15, .int (nI 1)), (16, .int (nI (zv_fr S q))), (17, .int (nI (zv_sk S q)))]) hX dL_isStruck_61 (Nat.le_of_ble_eq_true rfl) rfl ?_
    have K96 : ∀ f : Nat, f ≤ zv_fr S q → zz Γ (D, E, 24, ad, sh) (zz_End Γ (D, E, 24, ad, sh) (ql_T n) zz_none 10 60) 0 0 sh mi mr 96 [(0, .ref 2), (1, .ref 100), (2, .ref 101), (3, .ref 102), (4, .ref 103), (5, .ref 104), (6, .ref 105), (7, .ref 106), (8, .ref 107), (9, .ref 108), (10, .ref 109), (11, .int (nI 4)), (12, .int (nI one)), (13, .int (nI two)), (14, .int (nI q)), (15, .int (nI 1)), (16, .int (nI (zv_fr S q))), (17, .int (nI (zv_sk S q)))] [.int (nI f)] := by
      intro f hf
      have z_f : zn (nI f) = f := nI_clamp (n := f) (by omega)
      refine zz_istore (ls' := [(0, .ref 2), (1, .ref 100), (2, .ref 101), (3, .ref 102), (4, .ref 103), (5, .ref 104), (6, .ref 105), (7, .ref 106), (8, .ref 107), (9, .ref 108), (10, .ref 109), (11, .int (nI 4)), (12, .int (nI one)), (13, .int (nI two)), (14, .int (nI q)), (15, .int (nI 1)), (16, .int (nI (zv_fr S q))), (17, .int (nI (zv_sk S q))), (18, .int (nI f))]) hX dL_isStruck_96 (Nat.le_of_ble_eq_true rfl) rfl ?_
      refine zz_iload hX dL_isStruck_98 11 rfl ?_
      refine zz_if_ne hX 362 dL_isStruck_100 (by decide) (fun _ => ?_) (fun c => absurd c (by decide))
      refine zz_iload hX dL_isStruck_362 11 rfl ?_
      refine zz_iconst (v := nI 1) hX dL_isStruck_364 rfl ?_
      refine zz_icmp_ne hX 573 dL_isStruck_365 (by decide) (fun _ => ?_) (fun c => absurd c (by decide))
      refine zz_iload hX dL_isStruck_573 11 rfl ?_
      refine zz_iconst (v := nI 2) hX dL_isStruck_575 rfl ?_
      refine zz_icmp_ne hX 644 dL_isStruck_576 (by decide) (fun _ => ?_) (fun c => absurd c (by decide))
      refine zz_iload hX dL_isStruck_644 11 rfl ?_
      refine zz_iconst (v := nI 3) hX dL_isStruck_646 rfl ?_
      refine zz_icmp_ne hX 751 dL_isStruck_647 (by decide) (fun _ => ?_) (fun c => absurd c (by decide))
      refine zz_iload hX dL_isStruck_751 11 rfl ?_
      refine zz_iconst (v := nI 4) hX dL_isStruck_753 rfl ?_
      refine zz_icmp_ne hX 916 dL_isStruck_754 (by decide) (fun c => absurd c (by decide)) (fun _ => ?_)
      have K789 : ∀ x9 : Int32, (∃ z, z ≤ 200 ∧ x9 = nI z - nI 100) → zz Γ (D, E, 24, ad, sh) (zz_End Γ (D, E, 24, ad, sh) (ql_T n) zz_none 10 60) 0 0 sh mi mr 789 [(0, .ref 2), (1, .ref 100), (2, .ref 101), (3, .ref 102), (4, .ref 103), (5, .ref 104), (6, .ref 105), (7, .ref 106), (8, .ref 107), (9, .ref 108), (10, .ref 109), (11, .int (nI 4)), (12, .int (nI one)), (13, .int (nI two)), (14, .int (nI q)), (15, .int (nI 1)), (16, .int (nI (zv_fr S q))), (17, .int (nI (zv_sk S q))), (18, .int (nI f))] [.int x9] := by
        intro x9 hx9
        obtain ⟨z, hz9, rfl⟩ := hx9
        refine zz_istore (ls' := [(0, .ref 2), (1, .ref 100), (2, .ref 101), (3, .ref 102), (4, .ref 103), (5, .ref 104), (6, .ref 105), (7, .ref 106), (8, .ref 107), (9, .ref 108), (10, .ref 109), (11, .int (nI 4)), (12, .int (nI one)), (13, .int (nI two)), (14, .int (nI q)), (15, .int (nI 1)), (16, .int (nI (zv_fr S q))), (17, .int (nI (zv_sk S q))), (18, .int (nI f)), (19, .int (nI z - nI 100))]) hX dL_isStruck_789 (Nat.le_of_ble_eq_true rfl) rfl ?_
        by_cases u0 : 0 < z ∧ z < 200
        · skip
          by_cases u1 : 0 < zv_sk S q
          · skip
            refine zz_iload hX dL_isStruck_791 19 rfl ?_
            refine zz_bipush (v := (-100)) hX dL_isStruck_793 rfl ?_
            refine zz_icmp_le hX 809 dL_isStruck_795 (by decide) (fun c795 => absurd ((zs_z1 (by omega) (by decide) (by decide)).mp c795) (by omega)) (fun c795 => ?_)
            refine zz_iload hX dL_isStruck_798 19 rfl ?_
            refine zz_bipush (v := nI 100) hX dL_isStruck_800 rfl ?_
            refine zz_icmp_ge hX 809 dL_isStruck_802 (by decide) (fun c802 => absurd ((zs_z2 (by omega) (by decide)).mp c802) (by omega)) (fun c802 => ?_)
            refine zz_iconst (v := nI 1) hX dL_isStruck_805 rfl ?_
            refine zz_goto hX 810 dL_isStruck_806 (by decide) ?_
            refine zz_istore (ls' := [(0, .ref 2), (1, .ref 100), (2, .ref 101), (3, .ref 102), (4, .ref 103), (5, .ref 104), (6, .ref 105), (7, .ref 106), (8, .ref 107), (9, .ref 108), (10, .ref 109), (11, .int (nI 4)), (12, .int (nI one)), (13, .int (nI two)), (14, .int (nI q)), (15, .int (nI 1)), (16, .int (nI (zv_fr S q))), (17, .int (nI (zv_sk S q))), (18, .int (nI f)), (19, .int (nI z - nI 100)), (20, .int (nI 1))]) hX dL_isStruck_810 (Nat.le_of_ble_eq_true rfl) rfl ?_
            refine zz_iload hX dL_isStruck_812 15 rfl ?_
            refine zz_if_eq hX 831 dL_isStruck_814 (by decide) (fun c => absurd c (by decide)) (fun _ => ?_)
            refine zz_iload hX dL_isStruck_817 20 rfl ?_
            refine zz_if_eq hX 831 dL_isStruck_819 (by decide) (fun c => absurd c (by decide)) (fun _ => ?_)
            refine zz_iload hX dL_isStruck_822 17 rfl ?_
            refine zz_if_leN hX (by omega) 831 dL_isStruck_824 (by decide) (fun c824 => absurd c824 (by omega)) (fun c824 => ?_)
            refine zz_iconst (v := nI 1) hX dL_isStruck_827 rfl ?_
            refine zz_goto hX 832 dL_isStruck_828 (by decide) ?_
            refine zz_istore (ls' := [(0, .ref 2), (1, .ref 100), (2, .ref 101), (3, .ref 102), (4, .ref 103), (5, .ref 104), (6, .ref 105), (7, .ref 106), (8, .ref 107), (9, .ref 108), (10, .ref 109), (11, .int (nI 4)), (12, .int (nI one)), (13, .int (nI two)), (14, .int (nI q)), (15, .int (nI 1)), (16, .int (nI (zv_fr S q))), (17, .int (nI (zv_sk S q))), (18, .int (nI f)), (19, .int (nI z - nI 100)), (20, .int (nI 1)), (21, .int (nI 1))]) hX dL_isStruck_832 (Nat.le_of_ble_eq_true rfl) rfl ?_
            refine zz_aload hX dL_isStruck_834 9 rfl ?_
            refine zz_iload hX dL_isStruck_836 21 rfl ?_
            refine zz_if_eq hX 849 dL_isStruck_838 (by decide) (fun c => absurd c (by decide)) (fun _ => ?_)
            refine zz_bipush (v := nI 54) hX dL_isStruck_841 rfl ?_
            refine zz_iload hX dL_isStruck_843 14 rfl ?_
            refine zz_iadd (z := nI (54 + q)) hX dL_isStruck_845 (nI_add _ _) ?_
            refine zz_goto hX 851 dL_isStruck_846 (by decide) ?_
            refine zz_dup2 hX dL_isStruck_851 rfl rfl ?_
            refine zz_iald (x := S 16 q) hX (ql_s108 hI) (54 + q) rfl (by omega) (by decide) (((ql_Ne hI).2 q (by omega))) dL_isStruck_852 ?_
            refine zz_iload hX dL_isStruck_853 19 rfl ?_
            refine zz_iadd (z := (S 16 q) + (nI z - nI 100)) hX dL_isStruck_855 rfl ?_
            refine zz_iast hX (ql_s108 hI) (54 + q) rfl (by omega) (by decide) dL_isStruck_856 ?_
            refine zz_aload_n hX dL_isStruck_857 0 rfl rfl ?_
            refine zz_bipush (v := nI 12) hX dL_isStruck_858 rfl ?_
            refine zz_iload hX dL_isStruck_860 14 rfl ?_
            refine zz_iload hX dL_isStruck_862 19 rfl ?_
            refine zz_iconst (v := nI 0) hX dL_isStruck_864 rfl ?_
            refine zz_iconst (v := nI 0) hX dL_isStruck_865 rfl ?_
            have hA9 : zs_ix (nI q) (zv_ns S) := zs_ix_nI g0 (by omega)
            have hB9 : (-99) ≤ nI z - nI 100 ∧ nI z - nI 100 ≤ nI 99 := (zs_z3 (by omega) (by decide) rfl (by decide)).mpr u0
            have hC9 : 0 < zv_sk S (zn (nI q)) := by rw [z_q]; exact u1
            refine zz_callSH hX zf_M_L_161 (As := [.ref 2, .int (nI 12), .int (nI q), .int (nI z - nI 100), .int (nI 0), .int (nI 0)]) (st := []) (D_bump S sh (zm_u2 mi 108 (54 + q) ((S 16 q) + (nI z - nI 100))) mr (ql_W hI) (ql_R_f (ql_W hI) hR (M := (zm_u2 mi 108 (54 + q) ((S 16 q) + (nI z - nI 100)))) (fun l hl => zm_u2r (by omega))) (nI q) (nI z - nI 100) (nI 0) (nI 0)) rfl rfl (by decide) (Nat.le_of_ble_eq_true rfl) (Nat.le_of_ble_eq_true rfl) (Nat.le_of_ble_eq_true rfl) dL_isStruck_866 ?_ (fun _ _ _ _ h _ => h.elim)
            rintro v9 s9 i9 m9 ⟨k9, rfl, hk9, hS9⟩ -
            obtain ⟨e9, hR9⟩ := zq_d1 hk9 hA9 hB9 hC9
            simp only [z_q] at e9 hR9
            obtain rfl := e9.symm
            refine zz_iload hX dL_isStruck_869 15 rfl ?_
            refine zz_if_ne hX 879 dL_isStruck_871 (by decide) (fun _ => ?_) (fun c => absurd c (by decide))
            refine zz_iload hX dL_isStruck_879 20 rfl ?_
            refine zz_if_ne hX 889 dL_isStruck_881 (by decide) (fun _ => ?_) (fun c => absurd c (by decide))
            refine zz_iload hX dL_isStruck_889 21 rfl ?_
            refine zz_if_eq hX 905 dL_isStruck_891 (by decide) (fun c => absurd c (by decide)) (fun _ => ?_)
            refine zz_aload hX dL_isStruck_894 9 rfl ?_
            refine zz_bipush (v := nI 54) hX dL_isStruck_896 rfl ?_
            refine zz_iload hX dL_isStruck_898 14 rfl ?_
            refine zz_iadd (z := nI (54 + q)) hX dL_isStruck_900 (nI_add _ _) ?_
            refine zz_iald (x := (S 16 q) + (nI z - nI 100)) hX ((hS9 108 (by unfold zr_out; omega)).1.trans (ql_s108 hI)) (54 + q) rfl (by omega) (by decide) ((congrFun (hS9 108 (by unfold zr_out; omega)).2.1 _).trans (zm_u2s)) dL_isStruck_901 ?_
            refine zz_goto hX 907 dL_isStruck_902 (by decide) ?_
            refine zz_icmp_ne hX 914 dL_isStruck_907 (by decide) (fun c907 => absurd rfl c907) (fun c907 => ?_)
            refine zz_iconst (v := nI 1) hX dL_isStruck_910 rfl ?_
            refine zz_goto hX 915 dL_isStruck_911 (by decide) ?_
            refine zz_iret hX hr rfl (Nat.le_of_ble_eq_true rfl) (Nat.le_of_ble_eq_true rfl) dL_isStruck_915 ?_
            exact ⟨rfl, ⟨_, ql_J_end hn (by have z := U_bump (ql_W hI) (nI q) (nI z - nI 100) hA9 hB9 hC9; simp only [z_q] at z; exact z) (ql_B_s (ql_BB hI) (fun r hr => zm_u2r (by omega))) (ql_N_t hI.2.2.2 (by omega) hsm.1 n3) hR9 hS9⟩, ql_10 h10 hS9⟩
          · skip
            refine zz_iload hX dL_isStruck_791 19 rfl ?_
            refine zz_bipush (v := (-100)) hX dL_isStruck_793 rfl ?_
            refine zz_icmp_le hX 809 dL_isStruck_795 (by decide) (fun c795 => absurd ((zs_z1 (by omega) (by decide) (by decide)).mp c795) (by omega)) (fun c795 => ?_)
            refine zz_iload hX dL_isStruck_798 19 rfl ?_
            refine zz_bipush (v := nI 100) hX dL_isStruck_800 rfl ?_
            refine zz_icmp_ge hX 809 dL_isStruck_802 (by decide) (fun c802 => absurd ((zs_z2 (by omega) (by decide)).mp c802) (by omega)) (fun c802 => ?_)
            refine zz_iconst (v := nI 1) hX dL_isStruck_805 rfl ?_
            refine zz_goto hX 810 dL_isStruck_806 (by decide) ?_
            refine zz_istore (ls' := [(0, .ref 2), (1, .ref 100), (2, .ref 101), (3, .ref 102), (4, .ref 103), (5, .ref 104), (6, .ref 105), (7, .ref 106), (8, .ref 107), (9, .ref 108), (10, .ref 109), (11, .int (nI 4)), (12, .int (nI one)), (13, .int (nI two)), (14, .int (nI q)), (15, .int (nI 1)), (16, .int (nI (zv_fr S q))), (17, .int (nI (zv_sk S q))), (18, .int (nI f)), (19, .int (nI z - nI 100)), (20, .int (nI 1))]) hX dL_isStruck_810 (Nat.le_of_ble_eq_true rfl) rfl ?_
            refine zz_iload hX dL_isStruck_812 15 rfl ?_
            refine zz_if_eq hX 831 dL_isStruck_814 (by decide) (fun c => absurd c (by decide)) (fun _ => ?_)
            refine zz_iload hX dL_isStruck_817 20 rfl ?_
            refine zz_if_eq hX 831 dL_isStruck_819 (by decide) (fun c => absurd c (by decide)) (fun _ => ?_)
            refine zz_iload hX dL_isStruck_822 17 rfl ?_
            refine zz_if_leN hX (by omega) 831 dL_isStruck_824 (by decide) (fun c824 => ?_) (fun c824 => absurd c824 (by omega))
            refine zz_iconst (v := nI 0) hX dL_isStruck_831 rfl ?_
            refine zz_istore (ls' := [(0, .ref 2), (1, .ref 100), (2, .ref 101), (3, .ref 102), (4, .ref 103), (5, .ref 104), (6, .ref 105), (7, .ref 106), (8, .ref 107), (9, .ref 108), (10, .ref 109), (11, .int (nI 4)), (12, .int (nI one)), (13, .int (nI two)), (14, .int (nI q)), (15, .int (nI 1)), (16, .int (nI (zv_fr S q))), (17, .int (nI (zv_sk S q))), (18, .int (nI f)), (19, .int (nI z - nI 100)), (20, .int (nI 1)), (21, .int (nI 0))]) hX dL_isStruck_832 (Nat.le_of_ble_eq_true rfl) rfl ?_
            refine zz_aload hX dL_isStruck_834 9 rfl ?_
            refine zz_iload hX dL_isStruck_836 21 rfl ?_
            refine zz_if_eq hX 849 dL_isStruck_838 (by decide) (fun _ => ?_) (fun c => absurd c (by decide))
            refine zz_bipush (v := nI 57) hX dL_isStruck_849 rfl ?_
            refine zz_dup2 hX dL_isStruck_851 rfl rfl ?_
            refine zz_iald (x := mi 108 57) hX (ql_s108 hI) 57 rfl (by decide) (by decide) rfl dL_isStruck_852 ?_
            refine zz_iload hX dL_isStruck_853 19 rfl ?_
            refine zz_iadd (z := (mi 108 57) + (nI z - nI 100)) hX dL_isStruck_855 rfl ?_
            refine zz_iast hX (ql_s108 hI) 57 rfl (by decide) (by decide) dL_isStruck_856 ?_
            refine zz_aload_n hX dL_isStruck_857 0 rfl rfl ?_
            refine zz_bipush (v := nI 12) hX dL_isStruck_858 rfl ?_
            refine zz_iload hX dL_isStruck_860 14 rfl ?_
            refine zz_iload hX dL_isStruck_862 19 rfl ?_
            refine zz_iconst (v := nI 0) hX dL_isStruck_864 rfl ?_
            refine zz_iconst (v := nI 0) hX dL_isStruck_865 rfl ?_
            have hA9 : zs_ix (nI q) (zv_ns S) := zs_ix_nI g0 (by omega)
            have hB9 : (-99) ≤ nI z - nI 100 ∧ nI z - nI 100 ≤ nI 99 := (zs_z3 (by omega) (by decide) rfl (by decide)).mpr u0
            refine zz_callSH hX zf_M_L_161 (As := [.ref 2, .int (nI 12), .int (nI q), .int (nI z - nI 100), .int (nI 0), .int (nI 0)]) (st := []) (D_bump S sh (zm_u2 mi 108 57 ((mi 108 57) + (nI z - nI 100))) mr (ql_W hI) (ql_R_f (ql_W hI) hR (M := (zm_u2 mi 108 57 ((mi 108 57) + (nI z - nI 100)))) (fun l hl => zm_u2r (by omega))) (nI q) (nI z - nI 100) (nI 0) (nI 0)) rfl rfl (by decide) (Nat.le_of_ble_eq_true rfl) (Nat.le_of_ble_eq_true rfl) (Nat.le_of_ble_eq_true rfl) dL_isStruck_866 ?_ (fun _ _ _ _ h _ => h.elim)
            rintro v9 s9 i9 m9 ⟨k9, rfl, hk9, hS9⟩ -
            obtain ⟨e9, hR9⟩ := zq_d4 hk9 hA9 hB9 (fun h => u1 (by rw [z_q] at h; exact h))
            obtain rfl := e9.symm
            refine zz_iload hX dL_isStruck_869 15 rfl ?_
            refine zz_if_ne hX 879 dL_isStruck_871 (by decide) (fun _ => ?_) (fun c => absurd c (by decide))
            refine zz_iload hX dL_isStruck_879 20 rfl ?_
            refine zz_if_ne hX 889 dL_isStruck_881 (by decide) (fun _ => ?_) (fun c => absurd c (by decide))
            refine zz_iload hX dL_isStruck_889 21 rfl ?_
            refine zz_if_eq hX 905 dL_isStruck_891 (by decide) (fun _ => ?_) (fun c => absurd c (by decide))
            refine zz_ldc (v := -1000000) hX zw_con_L_90 dL_isStruck_905 ?_
            refine zz_icmp_ne hX 914 dL_isStruck_907 (by decide) (fun c => absurd c (by decide)) (fun _ => ?_)
            refine zz_iconst (v := nI 1) hX dL_isStruck_910 rfl ?_
            refine zz_goto hX 915 dL_isStruck_911 (by decide) ?_
            refine zz_iret hX hr rfl (Nat.le_of_ble_eq_true rfl) (Nat.le_of_ble_eq_true rfl) dL_isStruck_915 ?_
            exact ⟨rfl, ⟨_, ql_J_end hn (ql_W hI) (ql_B_mono (ql_BB hI) (by omega)) (ql_N_g hI.2.2.2 n3 hsm.1 (by unfold ql_gar; omega)) hR9 hS9⟩, ql_10 h10 hS9⟩
        · skip
          refine zz_iload hX dL_isStruck_791 19 rfl ?_
          refine zz_bipush (v := (-100)) hX dL_isStruck_793 rfl ?_
          refine zz_icmp_le hX 809 dL_isStruck_795 (by decide) (fun c795 => ?_) (fun c795 => ?_)
          · skip
            refine zz_iconst (v := nI 0) hX dL_isStruck_809 rfl ?_
            refine zz_istore (ls' := [(0, .ref 2), (1, .ref 100), (2, .ref 101), (3, .ref 102), (4, .ref 103), (5, .ref 104), (6, .ref 105), (7, .ref 106), (8, .ref 107), (9, .ref 108), (10, .ref 109), (11, .int (nI 4)), (12, .int (nI one)), (13, .int (nI two)), (14, .int (nI q)), (15, .int (nI 1)), (16, .int (nI (zv_fr S q))), (17, .int (nI (zv_sk S q))), (18, .int (nI f)), (19, .int (nI z - nI 100)), (20, .int (nI 0))]) hX dL_isStruck_810 (Nat.le_of_ble_eq_true rfl) rfl ?_
            refine zz_iload hX dL_isStruck_812 15 rfl ?_
            refine zz_if_eq hX 831 dL_isStruck_814 (by decide) (fun c => absurd c (by decide)) (fun _ => ?_)
            refine zz_iload hX dL_isStruck_817 20 rfl ?_
            refine zz_if_eq hX 831 dL_isStruck_819 (by decide) (fun _ => ?_) (fun c => absurd c (by decide))
            refine zz_iconst (v := nI 0) hX dL_isStruck_831 rfl ?_
            refine zz_istore (ls' := [(0, .ref 2), (1, .ref 100), (2, .ref 101), (3, .ref 102), (4, .ref 103), (5, .ref 104), (6, .ref 105), (7, .ref 106), (8, .ref 107), (9, .ref 108), (10, .ref 109), (11, .int (nI 4)), (12, .int (nI one)), (13, .int (nI two)), (14, .int (nI q)), (15, .int (nI 1)), (16, .int (nI (zv_fr S q))), (17, .int (nI (zv_sk S q))), (18, .int (nI f)), (19, .int (nI z - nI 100)), (20, .int (nI 0)), (21, .int (nI 0))]) hX dL_isStruck_832 (Nat.le_of_ble_eq_true rfl) rfl ?_
            refine zz_aload hX dL_isStruck_834 9 rfl ?_
            refine zz_iload hX dL_isStruck_836 21 rfl ?_
            refine zz_if_eq hX 849 dL_isStruck_838 (by decide) (fun _ => ?_) (fun c => absurd c (by decide))
            refine zz_bipush (v := nI 57) hX dL_isStruck_849 rfl ?_
            refine zz_dup2 hX dL_isStruck_851 rfl rfl ?_
            refine zz_iald (x := mi 108 57) hX (ql_s108 hI) 57 rfl (by decide) (by decide) rfl dL_isStruck_852 ?_
            refine zz_iload hX dL_isStruck_853 19 rfl ?_
            refine zz_iadd (z := (mi 108 57) + (nI z - nI 100)) hX dL_isStruck_855 rfl ?_
            refine zz_iast hX (ql_s108 hI) 57 rfl (by decide) (by decide) dL_isStruck_856 ?_
            refine zz_aload_n hX dL_isStruck_857 0 rfl rfl ?_
            refine zz_bipush (v := nI 12) hX dL_isStruck_858 rfl ?_
            refine zz_iload hX dL_isStruck_860 14 rfl ?_
            refine zz_iload hX dL_isStruck_862 19 rfl ?_
            refine zz_iconst (v := nI 0) hX dL_isStruck_864 rfl ?_
            refine zz_iconst (v := nI 0) hX dL_isStruck_865 rfl ?_
            have hA9 : zs_ix (nI q) (zv_ns S) := zs_ix_nI g0 (by omega)
            refine zz_callSH hX zf_M_L_161 (As := [.ref 2, .int (nI 12), .int (nI q), .int (nI z - nI 100), .int (nI 0), .int (nI 0)]) (st := []) (D_bump S sh (zm_u2 mi 108 57 ((mi 108 57) + (nI z - nI 100))) mr (ql_W hI) (ql_R_f (ql_W hI) hR (M := (zm_u2 mi 108 57 ((mi 108 57) + (nI z - nI 100)))) (fun l hl => zm_u2r (by omega))) (nI q) (nI z - nI 100) (nI 0) (nI 0)) rfl rfl (by decide) (Nat.le_of_ble_eq_true rfl) (Nat.le_of_ble_eq_true rfl) (Nat.le_of_ble_eq_true rfl) dL_isStruck_866 ?_ (fun _ _ _ _ h _ => h.elim)
            rintro v9 s9 i9 m9 ⟨k9, rfl, hk9, hS9⟩ -
            obtain ⟨e9, hR9⟩ := zq_d3 hk9 hA9 (fun h => u0 ((zs_z3 (by omega) (by decide) rfl (by decide)).mp h))
            obtain rfl := e9.symm
            refine zz_iload hX dL_isStruck_869 15 rfl ?_
            refine zz_if_ne hX 879 dL_isStruck_871 (by decide) (fun _ => ?_) (fun c => absurd c (by decide))
            refine zz_iload hX dL_isStruck_879 20 rfl ?_
            refine zz_if_ne hX 889 dL_isStruck_881 (by decide) (fun c => absurd c (by decide)) (fun _ => ?_)
            refine zz_ldc (v := -2000000) hX zw_con_L_87 dL_isStruck_884 ?_
            refine zz_goto hX 907 dL_isStruck_886 (by decide) ?_
            refine zz_icmp_ne hX 914 dL_isStruck_907 (by decide) (fun c => absurd c (by decide)) (fun _ => ?_)
            refine zz_iconst (v := nI 1) hX dL_isStruck_910 rfl ?_
            refine zz_goto hX 915 dL_isStruck_911 (by decide) ?_
            refine zz_iret hX hr rfl (Nat.le_of_ble_eq_true rfl) (Nat.le_of_ble_eq_true rfl) dL_isStruck_915 ?_
            exact ⟨rfl, ⟨_, ql_J_end hn (ql_W hI) (ql_B_mono (ql_BB hI) (by omega)) (ql_N_g hI.2.2.2 n3 hsm.1 (by unfold ql_gar; omega)) hR9 hS9⟩, ql_10 h10 hS9⟩
          · skip
            refine zz_iload hX dL_isStruck_798 19 rfl ?_
            refine zz_bipush (v := nI 100) hX dL_isStruck_800 rfl ?_
            refine zz_icmp_ge hX 809 dL_isStruck_802 (by decide) (fun c802 => ?_) (fun c802 => absurd ((zs_z2 (by omega) (by decide)).mpr (by have h1 : ¬ z = 0 := fun hz => c795 ((zs_z1 (by omega) (by decide) (by decide)).mpr hz); omega)) c802)
            refine zz_iconst (v := nI 0) hX dL_isStruck_809 rfl ?_
            refine zz_istore (ls' := [(0, .ref 2), (1, .ref 100), (2, .ref 101), (3, .ref 102), (4, .ref 103), (5, .ref 104), (6, .ref 105), (7, .ref 106), (8, .ref 107), (9, .ref 108), (10, .ref 109), (11, .int (nI 4)), (12, .int (nI one)), (13, .int (nI two)), (14, .int (nI q)), (15, .int (nI 1)), (16, .int (nI (zv_fr S q))), (17, .int (nI (zv_sk S q))), (18, .int (nI f)), (19, .int (nI z - nI 100)), (20, .int (nI 0))]) hX dL_isStruck_810 (Nat.le_of_ble_eq_true rfl) rfl ?_
            refine zz_iload hX dL_isStruck_812 15 rfl ?_
            refine zz_if_eq hX 831 dL_isStruck_814 (by decide) (fun c => absurd c (by decide)) (fun _ => ?_)
            refine zz_iload hX dL_isStruck_817 20 rfl ?_
            refine zz_if_eq hX 831 dL_isStruck_819 (by decide) (fun _ => ?_) (fun c => absurd c (by decide))
            refine zz_iconst (v := nI 0) hX dL_isStruck_831 rfl ?_
            refine zz_istore (ls' := [(0, .ref 2), (1, .ref 100), (2, .ref 101), (3, .ref 102), (4, .ref 103), (5, .ref 104), (6, .ref 105), (7, .ref 106), (8, .ref 107), (9, .ref 108), (10, .ref 109), (11, .int (nI 4)), (12, .int (nI one)), (13, .int (nI two)), (14, .int (nI q)), (15, .int (nI 1)), (16, .int (nI (zv_fr S q))), (17, .int (nI (zv_sk S q))), (18, .int (nI f)), (19, .int (nI z - nI 100)), (20, .int (nI 0)), (21, .int (nI 0))]) hX dL_isStruck_832 (Nat.le_of_ble_eq_true rfl) rfl ?_
            refine zz_aload hX dL_isStruck_834 9 rfl ?_
            refine zz_iload hX dL_isStruck_836 21 rfl ?_
            refine zz_if_eq hX 849 dL_isStruck_838 (by decide) (fun _ => ?_) (fun c => absurd c (by decide))
            refine zz_bipush (v := nI 57) hX dL_isStruck_849 rfl ?_
            refine zz_dup2 hX dL_isStruck_851 rfl rfl ?_
            refine zz_iald (x := mi 108 57) hX (ql_s108 hI) 57 rfl (by decide) (by decide) rfl dL_isStruck_852 ?_
            refine zz_iload hX dL_isStruck_853 19 rfl ?_
            refine zz_iadd (z := (mi 108 57) + (nI z - nI 100)) hX dL_isStruck_855 rfl ?_
            refine zz_iast hX (ql_s108 hI) 57 rfl (by decide) (by decide) dL_isStruck_856 ?_
            refine zz_aload_n hX dL_isStruck_857 0 rfl rfl ?_
            refine zz_bipush (v := nI 12) hX dL_isStruck_858 rfl ?_
            refine zz_iload hX dL_isStruck_860 14 rfl ?_
            refine zz_iload hX dL_isStruck_862 19 rfl ?_
            refine zz_iconst (v := nI 0) hX dL_isStruck_864 rfl ?_
            refine zz_iconst (v := nI 0) hX dL_isStruck_865 rfl ?_
            have hA9 : zs_ix (nI q) (zv_ns S) := zs_ix_nI g0 (by omega)
            refine zz_callSH hX zf_M_L_161 (As := [.ref 2, .int (nI 12), .int (nI q), .int (nI z - nI 100), .int (nI 0), .int (nI 0)]) (st := []) (D_bump S sh (zm_u2 mi 108 57 ((mi 108 57) + (nI z - nI 100))) mr (ql_W hI) (ql_R_f (ql_W hI) hR (M := (zm_u2 mi 108 57 ((mi 108 57) + (nI z - nI 100)))) (fun l hl => zm_u2r (by omega))) (nI q) (nI z - nI 100) (nI 0) (nI 0)) rfl rfl (by decide) (Nat.le_of_ble_eq_true rfl) (Nat.le_of_ble_eq_true rfl) (Nat.le_of_ble_eq_true rfl) dL_isStruck_866 ?_ (fun _ _ _ _ h _ => h.elim)
            rintro v9 s9 i9 m9 ⟨k9, rfl, hk9, hS9⟩ -
            obtain ⟨e9, hR9⟩ := zq_d3 hk9 hA9 (fun h => u0 ((zs_z3 (by omega) (by decide) rfl (by decide)).mp h))
            obtain rfl := e9.symm
            refine zz_iload hX dL_isStruck_869 15 rfl ?_
            refine zz_if_ne hX 879 dL_isStruck_871 (by decide) (fun _ => ?_) (fun c => absurd c (by decide))
            refine zz_iload hX dL_isStruck_879 20 rfl ?_
            refine zz_if_ne hX 889 dL_isStruck_881 (by decide) (fun c => absurd c (by decide)) (fun _ => ?_)
            refine zz_ldc (v := -2000000) hX zw_con_L_87 dL_isStruck_884 ?_
            refine zz_goto hX 907 dL_isStruck_886 (by decide) ?_
            refine zz_icmp_ne hX 914 dL_isStruck_907 (by decide) (fun c => absurd c (by decide)) (fun _ => ?_)
            refine zz_iconst (v := nI 1) hX dL_isStruck_910 rfl ?_
            refine zz_goto hX 915 dL_isStruck_911 (by decide) ?_
            refine zz_iret hX hr rfl (Nat.le_of_ble_eq_true rfl) (Nat.le_of_ble_eq_true rfl) dL_isStruck_915 ?_
            exact ⟨rfl, ⟨_, ql_J_end hn (ql_W hI) (ql_B_mono (ql_BB hI) (by omega)) (ql_N_g hI.2.2.2 n3 hsm.1 (by unfold ql_gar; omega)) hR9 hS9⟩, ql_10 h10 hS9⟩
      refine zz_iload hX dL_isStruck_757 13 rfl ?_
      refine zz_bipush (v := nI 9) hX dL_isStruck_759 rfl ?_
      refine zz_irem (z := nI (two % 9)) hX dL_isStruck_761 (by decide) (pk_rem (by omega) (by decide) (by decide)) ?_
      refine zz_if_neN hX (by omega) 782 dL_isStruck_762 (by decide) (fun c762 => ?_) (fun c762 => ?_)
      · skip
        refine zz_iload hX dL_isStruck_782 13 rfl ?_
        refine zz_bipush (v := nI 9) hX dL_isStruck_784 rfl ?_
        refine zz_irem (z := nI (two % 9)) hX dL_isStruck_786 (by decide) (pk_rem (by omega) (by decide) (by decide)) ?_
        refine zz_iconst (v := nI 4) hX dL_isStruck_787 rfl ?_
        refine zz_isub (z := (nI (two % 9)) - (nI 4)) hX dL_isStruck_788 rfl ?_
        exact K789 ((nI (two % 9)) - (nI 4)) (⟨two % 9 + 96, by omega, zs_shf9 (by omega) (by decide) (by decide)⟩)
      · skip
        refine zz_iload hX dL_isStruck_765 13 rfl ?_
        refine zz_bipush (v := nI 9) hX dL_isStruck_767 rfl ?_
        refine zz_idiv (z := nI (two / 9)) hX dL_isStruck_769 (by decide) (pk_div (by omega) (by decide) (by decide)) ?_
        refine zz_iconst (v := nI 2) hX dL_isStruck_770 rfl ?_
        refine zz_irem (z := nI ((two / 9) % 2)) hX dL_isStruck_771 (by decide) (pk_rem (by omega) (by decide) (by decide)) ?_
        refine zz_sipush (v := nI 200) hX dL_isStruck_772 rfl ?_
        refine zz_imul (z := nI (((two / 9) % 2) * 200)) hX dL_isStruck_775 (pk_mul _ _) ?_
        refine zz_bipush (v := nI 100) hX dL_isStruck_776 rfl ?_
        refine zz_isub (z := (nI (((two / 9) % 2) * 200)) - (nI 100)) hX dL_isStruck_778 rfl ?_
        refine zz_goto hX 789 dL_isStruck_779 (by decide) ?_
        exact K789 ((nI (((two / 9) % 2) * 200)) - (nI 100)) (⟨_, by omega, rfl⟩)
    refine zz_iload hX dL_isStruck_63 12 rfl ?_
    refine zz_iconst (v := nI 4) hX dL_isStruck_65 rfl ?_
    refine zz_idiv (z := nI (one / 4)) hX dL_isStruck_66 (by decide) (pk_div (by omega) (by decide) (by decide)) ?_
    refine zz_bipush (v := nI 9) hX dL_isStruck_67 rfl ?_
    refine zz_irem (z := nI ((one / 4) % 9)) hX dL_isStruck_69 (by decide) (pk_rem (by omega) (by decide) (by decide)) ?_
    refine zz_bipush (v := nI 8) hX dL_isStruck_70 rfl ?_
    refine zz_icmp_neN hX (by omega) (by decide) 80 dL_isStruck_72 (by decide) (fun c72 => ?_) (fun c72 => ?_)
    · skip
      refine zz_iload hX dL_isStruck_80 16 rfl ?_
      refine zz_if_neN hX (by omega) 89 dL_isStruck_82 (by decide) (fun c82 => ?_) (fun c82 => absurd c82 (by omega))
      refine zz_iload hX dL_isStruck_89 12 rfl ?_
      refine zz_iconst (v := nI 4) hX dL_isStruck_91 rfl ?_
      refine zz_idiv (z := nI (one / 4)) hX dL_isStruck_92 (by decide) (pk_div (by omega) (by decide) (by decide)) ?_
      refine zz_iload hX dL_isStruck_93 16 rfl ?_
      refine zz_irem (z := nI ((one / 4) % (zv_fr S q))) hX dL_isStruck_95 (nI_ne0 (by omega) (by omega)) (pk_rem (by omega) (by omega) (by omega)) ?_
      exact K96 ((one / 4) % (zv_fr S q)) (by first | omega | exact Nat.le_of_lt (Nat.mod_lt _ (by omega)))
    · skip
      refine zz_iload hX dL_isStruck_75 16 rfl ?_
      refine zz_goto hX 96 dL_isStruck_77 (by decide) ?_
      exact K96 (zv_fr S q) (by first | omega | exact Nat.le_of_lt (Nat.mod_lt _ (by omega)))
  · skip
    refine zz_iload hX dL_isStruck_11 14 rfl ?_
    refine zz_aload hX dL_isStruck_13 10 rfl ?_
    refine zz_iconst (v := nI 2) hX dL_isStruck_15 rfl ?_
    refine zz_iald (x := nI (zv_ns S)) hX (ql_s109 hI) 2 rfl (by decide) (by decide) ((ql_g2 hI)) dL_isStruck_16 ?_
    refine zz_icmp_geN hX (by omega) (by omega) 24 dL_isStruck_17 (by decide) (fun c17 => ?_) (fun c17 => absurd c17 (by omega))
    refine zz_iconst (v := nI 0) hX dL_isStruck_24 rfl ?_
    refine zz_istore (ls' := [(0, .ref 2), (1, .ref 100), (2, .ref 101), (3, .ref 102), (4, .ref 103), (5, .ref 104), (6, .ref 105), (7, .ref 106), (8, .ref 107), (9, .ref 108), (10, .ref 109), (11, .int (nI 4)), (12, .int (nI one)), (13, .int (nI two)), (14, .int (nI q)), (15, .int (nI 0))]) hX dL_isStruck_25 (Nat.le_of_ble_eq_true rfl) rfl ?_
    refine zz_iload hX dL_isStruck_27 15 rfl ?_
    refine zz_if_eq hX 42 dL_isStruck_29 (by decide) (fun _ => ?_) (fun c => absurd c (by decide))
    refine zz_iconst (v := nI 0) hX dL_isStruck_42 rfl ?_
    refine zz_istore (ls' := [(0, .ref 2), (1, .ref 100), (2, .ref 101), (3, .ref 102), (4, .ref 103), (5, .ref 104), (6, .ref 105), (7, .ref 106), (8, .ref 107), (9, .ref 108), (10, .ref 109), (11, .int (nI 4)), (12, .int (nI one)), (13, .int (nI two)), (14, .int (nI q)), (15, .int (nI 0)), (16, .int (nI 0))]) hX dL_isStruck_43 (Nat.le_of_ble_eq_true rfl) rfl ?_
    refine zz_iload hX dL_isStruck_45 15 rfl ?_
    refine zz_if_eq hX 60 dL_isStruck_47 (by decide) (fun _ => ?_) (fun c => absurd c (by decide))
    refine zz_iconst (v := nI 0) hX dL_isStruck_60 rfl ?_
    refine zz_istore (ls' := [(0, .ref 2), (1, .ref 100), (2, .ref 101), (3, .ref 102), (4, .ref 103), (5, .ref 104), (6, .ref 105), (7, .ref 106), (8, .ref 107), (9, .ref 108), (10, .ref 109), (11, .int (nI 4)), (12, .int (nI one)), (13, .int (nI two)), (14, .int (nI q)), (15, .int (nI 0)), (16, .int (nI 0)), (17, .int (nI 0))]) hX dL_isStruck_61 (Nat.le_of_ble_eq_true rfl) rfl ?_
    have K96 : zz Γ (D, E, 24, ad, sh) (zz_End Γ (D, E, 24, ad, sh) (ql_T n) zz_none 10 60) 0 0 sh mi mr 96 [(0, .ref 2), (1, .ref 100), (2, .ref 101), (3, .ref 102), (4, .ref 103), (5, .ref 104), (6, .ref 105), (7, .ref 106), (8, .ref 107), (9, .ref 108), (10, .ref 109), (11, .int (nI 4)), (12, .int (nI one)), (13, .int (nI two)), (14, .int (nI q)), (15, .int (nI 0)), (16, .int (nI 0)), (17, .int (nI 0))] [.int (nI 0)] := by
      refine zz_istore (ls' := [(0, .ref 2), (1, .ref 100), (2, .ref 101), (3, .ref 102), (4, .ref 103), (5, .ref 104), (6, .ref 105), (7, .ref 106), (8, .ref 107), (9, .ref 108), (10, .ref 109), (11, .int (nI 4)), (12, .int (nI one)), (13, .int (nI two)), (14, .int (nI q)), (15, .int (nI 0)), (16, .int (nI 0)), (17, .int (nI 0)), (18, .int (nI 0))]) hX dL_isStruck_96 (Nat.le_of_ble_eq_true rfl) rfl ?_
      refine zz_iload hX dL_isStruck_98 11 rfl ?_
      refine zz_if_ne hX 362 dL_isStruck_100 (by decide) (fun _ => ?_) (fun c => absurd c (by decide))
      refine zz_iload hX dL_isStruck_362 11 rfl ?_
      refine zz_iconst (v := nI 1) hX dL_isStruck_364 rfl ?_
      refine zz_icmp_ne hX 573 dL_isStruck_365 (by decide) (fun _ => ?_) (fun c => absurd c (by decide))
      refine zz_iload hX dL_isStruck_573 11 rfl ?_
      refine zz_iconst (v := nI 2) hX dL_isStruck_575 rfl ?_
      refine zz_icmp_ne hX 644 dL_isStruck_576 (by decide) (fun _ => ?_) (fun c => absurd c (by decide))
      refine zz_iload hX dL_isStruck_644 11 rfl ?_
      refine zz_iconst (v := nI 3) hX dL_isStruck_646 rfl ?_
      refine zz_icmp_ne hX 751 dL_isStruck_647 (by decide) (fun _ => ?_) (fun c => absurd c (by decide))
      refine zz_iload hX dL_isStruck_751 11 rfl ?_
      refine zz_iconst (v := nI 4) hX dL_isStruck_753 rfl ?_
      refine zz_icmp_ne hX 916 dL_isStruck_754 (by decide) (fun c => absurd c (by decide)) (fun _ => ?_)
      have K789 : ∀ x9 : Int32, (∃ z, z ≤ 200 ∧ x9 = nI z - nI 100) → zz Γ (D, E, 24, ad, sh) (zz_End Γ (D, E, 24, ad, sh) (ql_T n) zz_none 10 60) 0 0 sh mi mr 789 [(0, .ref 2), (1, .ref 100), (2, .ref 101), (3, .ref 102), (4, .ref 103), (5, .ref 104), (6, .ref 105), (7, .ref 106), (8, .ref 107), (9, .ref 108), (10, .ref 109), (11, .int (nI 4)), (12, .int (nI one)), (13, .int (nI two)), (14, .int (nI q)), (15, .int (nI 0)), (16, .int (nI 0)), (17, .int (nI 0)), (18, .int (nI 0))] [.int x9] := by
        intro x9 hx9
        obtain ⟨z, hz9, rfl⟩ := hx9
        refine zz_istore (ls' := [(0, .ref 2), (1, .ref 100), (2, .ref 101), (3, .ref 102), (4, .ref 103), (5, .ref 104), (6, .ref 105), (7, .ref 106), (8, .ref 107), (9, .ref 108), (10, .ref 109), (11, .int (nI 4)), (12, .int (nI one)), (13, .int (nI two)), (14, .int (nI q)), (15, .int (nI 0)), (16, .int (nI 0)), (17, .int (nI 0)), (18, .int (nI 0)), (19, .int (nI z - nI 100))]) hX dL_isStruck_789 (Nat.le_of_ble_eq_true rfl) rfl ?_
        have K810 : ∀ b : Nat, b ≤ 1 → zz Γ (D, E, 24, ad, sh) (zz_End Γ (D, E, 24, ad, sh) (ql_T n) zz_none 10 60) 0 0 sh mi mr 810 [(0, .ref 2), (1, .ref 100), (2, .ref 101), (3, .ref 102), (4, .ref 103), (5, .ref 104), (6, .ref 105), (7, .ref 106), (8, .ref 107), (9, .ref 108), (10, .ref 109), (11, .int (nI 4)), (12, .int (nI one)), (13, .int (nI two)), (14, .int (nI q)), (15, .int (nI 0)), (16, .int (nI 0)), (17, .int (nI 0)), (18, .int (nI 0)), (19, .int (nI z - nI 100))] [.int (nI b)] := by
          intro b hb
          refine zz_istore (ls' := [(0, .ref 2), (1, .ref 100), (2, .ref 101), (3, .ref 102), (4, .ref 103), (5, .ref 104), (6, .ref 105), (7, .ref 106), (8, .ref 107), (9, .ref 108), (10, .ref 109), (11, .int (nI 4)), (12, .int (nI one)), (13, .int (nI two)), (14, .int (nI q)), (15, .int (nI 0)), (16, .int (nI 0)), (17, .int (nI 0)), (18, .int (nI 0)), (19, .int (nI z - nI 100)), (20, .int (nI b))]) hX dL_isStruck_810 (Nat.le_of_ble_eq_true rfl) rfl ?_
          refine zz_iload hX dL_isStruck_812 15 rfl ?_
          refine zz_if_eq hX 831 dL_isStruck_814 (by decide) (fun _ => ?_) (fun c => absurd c (by decide))
          refine zz_iconst (v := nI 0) hX dL_isStruck_831 rfl ?_
          refine zz_istore (ls' := [(0, .ref 2), (1, .ref 100), (2, .ref 101), (3, .ref 102), (4, .ref 103), (5, .ref 104), (6, .ref 105), (7, .ref 106), (8, .ref 107), (9, .ref 108), (10, .ref 109), (11, .int (nI 4)), (12, .int (nI one)), (13, .int (nI two)), (14, .int (nI q)), (15, .int (nI 0)), (16, .int (nI 0)), (17, .int (nI 0)), (18, .int (nI 0)), (19, .int (nI z - nI 100)), (20, .int (nI b)), (21, .int (nI 0))]) hX dL_isStruck_832 (Nat.le_of_ble_eq_true rfl) rfl ?_
          refine zz_aload hX dL_isStruck_834 9 rfl ?_
          refine zz_iload hX dL_isStruck_836 21 rfl ?_
          refine zz_if_eq hX 849 dL_isStruck_838 (by decide) (fun _ => ?_) (fun c => absurd c (by decide))
          refine zz_bipush (v := nI 57) hX dL_isStruck_849 rfl ?_
          refine zz_dup2 hX dL_isStruck_851 rfl rfl ?_
          refine zz_iald (x := mi 108 57) hX (ql_s108 hI) 57 rfl (by decide) (by decide) rfl dL_isStruck_852 ?_
          refine zz_iload hX dL_isStruck_853 19 rfl ?_
          refine zz_iadd (z := (mi 108 57) + (nI z - nI 100)) hX dL_isStruck_855 rfl ?_
          refine zz_iast hX (ql_s108 hI) 57 rfl (by decide) (by decide) dL_isStruck_856 ?_
          refine zz_aload_n hX dL_isStruck_857 0 rfl rfl ?_
          refine zz_bipush (v := nI 12) hX dL_isStruck_858 rfl ?_
          refine zz_iload hX dL_isStruck_860 14 rfl ?_
          refine zz_iload hX dL_isStruck_862 19 rfl ?_
          refine zz_iconst (v := nI 0) hX dL_isStruck_864 rfl ?_
          refine zz_iconst (v := nI 0) hX dL_isStruck_865 rfl ?_
          refine zz_callSH hX zf_M_L_161 (As := [.ref 2, .int (nI 12), .int (nI q), .int (nI z - nI 100), .int (nI 0), .int (nI 0)]) (st := []) (D_bump S sh (zm_u2 mi 108 57 ((mi 108 57) + (nI z - nI 100))) mr (ql_W hI) (ql_R_f (ql_W hI) hR (M := (zm_u2 mi 108 57 ((mi 108 57) + (nI z - nI 100)))) (fun l hl => zm_u2r (by omega))) (nI q) (nI z - nI 100) (nI 0) (nI 0)) rfl rfl (by decide) (Nat.le_of_ble_eq_true rfl) (Nat.le_of_ble_eq_true rfl) (Nat.le_of_ble_eq_true rfl) dL_isStruck_866 ?_ (fun _ _ _ _ h _ => h.elim)
          rintro v9 s9 i9 m9 ⟨k9, rfl, hk9, hS9⟩ -
          obtain ⟨e9, hR9⟩ := zq_d2 hk9 (fun h => g0 (zs_ixl h (by omega)))
          obtain rfl := e9.symm
          refine zz_iload hX dL_isStruck_869 15 rfl ?_
          refine zz_if_ne hX 879 dL_isStruck_871 (by decide) (fun c => absurd c (by decide)) (fun _ => ?_)
          refine zz_ldc (v := -3000000) hX zw_con_L_84 dL_isStruck_874 ?_
          refine zz_goto hX 907 dL_isStruck_876 (by decide) ?_
          refine zz_icmp_ne hX 914 dL_isStruck_907 (by decide) (fun c => absurd c (by decide)) (fun _ => ?_)
          refine zz_iconst (v := nI 1) hX dL_isStruck_910 rfl ?_
          refine zz_goto hX 915 dL_isStruck_911 (by decide) ?_
          refine zz_iret hX hr rfl (Nat.le_of_ble_eq_true rfl) (Nat.le_of_ble_eq_true rfl) dL_isStruck_915 ?_
          exact ⟨rfl, ⟨_, ql_J_end hn (ql_W hI) (ql_B_mono (ql_BB hI) (by omega)) (ql_N_g hI.2.2.2 n3 hsm.1 (by unfold ql_gar; omega)) hR9 hS9⟩, ql_10 h10 hS9⟩
        refine zz_iload hX dL_isStruck_791 19 rfl ?_
        refine zz_bipush (v := (-100)) hX dL_isStruck_793 rfl ?_
        refine zz_icmp_le hX 809 dL_isStruck_795 (by decide) (fun c795 => ?_) (fun c795 => ?_)
        · skip
          refine zz_iconst (v := nI 0) hX dL_isStruck_809 rfl ?_
          exact K810 0 (by omega)
        · skip
          refine zz_iload hX dL_isStruck_798 19 rfl ?_
          refine zz_bipush (v := nI 100) hX dL_isStruck_800 rfl ?_
          refine zz_icmp_ge hX 809 dL_isStruck_802 (by decide) (fun c802 => ?_) (fun c802 => ?_)
          · skip
            refine zz_iconst (v := nI 0) hX dL_isStruck_809 rfl ?_
            exact K810 0 (by omega)
          · skip
            refine zz_iconst (v := nI 1) hX dL_isStruck_805 rfl ?_
            refine zz_goto hX 810 dL_isStruck_806 (by decide) ?_
            exact K810 1 (by omega)
      refine zz_iload hX dL_isStruck_757 13 rfl ?_
      refine zz_bipush (v := nI 9) hX dL_isStruck_759 rfl ?_
      refine zz_irem (z := nI (two % 9)) hX dL_isStruck_761 (by decide) (pk_rem (by omega) (by decide) (by decide)) ?_
      refine zz_if_neN hX (by omega) 782 dL_isStruck_762 (by decide) (fun c762 => ?_) (fun c762 => ?_)
      · skip
        refine zz_iload hX dL_isStruck_782 13 rfl ?_
        refine zz_bipush (v := nI 9) hX dL_isStruck_784 rfl ?_
        refine zz_irem (z := nI (two % 9)) hX dL_isStruck_786 (by decide) (pk_rem (by omega) (by decide) (by decide)) ?_
        refine zz_iconst (v := nI 4) hX dL_isStruck_787 rfl ?_
        refine zz_isub (z := (nI (two % 9)) - (nI 4)) hX dL_isStruck_788 rfl ?_
        exact K789 ((nI (two % 9)) - (nI 4)) (⟨two % 9 + 96, by omega, zs_shf9 (by omega) (by decide) (by decide)⟩)
      · skip
        refine zz_iload hX dL_isStruck_765 13 rfl ?_
        refine zz_bipush (v := nI 9) hX dL_isStruck_767 rfl ?_
        refine zz_idiv (z := nI (two / 9)) hX dL_isStruck_769 (by decide) (pk_div (by omega) (by decide) (by decide)) ?_
        refine zz_iconst (v := nI 2) hX dL_isStruck_770 rfl ?_
        refine zz_irem (z := nI ((two / 9) % 2)) hX dL_isStruck_771 (by decide) (pk_rem (by omega) (by decide) (by decide)) ?_
        refine zz_sipush (v := nI 200) hX dL_isStruck_772 rfl ?_
        refine zz_imul (z := nI (((two / 9) % 2) * 200)) hX dL_isStruck_775 (pk_mul _ _) ?_
        refine zz_bipush (v := nI 100) hX dL_isStruck_776 rfl ?_
        refine zz_isub (z := (nI (((two / 9) % 2) * 200)) - (nI 100)) hX dL_isStruck_778 rfl ?_
        refine zz_goto hX 789 dL_isStruck_779 (by decide) ?_
        exact K789 ((nI (((two / 9) % 2) * 200)) - (nI 100)) (⟨_, by omega, rfl⟩)
    refine zz_iload hX dL_isStruck_63 12 rfl ?_
    refine zz_iconst (v := nI 4) hX dL_isStruck_65 rfl ?_
    refine zz_idiv (z := nI (one / 4)) hX dL_isStruck_66 (by decide) (pk_div (by omega) (by decide) (by decide)) ?_
    refine zz_bipush (v := nI 9) hX dL_isStruck_67 rfl ?_
    refine zz_irem (z := nI ((one / 4) % 9)) hX dL_isStruck_69 (by decide) (pk_rem (by omega) (by decide) (by decide)) ?_
    refine zz_bipush (v := nI 8) hX dL_isStruck_70 rfl ?_
    refine zz_icmp_neN hX (by omega) (by decide) 80 dL_isStruck_72 (by decide) (fun c72 => ?_) (fun c72 => ?_)
    · skip
      refine zz_iload hX dL_isStruck_80 16 rfl ?_
      refine zz_if_ne hX 89 dL_isStruck_82 (by decide) (fun c => absurd c (by decide)) (fun _ => ?_)
      refine zz_iconst (v := nI 0) hX dL_isStruck_85 rfl ?_
      refine zz_goto hX 96 dL_isStruck_86 (by decide) ?_
      exact zz_top (rfl) K96
    · skip
      refine zz_iload hX dL_isStruck_75 16 rfl ?_
      refine zz_goto hX 96 dL_isStruck_77 (by decide) ?_
      exact zz_top (rfl) K96

set_option maxHeartbeats 1000000 in
set_option maxRecDepth 20000 in
theorem S_level (n : Nat) (hn : n + 1 ≤ 64) (S : zS) (sh : zm_Sh) (mi : zm_Mi) (mr : zm_Mr) (hI : ql_I n S sh mi) (hR : zR S sh mi mr) (h10 : sh 10 = some (9, 0)) (one two : Nat) (ho : one < 60000) (ht : two < 60000)  : zz_Con yL_isStruck (.code yL_isStruck cL_isStruck 24 (some Jvm.ClassFile.FieldType.boolean)) 12 10 60 [.ref 2, .ref 100, .ref 101, .ref 102, .ref 103, .ref 104, .ref 105, .ref 106, .ref 107, .ref 108, .ref 109, .int (nI 5), .int (nI one), .int (nI two)] sh mi mr (ql_T n) zz_none := by
  refine zz_begin RL [(0, .ref 2), (1, .ref 100), (2, .ref 101), (3, .ref 102), (4, .ref 103), (5, .ref 104), (6, .ref 105), (7, .ref 106), (8, .ref 107), (9, .ref 108), (10, .ref 109), (11, .int (nI 5)), (12, .int (nI one)), (13, .int (nI two))] (by decide) rfl rfl (Nat.le_of_ble_eq_true rfl) rfl ?_
  intro Γ D E ad hX hr hN hT
  obtain ⟨n1, n2, n3, n4⟩ := ql_num hI
  have hsm := ql_small hI
  refine zz_iload hX dL_isStruck_0 12 rfl ?_
  refine zz_aload hX dL_isStruck_2 10 rfl ?_
  refine zz_iconst (v := nI 2) hX dL_isStruck_4 rfl ?_
  refine zz_iald (x := nI (zv_ns S)) hX (ql_s109 hI) 2 rfl (by decide) (by decide) ((ql_g2 hI)) dL_isStruck_5 ?_
  refine zz_iconst (v := nI 1) hX dL_isStruck_6 rfl ?_
  refine zz_iadd (z := nI (zv_ns S + 1)) hX dL_isStruck_7 (nI_add _ _) ?_
  refine zz_irem (z := nI (one % (zv_ns S + 1))) hX dL_isStruck_8 (nI_ne0 (by omega) (by omega)) (pk_rem (by omega) (by omega) (by omega)) ?_
  have hq9 : one % (zv_ns S + 1) < zv_ns S + 1 := Nat.mod_lt _ (by omega)
  generalize one % (zv_ns S + 1) = q at hq9 ⊢
  have z_q : zn (nI q) = q := nI_clamp (n := q) (by omega)
  refine zz_istore (ls' := [(0, .ref 2), (1, .ref 100), (2, .ref 101), (3, .ref 102), (4, .ref 103), (5, .ref 104), (6, .ref 105), (7, .ref 106), (8, .ref 107), (9, .ref 108), (10, .ref 109), (11, .int (nI 5)), (12, .int (nI one)), (13, .int (nI two)), (14, .int (nI q))]) hX dL_isStruck_9 (Nat.le_of_ble_eq_true rfl) rfl ?_
  by_cases g0 : q < zv_ns S
  · skip
    have hwq := ql_hw_lt hI g0
    obtain ⟨q1, q2, q3, q4, q5, q6, q7, q8, q9, q10, q11, q12⟩ := ql_shot hI g0
    refine zz_iload hX dL_isStruck_11 14 rfl ?_
    refine zz_aload hX dL_isStruck_13 10 rfl ?_
    refine zz_iconst (v := nI 2) hX dL_isStruck_15 rfl ?_
    refine zz_iald (x := nI (zv_ns S)) hX (ql_s109 hI) 2 rfl (by decide) (by decide) ((ql_g2 hI)) dL_isStruck_16 ?_
    refine zz_icmp_geN hX (by omega) (by omega) 24 dL_isStruck_17 (by decide) (fun c17 => absurd c17 (by omega)) (fun c17 => ?_)
    refine zz_iconst (v := nI 1) hX dL_isStruck_20 rfl ?_
    refine zz_goto hX 25 dL_isStruck_21 (by decide) ?_
    refine zz_istore (ls' := [(0, .ref 2), (1, .ref 100), (2, .ref 101), (3, .ref 102), (4, .ref 103), (5, .ref 104), (6, .ref 105), (7, .ref 106), (8, .ref 107), (9, .ref 108), (10, .ref 109), (11, .int (nI 5)), (12, .int (nI one)), (13, .int (nI two)), (14, .int (nI q)), (15, .int (nI 1))]) hX dL_isStruck_25 (Nat.le_of_ble_eq_true rfl) rfl ?_
    refine zz_iload hX dL_isStruck_27 15 rfl ?_
    refine zz_if_eq hX 42 dL_isStruck_29 (by decide) (fun c => absurd c (by decide)) (fun _ => ?_)
    refine zz_aload hX dL_isStruck_32 5 rfl ?_
    refine zz_iload hX dL_isStruck_34 14 rfl ?_
    refine zz_sI (x := nI (zv_fr S q)) hX zf_M_L_105 (As := [.ref 104, .int (nI q)]) (st := []) (Q_frames n S sh mi mr hI q (by omega)) rfl rfl (by decide) (Nat.le_of_ble_eq_true rfl) (Nat.le_of_ble_eq_true rfl) (Nat.le_of_ble_eq_true rfl) dL_isStruck_36 ?_
    refine zz_goto hX 43 dL_isStruck_39 (by decide) ?_
    refine zz_istore (ls' := [(0, .ref 2), (1, .ref 100), (2, .ref 101), (3, .ref 102), (4, .ref 103), (5, .ref 104), (6, .ref 105), (7, .ref 106), (8, .ref 107), (9, .ref 108), (10, .ref 109), (11, .int (nI 5)), (12, .int (nI one)), (13, .int (nI two)), (14, .int (nI q)), (15, .int (nI 1)), (16, .int (nI (zv_fr S q)))]) hX dL_isStruck_43 (Nat.le_of_ble_eq_true rfl) rfl ?_
    refine zz_iload hX dL_isStruck_45 15 rfl ?_
    refine zz_if_eq hX 60 dL_isStruck_47 (by decide) (fun c => absurd c (by decide)) (fun _ => ?_)
    refine zz_aload hX dL_isStruck_50 5 rfl ?_
    refine zz_iload hX dL_isStruck_52 14 rfl ?_
    refine zz_sI (x := nI (zv_sk S q)) hX zf_M_L_101 (As := [.ref 104, .int (nI q)]) (st := []) (Q_struck n S sh mi mr hI q (by omega)) rfl rfl (by decide) (Nat.le_of_ble_eq_true rfl) (Nat.le_of_ble_eq_true rfl) (Nat.le_of_ble_eq_true rfl) dL_isStruck_54 ?_
    refine zz_goto hX 61 dL_isStruck_57 (by decide) ?_
    refine zz_istore (ls' := [(0, .ref 2), (1, .ref 100), (2, .ref 101), (3, .ref 102), (4, .ref 103), (5, .ref 104), (6, .ref 105), (7, .ref 106), (8, .ref 107), (9, .ref 108), (10, .ref 109), (11, .int (nI 5)), (12, .int (nI one)), (13, .int (nI two)), (14, .int (nI q)), (15, .int (nI 1)), (16, .int (nI (zv_fr S q))), (17, .int (nI (zv_sk S q)))]) hX dL_isStruck_61 (Nat.le_of_ble_eq_true rfl) rfl ?_
    have K96 : ∀ f : Nat, f ≤ zv_fr S q → zz Γ (D, E, 24, ad, sh) (zz_End Γ (D, E, 24, ad, sh) (ql_T n) zz_none 10 60) 0 0 sh mi mr 96 [(0, .ref 2), (1, .ref 100), (2, .ref 101), (3, .ref 102), (4, .ref 103), (5, .ref 104), (6, .ref 105), (7, .ref 106), (8, .ref 107), (9, .ref 108), (10, .ref 109), (11, .int (nI 5)), (12, .int (nI one)), (13, .int (nI two)), (14, .int (nI q)), (15, .int (nI 1)), (16, .int (nI (zv_fr S q))), (17, .int (nI (zv_sk S q)))] [.int (nI f)] := by
      intro f hf
      have z_f : zn (nI f) = f := nI_clamp (n := f) (by omega)
      refine zz_istore (ls' := [(0, .ref 2), (1, .ref 100), (2, .ref 101), (3, .ref 102), (4, .ref 103), (5, .ref 104), (6, .ref 105), (7, .ref 106), (8, .ref 107), (9, .ref 108), (10, .ref 109), (11, .int (nI 5)), (12, .int (nI one)), (13, .int (nI two)), (14, .int (nI q)), (15, .int (nI 1)), (16, .int (nI (zv_fr S q))), (17, .int (nI (zv_sk S q))), (18, .int (nI f))]) hX dL_isStruck_96 (Nat.le_of_ble_eq_true rfl) rfl ?_
      refine zz_iload hX dL_isStruck_98 11 rfl ?_
      refine zz_if_ne hX 362 dL_isStruck_100 (by decide) (fun _ => ?_) (fun c => absurd c (by decide))
      refine zz_iload hX dL_isStruck_362 11 rfl ?_
      refine zz_iconst (v := nI 1) hX dL_isStruck_364 rfl ?_
      refine zz_icmp_ne hX 573 dL_isStruck_365 (by decide) (fun _ => ?_) (fun c => absurd c (by decide))
      refine zz_iload hX dL_isStruck_573 11 rfl ?_
      refine zz_iconst (v := nI 2) hX dL_isStruck_575 rfl ?_
      refine zz_icmp_ne hX 644 dL_isStruck_576 (by decide) (fun _ => ?_) (fun c => absurd c (by decide))
      refine zz_iload hX dL_isStruck_644 11 rfl ?_
      refine zz_iconst (v := nI 3) hX dL_isStruck_646 rfl ?_
      refine zz_icmp_ne hX 751 dL_isStruck_647 (by decide) (fun _ => ?_) (fun c => absurd c (by decide))
      refine zz_iload hX dL_isStruck_751 11 rfl ?_
      refine zz_iconst (v := nI 4) hX dL_isStruck_753 rfl ?_
      refine zz_icmp_ne hX 916 dL_isStruck_754 (by decide) (fun _ => ?_) (fun c => absurd c (by decide))
      refine zz_iload hX dL_isStruck_916 11 rfl ?_
      refine zz_iconst (v := nI 5) hX dL_isStruck_918 rfl ?_
      refine zz_icmp_ne hX 992 dL_isStruck_919 (by decide) (fun c => absurd c (by decide)) (fun _ => ?_)
      refine zz_iload hX dL_isStruck_922 15 rfl ?_
      refine zz_if_eq hX 938 dL_isStruck_924 (by decide) (fun c => absurd c (by decide)) (fun _ => ?_)
      refine zz_aload hX dL_isStruck_927 9 rfl ?_
      refine zz_bipush (v := nI 54) hX dL_isStruck_929 rfl ?_
      refine zz_iload hX dL_isStruck_931 14 rfl ?_
      refine zz_iadd (z := nI (54 + q)) hX dL_isStruck_933 (nI_add _ _) ?_
      refine zz_iald (x := S 16 q) hX (ql_s108 hI) (54 + q) rfl (by omega) (by decide) (((ql_Ne hI).2 q (by omega))) dL_isStruck_934 ?_
      refine zz_goto hX 939 dL_isStruck_935 (by decide) ?_
      refine zz_istore (ls' := [(0, .ref 2), (1, .ref 100), (2, .ref 101), (3, .ref 102), (4, .ref 103), (5, .ref 104), (6, .ref 105), (7, .ref 106), (8, .ref 107), (9, .ref 108), (10, .ref 109), (11, .int (nI 5)), (12, .int (nI one)), (13, .int (nI two)), (14, .int (nI q)), (15, .int (nI 1)), (16, .int (nI (zv_fr S q))), (17, .int (nI (zv_sk S q))), (18, .int (nI f)), (19, .int (S 16 q))]) hX dL_isStruck_939 (Nat.le_of_ble_eq_true rfl) rfl ?_
      refine zz_aload hX dL_isStruck_941 9 rfl ?_
      refine zz_iload hX dL_isStruck_943 15 rfl ?_
      refine zz_if_eq hX 956 dL_isStruck_945 (by decide) (fun c => absurd c (by decide)) (fun _ => ?_)
      refine zz_bipush (v := nI 54) hX dL_isStruck_948 rfl ?_
      refine zz_iload hX dL_isStruck_950 14 rfl ?_
      refine zz_iadd (z := nI (54 + q)) hX dL_isStruck_952 (nI_add _ _) ?_
      refine zz_goto hX 958 dL_isStruck_953 (by decide) ?_
      refine zz_iconst (v := nI 0) hX dL_isStruck_958 rfl ?_
      refine zz_top (show nI 0 = (0 : Int32) from nI_0) ?_
      refine zz_iast hX (ql_s108 hI) (54 + q) rfl (by omega) (by decide) dL_isStruck_959 ?_
      refine zz_aload_n hX dL_isStruck_960 0 rfl rfl ?_
      refine zz_bipush (v := nI 13) hX dL_isStruck_961 rfl ?_
      refine zz_iload hX dL_isStruck_963 14 rfl ?_
      refine zz_iconst (v := nI 0) hX dL_isStruck_965 rfl ?_
      refine zz_iconst (v := nI 0) hX dL_isStruck_966 rfl ?_
      refine zz_iconst (v := nI 0) hX dL_isStruck_967 rfl ?_
      have hA9 : zs_ix (nI q) (zv_ns S) := zs_ix_nI g0 (by omega)
      refine zz_callSH hX zf_M_L_161 (As := [.ref 2, .int (nI 13), .int (nI q), .int (nI 0), .int (nI 0), .int (nI 0)]) (st := []) (D_level S sh (zm_u2 mi 108 (54 + q) 0) mr (ql_W hI) (ql_R_f (ql_W hI) hR (M := (zm_u2 mi 108 (54 + q) 0)) (fun l hl => zm_u2r (by omega))) (nI q) (nI 0) (nI 0) (nI 0)) rfl rfl (by decide) (Nat.le_of_ble_eq_true rfl) (Nat.le_of_ble_eq_true rfl) (Nat.le_of_ble_eq_true rfl) dL_isStruck_968 ?_ (fun _ _ _ _ h _ => h.elim)
      rintro v9 s9 i9 m9 ⟨k9, rfl, hk9, hS9⟩ -
      obtain ⟨e9, hR9⟩ := zq_d1 hk9 hA9 trivial trivial
      simp only [z_q] at e9 hR9
      obtain rfl := e9.symm
      refine zz_iload hX dL_isStruck_971 15 rfl ?_
      refine zz_if_eq hX 981 dL_isStruck_973 (by decide) (fun c => absurd c (by decide)) (fun _ => ?_)
      refine zz_iload hX dL_isStruck_976 19 rfl ?_
      refine zz_goto hX 983 dL_isStruck_978 (by decide) ?_
      refine zz_icmp_ne hX 990 dL_isStruck_983 (by decide) (fun c983 => absurd rfl c983) (fun c983 => ?_)
      refine zz_iconst (v := nI 1) hX dL_isStruck_986 rfl ?_
      refine zz_goto hX 991 dL_isStruck_987 (by decide) ?_
      refine zz_iret hX hr rfl (Nat.le_of_ble_eq_true rfl) (Nat.le_of_ble_eq_true rfl) dL_isStruck_991 ?_
      exact ⟨rfl, ⟨_, ql_J_end hn (by have z := U_level (ql_W hI) (nI q) hA9 trivial trivial; simp only [z_q] at z; exact z) (ql_B_s (ql_BB hI) (fun r hr => zm_u2r (by omega))) (ql_N_t hI.2.2.2 (by omega) hsm.1 n3) hR9 hS9⟩, ql_10 h10 hS9⟩
    refine zz_iload hX dL_isStruck_63 12 rfl ?_
    refine zz_iconst (v := nI 4) hX dL_isStruck_65 rfl ?_
    refine zz_idiv (z := nI (one / 4)) hX dL_isStruck_66 (by decide) (pk_div (by omega) (by decide) (by decide)) ?_
    refine zz_bipush (v := nI 9) hX dL_isStruck_67 rfl ?_
    refine zz_irem (z := nI ((one / 4) % 9)) hX dL_isStruck_69 (by decide) (pk_rem (by omega) (by decide) (by decide)) ?_
    refine zz_bipush (v := nI 8) hX dL_isStruck_70 rfl ?_
    refine zz_icmp_neN hX (by omega) (by decide) 80 dL_isStruck_72 (by decide) (fun c72 => ?_) (fun c72 => ?_)
    · skip
      refine zz_iload hX dL_isStruck_80 16 rfl ?_
      refine zz_if_neN hX (by omega) 89 dL_isStruck_82 (by decide) (fun c82 => ?_) (fun c82 => absurd c82 (by omega))
      refine zz_iload hX dL_isStruck_89 12 rfl ?_
      refine zz_iconst (v := nI 4) hX dL_isStruck_91 rfl ?_
      refine zz_idiv (z := nI (one / 4)) hX dL_isStruck_92 (by decide) (pk_div (by omega) (by decide) (by decide)) ?_
      refine zz_iload hX dL_isStruck_93 16 rfl ?_
      refine zz_irem (z := nI ((one / 4) % (zv_fr S q))) hX dL_isStruck_95 (nI_ne0 (by omega) (by omega)) (pk_rem (by omega) (by omega) (by omega)) ?_
      exact K96 ((one / 4) % (zv_fr S q)) (by first | omega | exact Nat.le_of_lt (Nat.mod_lt _ (by omega)))
    · skip
      refine zz_iload hX dL_isStruck_75 16 rfl ?_
      refine zz_goto hX 96 dL_isStruck_77 (by decide) ?_
      exact K96 (zv_fr S q) (by first | omega | exact Nat.le_of_lt (Nat.mod_lt _ (by omega)))
  · skip
    refine zz_iload hX dL_isStruck_11 14 rfl ?_
    refine zz_aload hX dL_isStruck_13 10 rfl ?_
    refine zz_iconst (v := nI 2) hX dL_isStruck_15 rfl ?_
    refine zz_iald (x := nI (zv_ns S)) hX (ql_s109 hI) 2 rfl (by decide) (by decide) ((ql_g2 hI)) dL_isStruck_16 ?_
    refine zz_icmp_geN hX (by omega) (by omega) 24 dL_isStruck_17 (by decide) (fun c17 => ?_) (fun c17 => absurd c17 (by omega))
    refine zz_iconst (v := nI 0) hX dL_isStruck_24 rfl ?_
    refine zz_istore (ls' := [(0, .ref 2), (1, .ref 100), (2, .ref 101), (3, .ref 102), (4, .ref 103), (5, .ref 104), (6, .ref 105), (7, .ref 106), (8, .ref 107), (9, .ref 108), (10, .ref 109), (11, .int (nI 5)), (12, .int (nI one)), (13, .int (nI two)), (14, .int (nI q)), (15, .int (nI 0))]) hX dL_isStruck_25 (Nat.le_of_ble_eq_true rfl) rfl ?_
    refine zz_iload hX dL_isStruck_27 15 rfl ?_
    refine zz_if_eq hX 42 dL_isStruck_29 (by decide) (fun _ => ?_) (fun c => absurd c (by decide))
    refine zz_iconst (v := nI 0) hX dL_isStruck_42 rfl ?_
    refine zz_istore (ls' := [(0, .ref 2), (1, .ref 100), (2, .ref 101), (3, .ref 102), (4, .ref 103), (5, .ref 104), (6, .ref 105), (7, .ref 106), (8, .ref 107), (9, .ref 108), (10, .ref 109), (11, .int (nI 5)), (12, .int (nI one)), (13, .int (nI two)), (14, .int (nI q)), (15, .int (nI 0)), (16, .int (nI 0))]) hX dL_isStruck_43 (Nat.le_of_ble_eq_true rfl) rfl ?_
    refine zz_iload hX dL_isStruck_45 15 rfl ?_
    refine zz_if_eq hX 60 dL_isStruck_47 (by decide) (fun _ => ?_) (fun c => absurd c (by decide))
    refine zz_iconst (v := nI 0) hX dL_isStruck_60 rfl ?_
    refine zz_istore (ls' := [(0, .ref 2), (1, .ref 100), (2, .ref 101), (3, .ref 102), (4, .ref 103), (5, .ref 104), (6, .ref 105), (7, .ref 106), (8, .ref 107), (9, .ref 108), (10, .ref 109), (11, .int (nI 5)), (12, .int (nI one)), (13, .int (nI two)), (14, .int (nI q)), (15, .int (nI 0)), (16, .int (nI 0)), (17, .int (nI 0))]) hX dL_isStruck_61 (Nat.le_of_ble_eq_true rfl) rfl ?_
    have K96 : zz Γ (D, E, 24, ad, sh) (zz_End Γ (D, E, 24, ad, sh) (ql_T n) zz_none 10 60) 0 0 sh mi mr 96 [(0, .ref 2), (1, .ref 100), (2, .ref 101), (3, .ref 102), (4, .ref 103), (5, .ref 104), (6, .ref 105), (7, .ref 106), (8, .ref 107), (9, .ref 108), (10, .ref 109), (11, .int (nI 5)), (12, .int (nI one)), (13, .int (nI two)), (14, .int (nI q)), (15, .int (nI 0)), (16, .int (nI 0)), (17, .int (nI 0))] [.int (nI 0)] := by
      refine zz_istore (ls' := [(0, .ref 2), (1, .ref 100), (2, .ref 101), (3, .ref 102), (4, .ref 103), (5, .ref 104), (6, .ref 105), (7, .ref 106), (8, .ref 107), (9, .ref 108), (10, .ref 109), (11, .int (nI 5)), (12, .int (nI one)), (13, .int (nI two)), (14, .int (nI q)), (15, .int (nI 0)), (16, .int (nI 0)), (17, .int (nI 0)), (18, .int (nI 0))]) hX dL_isStruck_96 (Nat.le_of_ble_eq_true rfl) rfl ?_
      refine zz_iload hX dL_isStruck_98 11 rfl ?_
      refine zz_if_ne hX 362 dL_isStruck_100 (by decide) (fun _ => ?_) (fun c => absurd c (by decide))
      refine zz_iload hX dL_isStruck_362 11 rfl ?_
      refine zz_iconst (v := nI 1) hX dL_isStruck_364 rfl ?_
      refine zz_icmp_ne hX 573 dL_isStruck_365 (by decide) (fun _ => ?_) (fun c => absurd c (by decide))
      refine zz_iload hX dL_isStruck_573 11 rfl ?_
      refine zz_iconst (v := nI 2) hX dL_isStruck_575 rfl ?_
      refine zz_icmp_ne hX 644 dL_isStruck_576 (by decide) (fun _ => ?_) (fun c => absurd c (by decide))
      refine zz_iload hX dL_isStruck_644 11 rfl ?_
      refine zz_iconst (v := nI 3) hX dL_isStruck_646 rfl ?_
      refine zz_icmp_ne hX 751 dL_isStruck_647 (by decide) (fun _ => ?_) (fun c => absurd c (by decide))
      refine zz_iload hX dL_isStruck_751 11 rfl ?_
      refine zz_iconst (v := nI 4) hX dL_isStruck_753 rfl ?_
      refine zz_icmp_ne hX 916 dL_isStruck_754 (by decide) (fun _ => ?_) (fun c => absurd c (by decide))
      refine zz_iload hX dL_isStruck_916 11 rfl ?_
      refine zz_iconst (v := nI 5) hX dL_isStruck_918 rfl ?_
      refine zz_icmp_ne hX 992 dL_isStruck_919 (by decide) (fun c => absurd c (by decide)) (fun _ => ?_)
      refine zz_iload hX dL_isStruck_922 15 rfl ?_
      refine zz_if_eq hX 938 dL_isStruck_924 (by decide) (fun _ => ?_) (fun c => absurd c (by decide))
      refine zz_iconst (v := nI 0) hX dL_isStruck_938 rfl ?_
      refine zz_istore (ls' := [(0, .ref 2), (1, .ref 100), (2, .ref 101), (3, .ref 102), (4, .ref 103), (5, .ref 104), (6, .ref 105), (7, .ref 106), (8, .ref 107), (9, .ref 108), (10, .ref 109), (11, .int (nI 5)), (12, .int (nI one)), (13, .int (nI two)), (14, .int (nI q)), (15, .int (nI 0)), (16, .int (nI 0)), (17, .int (nI 0)), (18, .int (nI 0)), (19, .int (nI 0))]) hX dL_isStruck_939 (Nat.le_of_ble_eq_true rfl) rfl ?_
      refine zz_aload hX dL_isStruck_941 9 rfl ?_
      refine zz_iload hX dL_isStruck_943 15 rfl ?_
      refine zz_if_eq hX 956 dL_isStruck_945 (by decide) (fun _ => ?_) (fun c => absurd c (by decide))
      refine zz_bipush (v := nI 57) hX dL_isStruck_956 rfl ?_
      refine zz_iconst (v := nI 0) hX dL_isStruck_958 rfl ?_
      refine zz_top (show nI 0 = (0 : Int32) from nI_0) ?_
      refine zz_iast hX (ql_s108 hI) 57 rfl (by decide) (by decide) dL_isStruck_959 ?_
      refine zz_aload_n hX dL_isStruck_960 0 rfl rfl ?_
      refine zz_bipush (v := nI 13) hX dL_isStruck_961 rfl ?_
      refine zz_iload hX dL_isStruck_963 14 rfl ?_
      refine zz_iconst (v := nI 0) hX dL_isStruck_965 rfl ?_
      refine zz_iconst (v := nI 0) hX dL_isStruck_966 rfl ?_
      refine zz_iconst (v := nI 0) hX dL_isStruck_967 rfl ?_
      refine zz_callSH hX zf_M_L_161 (As := [.ref 2, .int (nI 13), .int (nI q), .int (nI 0), .int (nI 0), .int (nI 0)]) (st := []) (D_level S sh (zm_u2 mi 108 57 0) mr (ql_W hI) (ql_R_f (ql_W hI) hR (M := (zm_u2 mi 108 57 0)) (fun l hl => zm_u2r (by omega))) (nI q) (nI 0) (nI 0) (nI 0)) rfl rfl (by decide) (Nat.le_of_ble_eq_true rfl) (Nat.le_of_ble_eq_true rfl) (Nat.le_of_ble_eq_true rfl) dL_isStruck_968 ?_ (fun _ _ _ _ h _ => h.elim)
      rintro v9 s9 i9 m9 ⟨k9, rfl, hk9, hS9⟩ -
      obtain ⟨e9, hR9⟩ := zq_d2 hk9 (fun h => g0 (zs_ixl h (by omega)))
      obtain rfl := e9.symm
      refine zz_iload hX dL_isStruck_971 15 rfl ?_
      refine zz_if_eq hX 981 dL_isStruck_973 (by decide) (fun _ => ?_) (fun c => absurd c (by decide))
      refine zz_ldc (v := -3000000) hX zw_con_L_84 dL_isStruck_981 ?_
      refine zz_icmp_ne hX 990 dL_isStruck_983 (by decide) (fun c => absurd c (by decide)) (fun _ => ?_)
      refine zz_iconst (v := nI 1) hX dL_isStruck_986 rfl ?_
      refine zz_goto hX 991 dL_isStruck_987 (by decide) ?_
      refine zz_iret hX hr rfl (Nat.le_of_ble_eq_true rfl) (Nat.le_of_ble_eq_true rfl) dL_isStruck_991 ?_
      exact ⟨rfl, ⟨_, ql_J_end hn (ql_W hI) (ql_B_mono (ql_BB hI) (by omega)) (ql_N_g hI.2.2.2 n3 hsm.1 (by unfold ql_gar; omega)) hR9 hS9⟩, ql_10 h10 hS9⟩
    refine zz_iload hX dL_isStruck_63 12 rfl ?_
    refine zz_iconst (v := nI 4) hX dL_isStruck_65 rfl ?_
    refine zz_idiv (z := nI (one / 4)) hX dL_isStruck_66 (by decide) (pk_div (by omega) (by decide) (by decide)) ?_
    refine zz_bipush (v := nI 9) hX dL_isStruck_67 rfl ?_
    refine zz_irem (z := nI ((one / 4) % 9)) hX dL_isStruck_69 (by decide) (pk_rem (by omega) (by decide) (by decide)) ?_
    refine zz_bipush (v := nI 8) hX dL_isStruck_70 rfl ?_
    refine zz_icmp_neN hX (by omega) (by decide) 80 dL_isStruck_72 (by decide) (fun c72 => ?_) (fun c72 => ?_)
    · skip
      refine zz_iload hX dL_isStruck_80 16 rfl ?_
      refine zz_if_ne hX 89 dL_isStruck_82 (by decide) (fun c => absurd c (by decide)) (fun _ => ?_)
      refine zz_iconst (v := nI 0) hX dL_isStruck_85 rfl ?_
      refine zz_goto hX 96 dL_isStruck_86 (by decide) ?_
      exact zz_top (rfl) K96
    · skip
      refine zz_iload hX dL_isStruck_75 16 rfl ?_
      refine zz_goto hX 96 dL_isStruck_77 (by decide) ?_
      exact zz_top (rfl) K96

set_option maxHeartbeats 1000000 in
set_option maxRecDepth 20000 in
theorem S_anew (n : Nat) (hn : n + 1 ≤ 64) (S : zS) (sh : zm_Sh) (mi : zm_Mi) (mr : zm_Mr) (hI : ql_I n S sh mi) (hR : zR S sh mi mr) (h10 : sh 10 = some (9, 0)) (one two : Nat) (ho : one < 60000) (ht : two < 60000)  : zz_Con yL_isStruck (.code yL_isStruck cL_isStruck 24 (some Jvm.ClassFile.FieldType.boolean)) 12 10 60 [.ref 2, .ref 100, .ref 101, .ref 102, .ref 103, .ref 104, .ref 105, .ref 106, .ref 107, .ref 108, .ref 109, .int (nI 6), .int (nI one), .int (nI two)] sh mi mr (ql_T n) zz_none := by
  refine zz_begin RL [(0, .ref 2), (1, .ref 100), (2, .ref 101), (3, .ref 102), (4, .ref 103), (5, .ref 104), (6, .ref 105), (7, .ref 106), (8, .ref 107), (9, .ref 108), (10, .ref 109), (11, .int (nI 6)), (12, .int (nI one)), (13, .int (nI two))] (by decide) rfl rfl (Nat.le_of_ble_eq_true rfl) rfl ?_
  intro Γ D E ad hX hr hN hT
  obtain ⟨n1, n2, n3, n4⟩ := ql_num hI
  have hsm := ql_small hI
  refine zz_iload hX dL_isStruck_0 12 rfl ?_
  refine zz_aload hX dL_isStruck_2 10 rfl ?_
  refine zz_iconst (v := nI 2) hX dL_isStruck_4 rfl ?_
  refine zz_iald (x := nI (zv_ns S)) hX (ql_s109 hI) 2 rfl (by decide) (by decide) ((ql_g2 hI)) dL_isStruck_5 ?_
  refine zz_iconst (v := nI 1) hX dL_isStruck_6 rfl ?_
  refine zz_iadd (z := nI (zv_ns S + 1)) hX dL_isStruck_7 (nI_add _ _) ?_
  refine zz_irem (z := nI (one % (zv_ns S + 1))) hX dL_isStruck_8 (nI_ne0 (by omega) (by omega)) (pk_rem (by omega) (by omega) (by omega)) ?_
  have hq9 : one % (zv_ns S + 1) < zv_ns S + 1 := Nat.mod_lt _ (by omega)
  generalize one % (zv_ns S + 1) = q at hq9 ⊢
  have z_q : zn (nI q) = q := nI_clamp (n := q) (by omega)
  refine zz_istore (ls' := [(0, .ref 2), (1, .ref 100), (2, .ref 101), (3, .ref 102), (4, .ref 103), (5, .ref 104), (6, .ref 105), (7, .ref 106), (8, .ref 107), (9, .ref 108), (10, .ref 109), (11, .int (nI 6)), (12, .int (nI one)), (13, .int (nI two)), (14, .int (nI q))]) hX dL_isStruck_9 (Nat.le_of_ble_eq_true rfl) rfl ?_
  by_cases g0 : q < zv_ns S
  · skip
    have hwq := ql_hw_lt hI g0
    obtain ⟨q1, q2, q3, q4, q5, q6, q7, q8, q9, q10, q11, q12⟩ := ql_shot hI g0
    refine zz_iload hX dL_isStruck_11 14 rfl ?_
    refine zz_aload hX dL_isStruck_13 10 rfl ?_
    refine zz_iconst (v := nI 2) hX dL_isStruck_15 rfl ?_
    refine zz_iald (x := nI (zv_ns S)) hX (ql_s109 hI) 2 rfl (by decide) (by decide) ((ql_g2 hI)) dL_isStruck_16 ?_
    refine zz_icmp_geN hX (by omega) (by omega) 24 dL_isStruck_17 (by decide) (fun c17 => absurd c17 (by omega)) (fun c17 => ?_)
    refine zz_iconst (v := nI 1) hX dL_isStruck_20 rfl ?_
    refine zz_goto hX 25 dL_isStruck_21 (by decide) ?_
    refine zz_istore (ls' := [(0, .ref 2), (1, .ref 100), (2, .ref 101), (3, .ref 102), (4, .ref 103), (5, .ref 104), (6, .ref 105), (7, .ref 106), (8, .ref 107), (9, .ref 108), (10, .ref 109), (11, .int (nI 6)), (12, .int (nI one)), (13, .int (nI two)), (14, .int (nI q)), (15, .int (nI 1))]) hX dL_isStruck_25 (Nat.le_of_ble_eq_true rfl) rfl ?_
    refine zz_iload hX dL_isStruck_27 15 rfl ?_
    refine zz_if_eq hX 42 dL_isStruck_29 (by decide) (fun c => absurd c (by decide)) (fun _ => ?_)
    refine zz_aload hX dL_isStruck_32 5 rfl ?_
    refine zz_iload hX dL_isStruck_34 14 rfl ?_
    refine zz_sI (x := nI (zv_fr S q)) hX zf_M_L_105 (As := [.ref 104, .int (nI q)]) (st := []) (Q_frames n S sh mi mr hI q (by omega)) rfl rfl (by decide) (Nat.le_of_ble_eq_true rfl) (Nat.le_of_ble_eq_true rfl) (Nat.le_of_ble_eq_true rfl) dL_isStruck_36 ?_
    refine zz_goto hX 43 dL_isStruck_39 (by decide) ?_
    refine zz_istore (ls' := [(0, .ref 2), (1, .ref 100), (2, .ref 101), (3, .ref 102), (4, .ref 103), (5, .ref 104), (6, .ref 105), (7, .ref 106), (8, .ref 107), (9, .ref 108), (10, .ref 109), (11, .int (nI 6)), (12, .int (nI one)), (13, .int (nI two)), (14, .int (nI q)), (15, .int (nI 1)), (16, .int (nI (zv_fr S q)))]) hX dL_isStruck_43 (Nat.le_of_ble_eq_true rfl) rfl ?_
    refine zz_iload hX dL_isStruck_45 15 rfl ?_
    refine zz_if_eq hX 60 dL_isStruck_47 (by decide) (fun c => absurd c (by decide)) (fun _ => ?_)
    refine zz_aload hX dL_isStruck_50 5 rfl ?_
    refine zz_iload hX dL_isStruck_52 14 rfl ?_
    refine zz_sI (x := nI (zv_sk S q)) hX zf_M_L_101 (As := [.ref 104, .int (nI q)]) (st := []) (Q_struck n S sh mi mr hI q (by omega)) rfl rfl (by decide) (Nat.le_of_ble_eq_true rfl) (Nat.le_of_ble_eq_true rfl) (Nat.le_of_ble_eq_true rfl) dL_isStruck_54 ?_
    refine zz_goto hX 61 dL_isStruck_57 (by decide) ?_
    refine zz_istore (ls' := [(0, .ref 2), (1, .ref 100), (2, .ref 101), (3, .ref 102), (4, .ref 103), (5, .ref 104), (6, .ref 105), (7, .ref 106), (8, .ref 107), (9, .ref 108), (10, .ref 109), (11, .int (nI 6)), (12, .int (nI one)), (13, .int (nI two)), (14, .int (nI q)), (15, .int (nI 1)), (16, .int (nI (zv_fr S q))), (17, .int (nI (zv_sk S q)))]) hX dL_isStruck_61 (Nat.le_of_ble_eq_true rfl) rfl ?_
    have K96 : ∀ f : Nat, f ≤ zv_fr S q → zz Γ (D, E, 24, ad, sh) (zz_End Γ (D, E, 24, ad, sh) (ql_T n) zz_none 10 60) 0 0 sh mi mr 96 [(0, .ref 2), (1, .ref 100), (2, .ref 101), (3, .ref 102), (4, .ref 103), (5, .ref 104), (6, .ref 105), (7, .ref 106), (8, .ref 107), (9, .ref 108), (10, .ref 109), (11, .int (nI 6)), (12, .int (nI one)), (13, .int (nI two)), (14, .int (nI q)), (15, .int (nI 1)), (16, .int (nI (zv_fr S q))), (17, .int (nI (zv_sk S q)))] [.int (nI f)] := by
      intro f hf
      have z_f : zn (nI f) = f := nI_clamp (n := f) (by omega)
      refine zz_istore (ls' := [(0, .ref 2), (1, .ref 100), (2, .ref 101), (3, .ref 102), (4, .ref 103), (5, .ref 104), (6, .ref 105), (7, .ref 106), (8, .ref 107), (9, .ref 108), (10, .ref 109), (11, .int (nI 6)), (12, .int (nI one)), (13, .int (nI two)), (14, .int (nI q)), (15, .int (nI 1)), (16, .int (nI (zv_fr S q))), (17, .int (nI (zv_sk S q))), (18, .int (nI f))]) hX dL_isStruck_96 (Nat.le_of_ble_eq_true rfl) rfl ?_
      refine zz_iload hX dL_isStruck_98 11 rfl ?_
      refine zz_if_ne hX 362 dL_isStruck_100 (by decide) (fun _ => ?_) (fun c => absurd c (by decide))
      refine zz_iload hX dL_isStruck_362 11 rfl ?_
      refine zz_iconst (v := nI 1) hX dL_isStruck_364 rfl ?_
      refine zz_icmp_ne hX 573 dL_isStruck_365 (by decide) (fun _ => ?_) (fun c => absurd c (by decide))
      refine zz_iload hX dL_isStruck_573 11 rfl ?_
      refine zz_iconst (v := nI 2) hX dL_isStruck_575 rfl ?_
      refine zz_icmp_ne hX 644 dL_isStruck_576 (by decide) (fun _ => ?_) (fun c => absurd c (by decide))
      refine zz_iload hX dL_isStruck_644 11 rfl ?_
      refine zz_iconst (v := nI 3) hX dL_isStruck_646 rfl ?_
      refine zz_icmp_ne hX 751 dL_isStruck_647 (by decide) (fun _ => ?_) (fun c => absurd c (by decide))
      refine zz_iload hX dL_isStruck_751 11 rfl ?_
      refine zz_iconst (v := nI 4) hX dL_isStruck_753 rfl ?_
      refine zz_icmp_ne hX 916 dL_isStruck_754 (by decide) (fun _ => ?_) (fun c => absurd c (by decide))
      refine zz_iload hX dL_isStruck_916 11 rfl ?_
      refine zz_iconst (v := nI 5) hX dL_isStruck_918 rfl ?_
      refine zz_icmp_ne hX 992 dL_isStruck_919 (by decide) (fun _ => ?_) (fun c => absurd c (by decide))
      refine zz_iload hX dL_isStruck_992 11 rfl ?_
      refine zz_bipush (v := nI 6) hX dL_isStruck_994 rfl ?_
      refine zz_icmp_ne hX 1128 dL_isStruck_996 (by decide) (fun c => absurd c (by decide)) (fun _ => ?_)
      by_cases u0 : f < zv_fr S q
      · skip
        by_cases u1 : f < zv_sk S q ∧ zp_cut S (nI q) = -1
        · skip
          refine zz_iload hX dL_isStruck_999 15 rfl ?_
          refine zz_if_eq hX 1015 dL_isStruck_1001 (by decide) (fun c => absurd c (by decide)) (fun _ => ?_)
          refine zz_iload hX dL_isStruck_1004 18 rfl ?_
          refine zz_iload hX dL_isStruck_1006 16 rfl ?_
          refine zz_icmp_geN hX (by omega) (by omega) 1015 dL_isStruck_1008 (by decide) (fun c1008 => absurd c1008 (by omega)) (fun c1008 => ?_)
          refine zz_iconst (v := nI 1) hX dL_isStruck_1011 rfl ?_
          refine zz_goto hX 1016 dL_isStruck_1012 (by decide) ?_
          refine zz_istore (ls' := [(0, .ref 2), (1, .ref 100), (2, .ref 101), (3, .ref 102), (4, .ref 103), (5, .ref 104), (6, .ref 105), (7, .ref 106), (8, .ref 107), (9, .ref 108), (10, .ref 109), (11, .int (nI 6)), (12, .int (nI one)), (13, .int (nI two)), (14, .int (nI q)), (15, .int (nI 1)), (16, .int (nI (zv_fr S q))), (17, .int (nI (zv_sk S q))), (18, .int (nI f)), (19, .int (nI 1))]) hX dL_isStruck_1016 (Nat.le_of_ble_eq_true rfl) rfl ?_
          refine zz_iload hX dL_isStruck_1018 19 rfl ?_
          refine zz_if_eq hX 1044 dL_isStruck_1020 (by decide) (fun c => absurd c (by decide)) (fun _ => ?_)
          refine zz_iload hX dL_isStruck_1023 18 rfl ?_
          refine zz_iload hX dL_isStruck_1025 17 rfl ?_
          refine zz_icmp_geN hX (by omega) (by omega) 1044 dL_isStruck_1027 (by decide) (fun c1027 => absurd c1027 (by omega)) (fun c1027 => ?_)
          refine zz_aload hX dL_isStruck_1030 10 rfl ?_
          refine zz_iload hX dL_isStruck_1032 14 rfl ?_
          refine zz_sI (x := zp_cut S (nI q)) hX zf_M_L_172 (As := [.ref 109, .int (nI q)]) (st := []) (Q_inFilm n S sh mi mr hI q (by omega)) rfl rfl (by decide) (Nat.le_of_ble_eq_true rfl) (Nat.le_of_ble_eq_true rfl) (Nat.le_of_ble_eq_true rfl) dL_isStruck_1034 ?_
          refine zz_if_ge hX 1044 dL_isStruck_1037 (by decide) (fun c1037 => absurd c1037 (by rw [u1.2]; decide)) (fun c1037 => ?_)
          refine zz_iconst (v := nI 1) hX dL_isStruck_1040 rfl ?_
          refine zz_goto hX 1045 dL_isStruck_1041 (by decide) ?_
          refine zz_istore (ls' := [(0, .ref 2), (1, .ref 100), (2, .ref 101), (3, .ref 102), (4, .ref 103), (5, .ref 104), (6, .ref 105), (7, .ref 106), (8, .ref 107), (9, .ref 108), (10, .ref 109), (11, .int (nI 6)), (12, .int (nI one)), (13, .int (nI two)), (14, .int (nI q)), (15, .int (nI 1)), (16, .int (nI (zv_fr S q))), (17, .int (nI (zv_sk S q))), (18, .int (nI f)), (19, .int (nI 1)), (20, .int (nI 1))]) hX dL_isStruck_1045 (Nat.le_of_ble_eq_true rfl) rfl ?_
          refine zz_aload hX dL_isStruck_1047 5 rfl ?_
          refine zz_iload hX dL_isStruck_1049 20 rfl ?_
          refine zz_if_eq hX 1059 dL_isStruck_1051 (by decide) (fun c => absurd c (by decide)) (fun _ => ?_)
          refine zz_iload hX dL_isStruck_1054 14 rfl ?_
          refine zz_goto hX 1060 dL_isStruck_1056 (by decide) ?_
          refine zz_dup2 hX dL_isStruck_1060 rfl rfl ?_
          refine zz_iald (x := nI (ql_hw S q)) hX (ql_s104 hI) q rfl (by omega) (by decide) ((ql_rd_h hI (by omega))) dL_isStruck_1061 ?_
          refine zz_iload hX dL_isStruck_1062 20 rfl ?_
          refine zz_if_eq hX 1079 dL_isStruck_1064 (by decide) (fun c => absurd c (by decide)) (fun _ => ?_)
          refine zz_sipush (v := nI 8192) hX dL_isStruck_1067 rfl ?_
          refine zz_iload hX dL_isStruck_1070 17 rfl ?_
          refine zz_iload hX dL_isStruck_1072 18 rfl ?_
          refine zz_isub (z := nI (zv_sk S q - f)) hX dL_isStruck_1074 (pk_sub (by omega)) ?_
          refine zz_imul (z := nI (8192 * (zv_sk S q - f))) hX dL_isStruck_1075 (pk_mul _ _) ?_
          refine zz_goto hX 1080 dL_isStruck_1076 (by decide) ?_
          refine zz_isub (z := nI (ql_hw S q - 8192 * (zv_sk S q - f))) hX dL_isStruck_1080 (pk_sub (ql_hw_anew u1.1 (by omega)).2) ?_
          refine zz_iast hX (ql_s104 hI) q rfl (by omega) (by decide) dL_isStruck_1081 ?_
          refine zz_aload_n hX dL_isStruck_1082 0 rfl rfl ?_
          refine zz_bipush (v := nI 14) hX dL_isStruck_1083 rfl ?_
          refine zz_iload hX dL_isStruck_1085 14 rfl ?_
          refine zz_iload hX dL_isStruck_1087 18 rfl ?_
          refine zz_iconst (v := nI 0) hX dL_isStruck_1089 rfl ?_
          refine zz_iconst (v := nI 0) hX dL_isStruck_1090 rfl ?_
          have hA9 : zs_ix (nI q) (zv_ns S) ∧ zs_ix (nI f) (zv_fr S (zn (nI q))) := by rw [z_q]; exact ⟨zs_ix_nI g0 (by omega), zs_ix_nI u0 (by omega)⟩
          have hC9 : (nI f < nI (zv_sk S (zn (nI q)))) ∧ (zp_cut S (nI q) = -1) := by rw [z_q, nI_ltI (by omega) (by omega)]; exact u1
          refine zz_callSH hX zf_M_L_161 (As := [.ref 2, .int (nI 14), .int (nI q), .int (nI f), .int (nI 0), .int (nI 0)]) (st := []) (D_anew S sh (zm_u2 mi 104 q (nI (ql_hw S q - 8192 * (zv_sk S q - f)))) mr (ql_W hI) (ql_R_f (ql_W hI) hR (M := (zm_u2 mi 104 q (nI (ql_hw S q - 8192 * (zv_sk S q - f))))) (fun l hl => zm_u2r (by omega))) (nI q) (nI f) (nI 0) (nI 0)) rfl rfl (by decide) (Nat.le_of_ble_eq_true rfl) (Nat.le_of_ble_eq_true rfl) (Nat.le_of_ble_eq_true rfl) dL_isStruck_1091 ?_ (fun _ _ _ _ h _ => h.elim)
          rintro v9 s9 i9 m9 ⟨k9, rfl, hk9, hS9⟩ -
          obtain ⟨e9, hR9⟩ := zq_d1 hk9 hA9 trivial hC9
          simp only [z_q, z_f] at e9 hR9
          obtain rfl := e9.symm
          refine zz_iload hX dL_isStruck_1094 19 rfl ?_
          refine zz_if_ne hX 1104 dL_isStruck_1096 (by decide) (fun _ => ?_) (fun c => absurd c (by decide))
          refine zz_iload hX dL_isStruck_1104 20 rfl ?_
          refine zz_if_eq hX 1117 dL_isStruck_1106 (by decide) (fun c => absurd c (by decide)) (fun _ => ?_)
          refine zz_iload hX dL_isStruck_1109 17 rfl ?_
          refine zz_iload hX dL_isStruck_1111 18 rfl ?_
          refine zz_isub (z := nI (zv_sk S q - f)) hX dL_isStruck_1113 (pk_sub (by omega)) ?_
          refine zz_goto hX 1119 dL_isStruck_1114 (by decide) ?_
          refine zz_icmp_neN hX (by omega) (by omega) 1126 dL_isStruck_1119 (by decide) (fun c1119 => absurd c1119 (by omega)) (fun c1119 => ?_)
          refine zz_iconst (v := nI 1) hX dL_isStruck_1122 rfl ?_
          refine zz_goto hX 1127 dL_isStruck_1123 (by decide) ?_
          refine zz_iret hX hr rfl (Nat.le_of_ble_eq_true rfl) (Nat.le_of_ble_eq_true rfl) dL_isStruck_1127 ?_
          exact ⟨rfl, ⟨_, ql_J_end hn (by have z := U_anew (ql_W hI) (nI q) (nI f) hA9 trivial hC9; simp only [z_q, z_f] at z; exact z) (ql_B_anew (ql_BB hI) u1.1 (by omega)) (ql_N_anew hI.2.2.2 u1.1 (by omega) (ql_hw_anew u1.1 (by omega)).1) hR9 hS9⟩, ql_10 h10 hS9⟩
        · skip
          refine zz_iload hX dL_isStruck_999 15 rfl ?_
          refine zz_if_eq hX 1015 dL_isStruck_1001 (by decide) (fun c => absurd c (by decide)) (fun _ => ?_)
          refine zz_iload hX dL_isStruck_1004 18 rfl ?_
          refine zz_iload hX dL_isStruck_1006 16 rfl ?_
          refine zz_icmp_geN hX (by omega) (by omega) 1015 dL_isStruck_1008 (by decide) (fun c1008 => absurd c1008 (by omega)) (fun c1008 => ?_)
          refine zz_iconst (v := nI 1) hX dL_isStruck_1011 rfl ?_
          refine zz_goto hX 1016 dL_isStruck_1012 (by decide) ?_
          refine zz_istore (ls' := [(0, .ref 2), (1, .ref 100), (2, .ref 101), (3, .ref 102), (4, .ref 103), (5, .ref 104), (6, .ref 105), (7, .ref 106), (8, .ref 107), (9, .ref 108), (10, .ref 109), (11, .int (nI 6)), (12, .int (nI one)), (13, .int (nI two)), (14, .int (nI q)), (15, .int (nI 1)), (16, .int (nI (zv_fr S q))), (17, .int (nI (zv_sk S q))), (18, .int (nI f)), (19, .int (nI 1))]) hX dL_isStruck_1016 (Nat.le_of_ble_eq_true rfl) rfl ?_
          refine zz_iload hX dL_isStruck_1018 19 rfl ?_
          refine zz_if_eq hX 1044 dL_isStruck_1020 (by decide) (fun c => absurd c (by decide)) (fun _ => ?_)
          have K1045 : zz Γ (D, E, 24, ad, sh) (zz_End Γ (D, E, 24, ad, sh) (ql_T n) zz_none 10 60) 0 0 sh mi mr 1045 [(0, .ref 2), (1, .ref 100), (2, .ref 101), (3, .ref 102), (4, .ref 103), (5, .ref 104), (6, .ref 105), (7, .ref 106), (8, .ref 107), (9, .ref 108), (10, .ref 109), (11, .int (nI 6)), (12, .int (nI one)), (13, .int (nI two)), (14, .int (nI q)), (15, .int (nI 1)), (16, .int (nI (zv_fr S q))), (17, .int (nI (zv_sk S q))), (18, .int (nI f)), (19, .int (nI 1))] [.int (nI 0)] := by
            refine zz_istore (ls' := [(0, .ref 2), (1, .ref 100), (2, .ref 101), (3, .ref 102), (4, .ref 103), (5, .ref 104), (6, .ref 105), (7, .ref 106), (8, .ref 107), (9, .ref 108), (10, .ref 109), (11, .int (nI 6)), (12, .int (nI one)), (13, .int (nI two)), (14, .int (nI q)), (15, .int (nI 1)), (16, .int (nI (zv_fr S q))), (17, .int (nI (zv_sk S q))), (18, .int (nI f)), (19, .int (nI 1)), (20, .int (nI 0))]) hX dL_isStruck_1045 (Nat.le_of_ble_eq_true rfl) rfl ?_
            refine zz_aload hX dL_isStruck_1047 5 rfl ?_
            refine zz_iload hX dL_isStruck_1049 20 rfl ?_
            refine zz_if_eq hX 1059 dL_isStruck_1051 (by decide) (fun _ => ?_) (fun c => absurd c (by decide))
            refine zz_iconst (v := nI 3) hX dL_isStruck_1059 rfl ?_
            refine zz_dup2 hX dL_isStruck_1060 rfl rfl ?_
            refine zz_iald (x := mi 104 3) hX (ql_s104 hI) 3 rfl (by decide) (by decide) rfl dL_isStruck_1061 ?_
            refine zz_iload hX dL_isStruck_1062 20 rfl ?_
            refine zz_if_eq hX 1079 dL_isStruck_1064 (by decide) (fun _ => ?_) (fun c => absurd c (by decide))
            refine zz_iconst (v := nI 0) hX dL_isStruck_1079 rfl ?_
            refine zz_isub (z := (mi 104 3) - (nI 0)) hX dL_isStruck_1080 rfl ?_
            refine zz_iast hX (ql_s104 hI) 3 rfl (by decide) (by decide) dL_isStruck_1081 ?_
            refine zz_aload_n hX dL_isStruck_1082 0 rfl rfl ?_
            refine zz_bipush (v := nI 14) hX dL_isStruck_1083 rfl ?_
            refine zz_iload hX dL_isStruck_1085 14 rfl ?_
            refine zz_iload hX dL_isStruck_1087 18 rfl ?_
            refine zz_iconst (v := nI 0) hX dL_isStruck_1089 rfl ?_
            refine zz_iconst (v := nI 0) hX dL_isStruck_1090 rfl ?_
            have hA9 : zs_ix (nI q) (zv_ns S) ∧ zs_ix (nI f) (zv_fr S (zn (nI q))) := by rw [z_q]; exact ⟨zs_ix_nI g0 (by omega), zs_ix_nI u0 (by omega)⟩
            refine zz_callSH hX zf_M_L_161 (As := [.ref 2, .int (nI 14), .int (nI q), .int (nI f), .int (nI 0), .int (nI 0)]) (st := []) (D_anew S sh (zm_u2 mi 104 3 ((mi 104 3) - (nI 0))) mr (ql_W hI) (ql_R_f (ql_W hI) hR (M := (zm_u2 mi 104 3 ((mi 104 3) - (nI 0)))) (fun l hl => zm_u2r (by omega))) (nI q) (nI f) (nI 0) (nI 0)) rfl rfl (by decide) (Nat.le_of_ble_eq_true rfl) (Nat.le_of_ble_eq_true rfl) (Nat.le_of_ble_eq_true rfl) dL_isStruck_1091 ?_ (fun _ _ _ _ h _ => h.elim)
            rintro v9 s9 i9 m9 ⟨k9, rfl, hk9, hS9⟩ -
            obtain ⟨e9, hR9⟩ := zq_d4 hk9 hA9 trivial (fun h => by rw [z_q, nI_ltI (by omega) (by omega)] at h; exact u1 h)
            obtain rfl := e9.symm
            refine zz_iload hX dL_isStruck_1094 19 rfl ?_
            refine zz_if_ne hX 1104 dL_isStruck_1096 (by decide) (fun _ => ?_) (fun c => absurd c (by decide))
            refine zz_iload hX dL_isStruck_1104 20 rfl ?_
            refine zz_if_eq hX 1117 dL_isStruck_1106 (by decide) (fun _ => ?_) (fun c => absurd c (by decide))
            refine zz_ldc (v := -1000000) hX zw_con_L_90 dL_isStruck_1117 ?_
            refine zz_icmp_ne hX 1126 dL_isStruck_1119 (by decide) (fun c => absurd c (by decide)) (fun _ => ?_)
            refine zz_iconst (v := nI 1) hX dL_isStruck_1122 rfl ?_
            refine zz_goto hX 1127 dL_isStruck_1123 (by decide) ?_
            refine zz_iret hX hr rfl (Nat.le_of_ble_eq_true rfl) (Nat.le_of_ble_eq_true rfl) dL_isStruck_1127 ?_
            exact ⟨rfl, ⟨_, ql_J_end hn (ql_W hI) (ql_B_mono (ql_BB hI) (by omega)) (ql_N_g hI.2.2.2 n3 hsm.1 (by unfold ql_gar; omega)) hR9 hS9⟩, ql_10 h10 hS9⟩
          refine zz_iload hX dL_isStruck_1023 18 rfl ?_
          refine zz_iload hX dL_isStruck_1025 17 rfl ?_
          refine zz_icmp_geN hX (by omega) (by omega) 1044 dL_isStruck_1027 (by decide) (fun c1027 => ?_) (fun c1027 => ?_)
          · skip
            refine zz_iconst (v := nI 0) hX dL_isStruck_1044 rfl ?_
            exact zz_top (rfl) K1045
          · skip
            refine zz_aload hX dL_isStruck_1030 10 rfl ?_
            refine zz_iload hX dL_isStruck_1032 14 rfl ?_
            refine zz_sI (x := zp_cut S (nI q)) hX zf_M_L_172 (As := [.ref 109, .int (nI q)]) (st := []) (Q_inFilm n S sh mi mr hI q (by omega)) rfl rfl (by decide) (Nat.le_of_ble_eq_true rfl) (Nat.le_of_ble_eq_true rfl) (Nat.le_of_ble_eq_true rfl) dL_isStruck_1034 ?_
            refine zz_if_ge hX 1044 dL_isStruck_1037 (by decide) (fun c1037 => ?_) (fun c1037 => absurd (zp_cut_0 n4 (fun z => u1 ⟨by omega, z⟩)) c1037)
            refine zz_iconst (v := nI 0) hX dL_isStruck_1044 rfl ?_
            exact zz_top (rfl) K1045
      · skip
        refine zz_iload hX dL_isStruck_999 15 rfl ?_
        refine zz_if_eq hX 1015 dL_isStruck_1001 (by decide) (fun c => absurd c (by decide)) (fun _ => ?_)
        refine zz_iload hX dL_isStruck_1004 18 rfl ?_
        refine zz_iload hX dL_isStruck_1006 16 rfl ?_
        refine zz_icmp_geN hX (by omega) (by omega) 1015 dL_isStruck_1008 (by decide) (fun c1008 => ?_) (fun c1008 => absurd c1008 (by omega))
        refine zz_iconst (v := nI 0) hX dL_isStruck_1015 rfl ?_
        refine zz_istore (ls' := [(0, .ref 2), (1, .ref 100), (2, .ref 101), (3, .ref 102), (4, .ref 103), (5, .ref 104), (6, .ref 105), (7, .ref 106), (8, .ref 107), (9, .ref 108), (10, .ref 109), (11, .int (nI 6)), (12, .int (nI one)), (13, .int (nI two)), (14, .int (nI q)), (15, .int (nI 1)), (16, .int (nI (zv_fr S q))), (17, .int (nI (zv_sk S q))), (18, .int (nI f)), (19, .int (nI 0))]) hX dL_isStruck_1016 (Nat.le_of_ble_eq_true rfl) rfl ?_
        refine zz_iload hX dL_isStruck_1018 19 rfl ?_
        refine zz_if_eq hX 1044 dL_isStruck_1020 (by decide) (fun _ => ?_) (fun c => absurd c (by decide))
        refine zz_iconst (v := nI 0) hX dL_isStruck_1044 rfl ?_
        refine zz_istore (ls' := [(0, .ref 2), (1, .ref 100), (2, .ref 101), (3, .ref 102), (4, .ref 103), (5, .ref 104), (6, .ref 105), (7, .ref 106), (8, .ref 107), (9, .ref 108), (10, .ref 109), (11, .int (nI 6)), (12, .int (nI one)), (13, .int (nI two)), (14, .int (nI q)), (15, .int (nI 1)), (16, .int (nI (zv_fr S q))), (17, .int (nI (zv_sk S q))), (18, .int (nI f)), (19, .int (nI 0)), (20, .int (nI 0))]) hX dL_isStruck_1045 (Nat.le_of_ble_eq_true rfl) rfl ?_
        refine zz_aload hX dL_isStruck_1047 5 rfl ?_
        refine zz_iload hX dL_isStruck_1049 20 rfl ?_
        refine zz_if_eq hX 1059 dL_isStruck_1051 (by decide) (fun _ => ?_) (fun c => absurd c (by decide))
        refine zz_iconst (v := nI 3) hX dL_isStruck_1059 rfl ?_
        refine zz_dup2 hX dL_isStruck_1060 rfl rfl ?_
        refine zz_iald (x := mi 104 3) hX (ql_s104 hI) 3 rfl (by decide) (by decide) rfl dL_isStruck_1061 ?_
        refine zz_iload hX dL_isStruck_1062 20 rfl ?_
        refine zz_if_eq hX 1079 dL_isStruck_1064 (by decide) (fun _ => ?_) (fun c => absurd c (by decide))
        refine zz_iconst (v := nI 0) hX dL_isStruck_1079 rfl ?_
        refine zz_isub (z := (mi 104 3) - (nI 0)) hX dL_isStruck_1080 rfl ?_
        refine zz_iast hX (ql_s104 hI) 3 rfl (by decide) (by decide) dL_isStruck_1081 ?_
        refine zz_aload_n hX dL_isStruck_1082 0 rfl rfl ?_
        refine zz_bipush (v := nI 14) hX dL_isStruck_1083 rfl ?_
        refine zz_iload hX dL_isStruck_1085 14 rfl ?_
        refine zz_iload hX dL_isStruck_1087 18 rfl ?_
        refine zz_iconst (v := nI 0) hX dL_isStruck_1089 rfl ?_
        refine zz_iconst (v := nI 0) hX dL_isStruck_1090 rfl ?_
        refine zz_callSH hX zf_M_L_161 (As := [.ref 2, .int (nI 14), .int (nI q), .int (nI f), .int (nI 0), .int (nI 0)]) (st := []) (D_anew S sh (zm_u2 mi 104 3 ((mi 104 3) - (nI 0))) mr (ql_W hI) (ql_R_f (ql_W hI) hR (M := (zm_u2 mi 104 3 ((mi 104 3) - (nI 0)))) (fun l hl => zm_u2r (by omega))) (nI q) (nI f) (nI 0) (nI 0)) rfl rfl (by decide) (Nat.le_of_ble_eq_true rfl) (Nat.le_of_ble_eq_true rfl) (Nat.le_of_ble_eq_true rfl) dL_isStruck_1091 ?_ (fun _ _ _ _ h _ => h.elim)
        rintro v9 s9 i9 m9 ⟨k9, rfl, hk9, hS9⟩ -
        obtain ⟨e9, hR9⟩ := zq_d2 hk9 (fun h => by rw [z_q] at h; exact u0 (zs_ixl h.2 (by omega)))
        obtain rfl := e9.symm
        refine zz_iload hX dL_isStruck_1094 19 rfl ?_
        refine zz_if_ne hX 1104 dL_isStruck_1096 (by decide) (fun c => absurd c (by decide)) (fun _ => ?_)
        refine zz_ldc (v := -3000000) hX zw_con_L_84 dL_isStruck_1099 ?_
        refine zz_goto hX 1119 dL_isStruck_1101 (by decide) ?_
        refine zz_icmp_ne hX 1126 dL_isStruck_1119 (by decide) (fun c => absurd c (by decide)) (fun _ => ?_)
        refine zz_iconst (v := nI 1) hX dL_isStruck_1122 rfl ?_
        refine zz_goto hX 1127 dL_isStruck_1123 (by decide) ?_
        refine zz_iret hX hr rfl (Nat.le_of_ble_eq_true rfl) (Nat.le_of_ble_eq_true rfl) dL_isStruck_1127 ?_
        exact ⟨rfl, ⟨_, ql_J_end hn (ql_W hI) (ql_B_mono (ql_BB hI) (by omega)) (ql_N_g hI.2.2.2 n3 hsm.1 (by unfold ql_gar; omega)) hR9 hS9⟩, ql_10 h10 hS9⟩
    refine zz_iload hX dL_isStruck_63 12 rfl ?_
    refine zz_iconst (v := nI 4) hX dL_isStruck_65 rfl ?_
    refine zz_idiv (z := nI (one / 4)) hX dL_isStruck_66 (by decide) (pk_div (by omega) (by decide) (by decide)) ?_
    refine zz_bipush (v := nI 9) hX dL_isStruck_67 rfl ?_
    refine zz_irem (z := nI ((one / 4) % 9)) hX dL_isStruck_69 (by decide) (pk_rem (by omega) (by decide) (by decide)) ?_
    refine zz_bipush (v := nI 8) hX dL_isStruck_70 rfl ?_
    refine zz_icmp_neN hX (by omega) (by decide) 80 dL_isStruck_72 (by decide) (fun c72 => ?_) (fun c72 => ?_)
    · skip
      refine zz_iload hX dL_isStruck_80 16 rfl ?_
      refine zz_if_neN hX (by omega) 89 dL_isStruck_82 (by decide) (fun c82 => ?_) (fun c82 => absurd c82 (by omega))
      refine zz_iload hX dL_isStruck_89 12 rfl ?_
      refine zz_iconst (v := nI 4) hX dL_isStruck_91 rfl ?_
      refine zz_idiv (z := nI (one / 4)) hX dL_isStruck_92 (by decide) (pk_div (by omega) (by decide) (by decide)) ?_
      refine zz_iload hX dL_isStruck_93 16 rfl ?_
      refine zz_irem (z := nI ((one / 4) % (zv_fr S q))) hX dL_isStruck_95 (nI_ne0 (by omega) (by omega)) (pk_rem (by omega) (by omega) (by omega)) ?_
      exact K96 ((one / 4) % (zv_fr S q)) (by first | omega | exact Nat.le_of_lt (Nat.mod_lt _ (by omega)))
    · skip
      refine zz_iload hX dL_isStruck_75 16 rfl ?_
      refine zz_goto hX 96 dL_isStruck_77 (by decide) ?_
      exact K96 (zv_fr S q) (by first | omega | exact Nat.le_of_lt (Nat.mod_lt _ (by omega)))
  · skip
    refine zz_iload hX dL_isStruck_11 14 rfl ?_
    refine zz_aload hX dL_isStruck_13 10 rfl ?_
    refine zz_iconst (v := nI 2) hX dL_isStruck_15 rfl ?_
    refine zz_iald (x := nI (zv_ns S)) hX (ql_s109 hI) 2 rfl (by decide) (by decide) ((ql_g2 hI)) dL_isStruck_16 ?_
    refine zz_icmp_geN hX (by omega) (by omega) 24 dL_isStruck_17 (by decide) (fun c17 => ?_) (fun c17 => absurd c17 (by omega))
    refine zz_iconst (v := nI 0) hX dL_isStruck_24 rfl ?_
    refine zz_istore (ls' := [(0, .ref 2), (1, .ref 100), (2, .ref 101), (3, .ref 102), (4, .ref 103), (5, .ref 104), (6, .ref 105), (7, .ref 106), (8, .ref 107), (9, .ref 108), (10, .ref 109), (11, .int (nI 6)), (12, .int (nI one)), (13, .int (nI two)), (14, .int (nI q)), (15, .int (nI 0))]) hX dL_isStruck_25 (Nat.le_of_ble_eq_true rfl) rfl ?_
    refine zz_iload hX dL_isStruck_27 15 rfl ?_
    refine zz_if_eq hX 42 dL_isStruck_29 (by decide) (fun _ => ?_) (fun c => absurd c (by decide))
    refine zz_iconst (v := nI 0) hX dL_isStruck_42 rfl ?_
    refine zz_istore (ls' := [(0, .ref 2), (1, .ref 100), (2, .ref 101), (3, .ref 102), (4, .ref 103), (5, .ref 104), (6, .ref 105), (7, .ref 106), (8, .ref 107), (9, .ref 108), (10, .ref 109), (11, .int (nI 6)), (12, .int (nI one)), (13, .int (nI two)), (14, .int (nI q)), (15, .int (nI 0)), (16, .int (nI 0))]) hX dL_isStruck_43 (Nat.le_of_ble_eq_true rfl) rfl ?_
    refine zz_iload hX dL_isStruck_45 15 rfl ?_
    refine zz_if_eq hX 60 dL_isStruck_47 (by decide) (fun _ => ?_) (fun c => absurd c (by decide))
    refine zz_iconst (v := nI 0) hX dL_isStruck_60 rfl ?_
    refine zz_istore (ls' := [(0, .ref 2), (1, .ref 100), (2, .ref 101), (3, .ref 102), (4, .ref 103), (5, .ref 104), (6, .ref 105), (7, .ref 106), (8, .ref 107), (9, .ref 108), (10, .ref 109), (11, .int (nI 6)), (12, .int (nI one)), (13, .int (nI two)), (14, .int (nI q)), (15, .int (nI 0)), (16, .int (nI 0)), (17, .int (nI 0))]) hX dL_isStruck_61 (Nat.le_of_ble_eq_true rfl) rfl ?_
    have K96 : zz Γ (D, E, 24, ad, sh) (zz_End Γ (D, E, 24, ad, sh) (ql_T n) zz_none 10 60) 0 0 sh mi mr 96 [(0, .ref 2), (1, .ref 100), (2, .ref 101), (3, .ref 102), (4, .ref 103), (5, .ref 104), (6, .ref 105), (7, .ref 106), (8, .ref 107), (9, .ref 108), (10, .ref 109), (11, .int (nI 6)), (12, .int (nI one)), (13, .int (nI two)), (14, .int (nI q)), (15, .int (nI 0)), (16, .int (nI 0)), (17, .int (nI 0))] [.int (nI 0)] := by
      refine zz_istore (ls' := [(0, .ref 2), (1, .ref 100), (2, .ref 101), (3, .ref 102), (4, .ref 103), (5, .ref 104), (6, .ref 105), (7, .ref 106), (8, .ref 107), (9, .ref 108), (10, .ref 109), (11, .int (nI 6)), (12, .int (nI one)), (13, .int (nI two)), (14, .int (nI q)), (15, .int (nI 0)), (16, .int (nI 0)), (17, .int (nI 0)), (18, .int (nI 0))]) hX dL_isStruck_96 (Nat.le_of_ble_eq_true rfl) rfl ?_
      refine zz_iload hX dL_isStruck_98 11 rfl ?_
      refine zz_if_ne hX 362 dL_isStruck_100 (by decide) (fun _ => ?_) (fun c => absurd c (by decide))
      refine zz_iload hX dL_isStruck_362 11 rfl ?_
      refine zz_iconst (v := nI 1) hX dL_isStruck_364 rfl ?_
      refine zz_icmp_ne hX 573 dL_isStruck_365 (by decide) (fun _ => ?_) (fun c => absurd c (by decide))
      refine zz_iload hX dL_isStruck_573 11 rfl ?_
      refine zz_iconst (v := nI 2) hX dL_isStruck_575 rfl ?_
      refine zz_icmp_ne hX 644 dL_isStruck_576 (by decide) (fun _ => ?_) (fun c => absurd c (by decide))
      refine zz_iload hX dL_isStruck_644 11 rfl ?_
      refine zz_iconst (v := nI 3) hX dL_isStruck_646 rfl ?_
      refine zz_icmp_ne hX 751 dL_isStruck_647 (by decide) (fun _ => ?_) (fun c => absurd c (by decide))
      refine zz_iload hX dL_isStruck_751 11 rfl ?_
      refine zz_iconst (v := nI 4) hX dL_isStruck_753 rfl ?_
      refine zz_icmp_ne hX 916 dL_isStruck_754 (by decide) (fun _ => ?_) (fun c => absurd c (by decide))
      refine zz_iload hX dL_isStruck_916 11 rfl ?_
      refine zz_iconst (v := nI 5) hX dL_isStruck_918 rfl ?_
      refine zz_icmp_ne hX 992 dL_isStruck_919 (by decide) (fun _ => ?_) (fun c => absurd c (by decide))
      refine zz_iload hX dL_isStruck_992 11 rfl ?_
      refine zz_bipush (v := nI 6) hX dL_isStruck_994 rfl ?_
      refine zz_icmp_ne hX 1128 dL_isStruck_996 (by decide) (fun c => absurd c (by decide)) (fun _ => ?_)
      refine zz_iload hX dL_isStruck_999 15 rfl ?_
      refine zz_if_eq hX 1015 dL_isStruck_1001 (by decide) (fun _ => ?_) (fun c => absurd c (by decide))
      refine zz_iconst (v := nI 0) hX dL_isStruck_1015 rfl ?_
      refine zz_istore (ls' := [(0, .ref 2), (1, .ref 100), (2, .ref 101), (3, .ref 102), (4, .ref 103), (5, .ref 104), (6, .ref 105), (7, .ref 106), (8, .ref 107), (9, .ref 108), (10, .ref 109), (11, .int (nI 6)), (12, .int (nI one)), (13, .int (nI two)), (14, .int (nI q)), (15, .int (nI 0)), (16, .int (nI 0)), (17, .int (nI 0)), (18, .int (nI 0)), (19, .int (nI 0))]) hX dL_isStruck_1016 (Nat.le_of_ble_eq_true rfl) rfl ?_
      refine zz_iload hX dL_isStruck_1018 19 rfl ?_
      refine zz_if_eq hX 1044 dL_isStruck_1020 (by decide) (fun _ => ?_) (fun c => absurd c (by decide))
      refine zz_iconst (v := nI 0) hX dL_isStruck_1044 rfl ?_
      refine zz_istore (ls' := [(0, .ref 2), (1, .ref 100), (2, .ref 101), (3, .ref 102), (4, .ref 103), (5, .ref 104), (6, .ref 105), (7, .ref 106), (8, .ref 107), (9, .ref 108), (10, .ref 109), (11, .int (nI 6)), (12, .int (nI one)), (13, .int (nI two)), (14, .int (nI q)), (15, .int (nI 0)), (16, .int (nI 0)), (17, .int (nI 0)), (18, .int (nI 0)), (19, .int (nI 0)), (20, .int (nI 0))]) hX dL_isStruck_1045 (Nat.le_of_ble_eq_true rfl) rfl ?_
      refine zz_aload hX dL_isStruck_1047 5 rfl ?_
      refine zz_iload hX dL_isStruck_1049 20 rfl ?_
      refine zz_if_eq hX 1059 dL_isStruck_1051 (by decide) (fun _ => ?_) (fun c => absurd c (by decide))
      refine zz_iconst (v := nI 3) hX dL_isStruck_1059 rfl ?_
      refine zz_dup2 hX dL_isStruck_1060 rfl rfl ?_
      refine zz_iald (x := mi 104 3) hX (ql_s104 hI) 3 rfl (by decide) (by decide) rfl dL_isStruck_1061 ?_
      refine zz_iload hX dL_isStruck_1062 20 rfl ?_
      refine zz_if_eq hX 1079 dL_isStruck_1064 (by decide) (fun _ => ?_) (fun c => absurd c (by decide))
      refine zz_iconst (v := nI 0) hX dL_isStruck_1079 rfl ?_
      refine zz_isub (z := (mi 104 3) - (nI 0)) hX dL_isStruck_1080 rfl ?_
      refine zz_iast hX (ql_s104 hI) 3 rfl (by decide) (by decide) dL_isStruck_1081 ?_
      refine zz_aload_n hX dL_isStruck_1082 0 rfl rfl ?_
      refine zz_bipush (v := nI 14) hX dL_isStruck_1083 rfl ?_
      refine zz_iload hX dL_isStruck_1085 14 rfl ?_
      refine zz_iload hX dL_isStruck_1087 18 rfl ?_
      refine zz_iconst (v := nI 0) hX dL_isStruck_1089 rfl ?_
      refine zz_iconst (v := nI 0) hX dL_isStruck_1090 rfl ?_
      refine zz_callSH hX zf_M_L_161 (As := [.ref 2, .int (nI 14), .int (nI q), .int (nI 0), .int (nI 0), .int (nI 0)]) (st := []) (D_anew S sh (zm_u2 mi 104 3 ((mi 104 3) - (nI 0))) mr (ql_W hI) (ql_R_f (ql_W hI) hR (M := (zm_u2 mi 104 3 ((mi 104 3) - (nI 0)))) (fun l hl => zm_u2r (by omega))) (nI q) (nI 0) (nI 0) (nI 0)) rfl rfl (by decide) (Nat.le_of_ble_eq_true rfl) (Nat.le_of_ble_eq_true rfl) (Nat.le_of_ble_eq_true rfl) dL_isStruck_1091 ?_ (fun _ _ _ _ h _ => h.elim)
      rintro v9 s9 i9 m9 ⟨k9, rfl, hk9, hS9⟩ -
      obtain ⟨e9, hR9⟩ := zq_d2 hk9 (fun h => g0 (zs_ixl h.1 (by omega)))
      obtain rfl := e9.symm
      refine zz_iload hX dL_isStruck_1094 19 rfl ?_
      refine zz_if_ne hX 1104 dL_isStruck_1096 (by decide) (fun c => absurd c (by decide)) (fun _ => ?_)
      refine zz_ldc (v := -3000000) hX zw_con_L_84 dL_isStruck_1099 ?_
      refine zz_goto hX 1119 dL_isStruck_1101 (by decide) ?_
      refine zz_icmp_ne hX 1126 dL_isStruck_1119 (by decide) (fun c => absurd c (by decide)) (fun _ => ?_)
      refine zz_iconst (v := nI 1) hX dL_isStruck_1122 rfl ?_
      refine zz_goto hX 1127 dL_isStruck_1123 (by decide) ?_
      refine zz_iret hX hr rfl (Nat.le_of_ble_eq_true rfl) (Nat.le_of_ble_eq_true rfl) dL_isStruck_1127 ?_
      exact ⟨rfl, ⟨_, ql_J_end hn (ql_W hI) (ql_B_mono (ql_BB hI) (by omega)) (ql_N_g hI.2.2.2 n3 hsm.1 (by unfold ql_gar; omega)) hR9 hS9⟩, ql_10 h10 hS9⟩
    refine zz_iload hX dL_isStruck_63 12 rfl ?_
    refine zz_iconst (v := nI 4) hX dL_isStruck_65 rfl ?_
    refine zz_idiv (z := nI (one / 4)) hX dL_isStruck_66 (by decide) (pk_div (by omega) (by decide) (by decide)) ?_
    refine zz_bipush (v := nI 9) hX dL_isStruck_67 rfl ?_
    refine zz_irem (z := nI ((one / 4) % 9)) hX dL_isStruck_69 (by decide) (pk_rem (by omega) (by decide) (by decide)) ?_
    refine zz_bipush (v := nI 8) hX dL_isStruck_70 rfl ?_
    refine zz_icmp_neN hX (by omega) (by decide) 80 dL_isStruck_72 (by decide) (fun c72 => ?_) (fun c72 => ?_)
    · skip
      refine zz_iload hX dL_isStruck_80 16 rfl ?_
      refine zz_if_ne hX 89 dL_isStruck_82 (by decide) (fun c => absurd c (by decide)) (fun _ => ?_)
      refine zz_iconst (v := nI 0) hX dL_isStruck_85 rfl ?_
      refine zz_goto hX 96 dL_isStruck_86 (by decide) ?_
      exact zz_top (rfl) K96
    · skip
      refine zz_iload hX dL_isStruck_75 16 rfl ?_
      refine zz_goto hX 96 dL_isStruck_77 (by decide) ?_
      exact zz_top (rfl) K96

set_option maxHeartbeats 1000000 in
set_option maxRecDepth 20000 in
theorem S_mend (n : Nat) (hn : n + 1 ≤ 64) (S : zS) (sh : zm_Sh) (mi : zm_Mi) (mr : zm_Mr) (hI : ql_I n S sh mi) (hR : zR S sh mi mr) (h10 : sh 10 = some (9, 0)) (one two : Nat) (ho : one < 60000) (ht : two < 60000)  : zz_Con yL_isStruck (.code yL_isStruck cL_isStruck 24 (some Jvm.ClassFile.FieldType.boolean)) 12 10 60 [.ref 2, .ref 100, .ref 101, .ref 102, .ref 103, .ref 104, .ref 105, .ref 106, .ref 107, .ref 108, .ref 109, .int (nI 7), .int (nI one), .int (nI two)] sh mi mr (ql_T n) zz_none := by
  refine zz_begin RL [(0, .ref 2), (1, .ref 100), (2, .ref 101), (3, .ref 102), (4, .ref 103), (5, .ref 104), (6, .ref 105), (7, .ref 106), (8, .ref 107), (9, .ref 108), (10, .ref 109), (11, .int (nI 7)), (12, .int (nI one)), (13, .int (nI two))] (by decide) rfl rfl (Nat.le_of_ble_eq_true rfl) rfl ?_
  intro Γ D E ad hX hr hN hT
  obtain ⟨n1, n2, n3, n4⟩ := ql_num hI
  have hsm := ql_small hI
  have hj39 := fun (p : Nat) (hp : p < zv_np S) => (ql_BB hI).1.2 p hp
  refine zz_iload hX dL_isStruck_0 12 rfl ?_
  refine zz_aload hX dL_isStruck_2 10 rfl ?_
  refine zz_iconst (v := nI 2) hX dL_isStruck_4 rfl ?_
  refine zz_iald (x := nI (zv_ns S)) hX (ql_s109 hI) 2 rfl (by decide) (by decide) ((ql_g2 hI)) dL_isStruck_5 ?_
  refine zz_iconst (v := nI 1) hX dL_isStruck_6 rfl ?_
  refine zz_iadd (z := nI (zv_ns S + 1)) hX dL_isStruck_7 (nI_add _ _) ?_
  refine zz_irem (z := nI (one % (zv_ns S + 1))) hX dL_isStruck_8 (nI_ne0 (by omega) (by omega)) (pk_rem (by omega) (by omega) (by omega)) ?_
  have hq9 : one % (zv_ns S + 1) < zv_ns S + 1 := Nat.mod_lt _ (by omega)
  generalize one % (zv_ns S + 1) = q at hq9 ⊢
  have z_q : zn (nI q) = q := nI_clamp (n := q) (by omega)
  refine zz_istore (ls' := [(0, .ref 2), (1, .ref 100), (2, .ref 101), (3, .ref 102), (4, .ref 103), (5, .ref 104), (6, .ref 105), (7, .ref 106), (8, .ref 107), (9, .ref 108), (10, .ref 109), (11, .int (nI 7)), (12, .int (nI one)), (13, .int (nI two)), (14, .int (nI q))]) hX dL_isStruck_9 (Nat.le_of_ble_eq_true rfl) rfl ?_
  by_cases g0 : q < zv_ns S
  · skip
    have hwq := ql_hw_lt hI g0
    obtain ⟨q1, q2, q3, q4, q5, q6, q7, q8, q9, q10, q11, q12⟩ := ql_shot hI g0
    refine zz_iload hX dL_isStruck_11 14 rfl ?_
    refine zz_aload hX dL_isStruck_13 10 rfl ?_
    refine zz_iconst (v := nI 2) hX dL_isStruck_15 rfl ?_
    refine zz_iald (x := nI (zv_ns S)) hX (ql_s109 hI) 2 rfl (by decide) (by decide) ((ql_g2 hI)) dL_isStruck_16 ?_
    refine zz_icmp_geN hX (by omega) (by omega) 24 dL_isStruck_17 (by decide) (fun c17 => absurd c17 (by omega)) (fun c17 => ?_)
    refine zz_iconst (v := nI 1) hX dL_isStruck_20 rfl ?_
    refine zz_goto hX 25 dL_isStruck_21 (by decide) ?_
    refine zz_istore (ls' := [(0, .ref 2), (1, .ref 100), (2, .ref 101), (3, .ref 102), (4, .ref 103), (5, .ref 104), (6, .ref 105), (7, .ref 106), (8, .ref 107), (9, .ref 108), (10, .ref 109), (11, .int (nI 7)), (12, .int (nI one)), (13, .int (nI two)), (14, .int (nI q)), (15, .int (nI 1))]) hX dL_isStruck_25 (Nat.le_of_ble_eq_true rfl) rfl ?_
    refine zz_iload hX dL_isStruck_27 15 rfl ?_
    refine zz_if_eq hX 42 dL_isStruck_29 (by decide) (fun c => absurd c (by decide)) (fun _ => ?_)
    refine zz_aload hX dL_isStruck_32 5 rfl ?_
    refine zz_iload hX dL_isStruck_34 14 rfl ?_
    refine zz_sI (x := nI (zv_fr S q)) hX zf_M_L_105 (As := [.ref 104, .int (nI q)]) (st := []) (Q_frames n S sh mi mr hI q (by omega)) rfl rfl (by decide) (Nat.le_of_ble_eq_true rfl) (Nat.le_of_ble_eq_true rfl) (Nat.le_of_ble_eq_true rfl) dL_isStruck_36 ?_
    refine zz_goto hX 43 dL_isStruck_39 (by decide) ?_
    refine zz_istore (ls' := [(0, .ref 2), (1, .ref 100), (2, .ref 101), (3, .ref 102), (4, .ref 103), (5, .ref 104), (6, .ref 105), (7, .ref 106), (8, .ref 107), (9, .ref 108), (10, .ref 109), (11, .int (nI 7)), (12, .int (nI one)), (13, .int (nI two)), (14, .int (nI q)), (15, .int (nI 1)), (16, .int (nI (zv_fr S q)))]) hX dL_isStruck_43 (Nat.le_of_ble_eq_true rfl) rfl ?_
    refine zz_iload hX dL_isStruck_45 15 rfl ?_
    refine zz_if_eq hX 60 dL_isStruck_47 (by decide) (fun c => absurd c (by decide)) (fun _ => ?_)
    refine zz_aload hX dL_isStruck_50 5 rfl ?_
    refine zz_iload hX dL_isStruck_52 14 rfl ?_
    refine zz_sI (x := nI (zv_sk S q)) hX zf_M_L_101 (As := [.ref 104, .int (nI q)]) (st := []) (Q_struck n S sh mi mr hI q (by omega)) rfl rfl (by decide) (Nat.le_of_ble_eq_true rfl) (Nat.le_of_ble_eq_true rfl) (Nat.le_of_ble_eq_true rfl) dL_isStruck_54 ?_
    refine zz_goto hX 61 dL_isStruck_57 (by decide) ?_
    refine zz_istore (ls' := [(0, .ref 2), (1, .ref 100), (2, .ref 101), (3, .ref 102), (4, .ref 103), (5, .ref 104), (6, .ref 105), (7, .ref 106), (8, .ref 107), (9, .ref 108), (10, .ref 109), (11, .int (nI 7)), (12, .int (nI one)), (13, .int (nI two)), (14, .int (nI q)), (15, .int (nI 1)), (16, .int (nI (zv_fr S q))), (17, .int (nI (zv_sk S q)))]) hX dL_isStruck_61 (Nat.le_of_ble_eq_true rfl) rfl ?_
    have K96 : ∀ f : Nat, f ≤ zv_fr S q → zz Γ (D, E, 24, ad, sh) (zz_End Γ (D, E, 24, ad, sh) (ql_T n) zz_none 10 60) 0 0 sh mi mr 96 [(0, .ref 2), (1, .ref 100), (2, .ref 101), (3, .ref 102), (4, .ref 103), (5, .ref 104), (6, .ref 105), (7, .ref 106), (8, .ref 107), (9, .ref 108), (10, .ref 109), (11, .int (nI 7)), (12, .int (nI one)), (13, .int (nI two)), (14, .int (nI q)), (15, .int (nI 1)), (16, .int (nI (zv_fr S q))), (17, .int (nI (zv_sk S q)))] [.int (nI f)] := by
      intro f hf
      have z_f : zn (nI f) = f := nI_clamp (n := f) (by omega)
      refine zz_istore (ls' := [(0, .ref 2), (1, .ref 100), (2, .ref 101), (3, .ref 102), (4, .ref 103), (5, .ref 104), (6, .ref 105), (7, .ref 106), (8, .ref 107), (9, .ref 108), (10, .ref 109), (11, .int (nI 7)), (12, .int (nI one)), (13, .int (nI two)), (14, .int (nI q)), (15, .int (nI 1)), (16, .int (nI (zv_fr S q))), (17, .int (nI (zv_sk S q))), (18, .int (nI f))]) hX dL_isStruck_96 (Nat.le_of_ble_eq_true rfl) rfl ?_
      refine zz_iload hX dL_isStruck_98 11 rfl ?_
      refine zz_if_ne hX 362 dL_isStruck_100 (by decide) (fun _ => ?_) (fun c => absurd c (by decide))
      refine zz_iload hX dL_isStruck_362 11 rfl ?_
      refine zz_iconst (v := nI 1) hX dL_isStruck_364 rfl ?_
      refine zz_icmp_ne hX 573 dL_isStruck_365 (by decide) (fun _ => ?_) (fun c => absurd c (by decide))
      refine zz_iload hX dL_isStruck_573 11 rfl ?_
      refine zz_iconst (v := nI 2) hX dL_isStruck_575 rfl ?_
      refine zz_icmp_ne hX 644 dL_isStruck_576 (by decide) (fun _ => ?_) (fun c => absurd c (by decide))
      refine zz_iload hX dL_isStruck_644 11 rfl ?_
      refine zz_iconst (v := nI 3) hX dL_isStruck_646 rfl ?_
      refine zz_icmp_ne hX 751 dL_isStruck_647 (by decide) (fun _ => ?_) (fun c => absurd c (by decide))
      refine zz_iload hX dL_isStruck_751 11 rfl ?_
      refine zz_iconst (v := nI 4) hX dL_isStruck_753 rfl ?_
      refine zz_icmp_ne hX 916 dL_isStruck_754 (by decide) (fun _ => ?_) (fun c => absurd c (by decide))
      refine zz_iload hX dL_isStruck_916 11 rfl ?_
      refine zz_iconst (v := nI 5) hX dL_isStruck_918 rfl ?_
      refine zz_icmp_ne hX 992 dL_isStruck_919 (by decide) (fun _ => ?_) (fun c => absurd c (by decide))
      refine zz_iload hX dL_isStruck_992 11 rfl ?_
      refine zz_bipush (v := nI 6) hX dL_isStruck_994 rfl ?_
      refine zz_icmp_ne hX 1128 dL_isStruck_996 (by decide) (fun _ => ?_) (fun c => absurd c (by decide))
      refine zz_iload hX dL_isStruck_1128 11 rfl ?_
      refine zz_bipush (v := nI 7) hX dL_isStruck_1130 rfl ?_
      refine zz_icmp_ne hX 1262 dL_isStruck_1132 (by decide) (fun c => absurd c (by decide)) (fun _ => ?_)
      refine zz_iload hX dL_isStruck_1135 12 rfl ?_
      refine zz_aload hX dL_isStruck_1137 10 rfl ?_
      refine zz_iconst (v := nI 0) hX dL_isStruck_1139 rfl ?_
      refine zz_iald (x := nI (zv_np S)) hX (ql_s109 hI) 0 rfl (by decide) (by decide) ((ql_g0 hI)) dL_isStruck_1140 ?_
      refine zz_iconst (v := nI 1) hX dL_isStruck_1141 rfl ?_
      refine zz_iadd (z := nI (zv_np S + 1)) hX dL_isStruck_1142 (nI_add _ _) ?_
      refine zz_irem (z := nI (one % (zv_np S + 1))) hX dL_isStruck_1143 (nI_ne0 (by omega) (by omega)) (pk_rem (by omega) (by omega) (by omega)) ?_
      have ht9 : one % (zv_np S + 1) < zv_np S + 1 := Nat.mod_lt _ (by omega)
      generalize one % (zv_np S + 1) = t at ht9 ⊢
      have z_t : zn (nI t) = t := nI_clamp (n := t) (by omega)
      refine zz_istore (ls' := [(0, .ref 2), (1, .ref 100), (2, .ref 101), (3, .ref 102), (4, .ref 103), (5, .ref 104), (6, .ref 105), (7, .ref 106), (8, .ref 107), (9, .ref 108), (10, .ref 109), (11, .int (nI 7)), (12, .int (nI one)), (13, .int (nI two)), (14, .int (nI q)), (15, .int (nI 1)), (16, .int (nI (zv_fr S q))), (17, .int (nI (zv_sk S q))), (18, .int (nI f)), (19, .int (nI t))]) hX dL_isStruck_1144 (Nat.le_of_ble_eq_true rfl) rfl ?_
      refine zz_iload hX dL_isStruck_1146 13 rfl ?_
      refine zz_iconst (v := nI 4) hX dL_isStruck_1148 rfl ?_
      refine zz_irem (z := nI (two % 4)) hX dL_isStruck_1149 (by decide) (pk_rem (by omega) (by decide) (by decide)) ?_
      have hj9 : two % 4 < 4 := Nat.mod_lt _ (by omega)
      generalize two % 4 = j at hj9 ⊢
      have z_j : zn (nI j) = j := nI_clamp (n := j) (by omega)
      refine zz_istore (ls' := [(0, .ref 2), (1, .ref 100), (2, .ref 101), (3, .ref 102), (4, .ref 103), (5, .ref 104), (6, .ref 105), (7, .ref 106), (8, .ref 107), (9, .ref 108), (10, .ref 109), (11, .int (nI 7)), (12, .int (nI one)), (13, .int (nI two)), (14, .int (nI q)), (15, .int (nI 1)), (16, .int (nI (zv_fr S q))), (17, .int (nI (zv_sk S q))), (18, .int (nI f)), (19, .int (nI t)), (20, .int (nI j))]) hX dL_isStruck_1150 (Nat.le_of_ble_eq_true rfl) rfl ?_
      by_cases u0 : t < zv_np S ∧ j < zv_jn S t
      · skip
        have hj3 := (ql_BB hI).1.2 t u0.1
        refine zz_iload hX dL_isStruck_1152 19 rfl ?_
        refine zz_aload hX dL_isStruck_1154 10 rfl ?_
        refine zz_iconst (v := nI 0) hX dL_isStruck_1156 rfl ?_
        refine zz_iald (x := nI (zv_np S)) hX (ql_s109 hI) 0 rfl (by decide) (by decide) ((ql_g0 hI)) dL_isStruck_1157 ?_
        refine zz_icmp_geN hX (by omega) (by omega) 1174 dL_isStruck_1158 (by decide) (fun c1158 => absurd c1158 (by omega)) (fun c1158 => ?_)
        refine zz_iload hX dL_isStruck_1161 20 rfl ?_
        refine zz_aload_n hX dL_isStruck_1163 1 rfl rfl ?_
        refine zz_iload hX dL_isStruck_1164 19 rfl ?_
        refine zz_iald (x := nI (zv_jn S t)) hX (ql_s100 hI) t rfl (by omega) (by decide) ((ql_g100 hI (by omega))) dL_isStruck_1166 ?_
        refine zz_icmp_geN hX (by omega) (by omega) 1174 dL_isStruck_1167 (by decide) (fun c1167 => absurd c1167 (by omega)) (fun c1167 => ?_)
        refine zz_iconst (v := nI 1) hX dL_isStruck_1170 rfl ?_
        refine zz_goto hX 1175 dL_isStruck_1171 (by decide) ?_
        refine zz_istore (ls' := [(0, .ref 2), (1, .ref 100), (2, .ref 101), (3, .ref 102), (4, .ref 103), (5, .ref 104), (6, .ref 105), (7, .ref 106), (8, .ref 107), (9, .ref 108), (10, .ref 109), (11, .int (nI 7)), (12, .int (nI one)), (13, .int (nI two)), (14, .int (nI q)), (15, .int (nI 1)), (16, .int (nI (zv_fr S q))), (17, .int (nI (zv_sk S q))), (18, .int (nI f)), (19, .int (nI t)), (20, .int (nI j)), (21, .int (nI 1))]) hX dL_isStruck_1175 (Nat.le_of_ble_eq_true rfl) rfl ?_
        refine zz_iload hX dL_isStruck_1177 21 rfl ?_
        refine zz_if_eq hX 1198 dL_isStruck_1179 (by decide) (fun c => absurd c (by decide)) (fun _ => ?_)
        refine zz_aload_n hX dL_isStruck_1182 2 rfl rfl ?_
        refine zz_iconst (v := nI 3) hX dL_isStruck_1183 rfl ?_
        refine zz_iload hX dL_isStruck_1184 19 rfl ?_
        refine zz_imul (z := nI (3 * t)) hX dL_isStruck_1186 (pk_mul _ _) ?_
        refine zz_iload hX dL_isStruck_1187 20 rfl ?_
        refine zz_iadd (z := nI (3 * t + j)) hX dL_isStruck_1189 (nI_add _ _) ?_
        refine zz_iald (x := S 3 (6 * t + j) * nI 360 + S 2 (6 * t + j)) hX (ql_s101 hI) (3 * t + j) rfl (by omega) (by decide) ((ql_Nj hI t j (by omega) (by omega))) dL_isStruck_1190 ?_
        refine zz_sipush (v := nI 360) hX dL_isStruck_1191 rfl ?_
        refine zz_idiv (z := S 3 (6 * t + j)) hX dL_isStruck_1194 (by decide) (zs_divJ (ql_Jd hI _) (ql_S2 hI _)) ?_
        refine zz_goto hX 1199 dL_isStruck_1195 (by decide) ?_
        refine zz_istore (ls' := [(0, .ref 2), (1, .ref 100), (2, .ref 101), (3, .ref 102), (4, .ref 103), (5, .ref 104), (6, .ref 105), (7, .ref 106), (8, .ref 107), (9, .ref 108), (10, .ref 109), (11, .int (nI 7)), (12, .int (nI one)), (13, .int (nI two)), (14, .int (nI q)), (15, .int (nI 1)), (16, .int (nI (zv_fr S q))), (17, .int (nI (zv_sk S q))), (18, .int (nI f)), (19, .int (nI t)), (20, .int (nI j)), (21, .int (nI 1)), (22, .int (S 3 (6 * t + j)))]) hX dL_isStruck_1199 (Nat.le_of_ble_eq_true rfl) rfl ?_
        refine zz_aload_n hX dL_isStruck_1201 2 rfl rfl ?_
        refine zz_iload hX dL_isStruck_1202 21 rfl ?_
        refine zz_if_eq hX 1217 dL_isStruck_1204 (by decide) (fun c => absurd c (by decide)) (fun _ => ?_)
        refine zz_iconst (v := nI 3) hX dL_isStruck_1207 rfl ?_
        refine zz_iload hX dL_isStruck_1208 19 rfl ?_
        refine zz_imul (z := nI (3 * t)) hX dL_isStruck_1210 (pk_mul _ _) ?_
        refine zz_iload hX dL_isStruck_1211 20 rfl ?_
        refine zz_iadd (z := nI (3 * t + j)) hX dL_isStruck_1213 (nI_add _ _) ?_
        refine zz_goto hX 1219 dL_isStruck_1214 (by decide) ?_
        refine zz_dup2 hX dL_isStruck_1219 rfl rfl ?_
        refine zz_iald (x := S 3 (6 * t + j) * nI 360 + S 2 (6 * t + j)) hX (ql_s101 hI) (3 * t + j) rfl (by omega) (by decide) ((ql_Nj hI t j (by omega) (by omega))) dL_isStruck_1220 ?_
        refine zz_sipush (v := nI 360) hX dL_isStruck_1221 rfl ?_
        refine zz_iload hX dL_isStruck_1224 22 rfl ?_
        refine zz_imul (z := (nI 360) * (S 3 (6 * t + j))) hX dL_isStruck_1226 rfl ?_
        refine zz_isub (z := (S 3 (6 * t + j) * nI 360 + S 2 (6 * t + j)) - ((nI 360) * (S 3 (6 * t + j)))) hX dL_isStruck_1227 rfl ?_
        refine zz_top (show (S 3 (6 * t + j) * nI 360 + S 2 (6 * t + j)) - ((nI 360) * (S 3 (6 * t + j))) = 0 * nI 360 + S 2 (6 * t + j) from ql_mw (ql_Jd hI _) (ql_S2 hI _)) ?_
        refine zz_iast hX (ql_s101 hI) (3 * t + j) rfl (by omega) (by decide) dL_isStruck_1228 ?_
        refine zz_aload_n hX dL_isStruck_1229 0 rfl rfl ?_
        refine zz_bipush (v := nI 15) hX dL_isStruck_1230 rfl ?_
        refine zz_iload hX dL_isStruck_1232 19 rfl ?_
        refine zz_iload hX dL_isStruck_1234 20 rfl ?_
        refine zz_iconst (v := nI 0) hX dL_isStruck_1236 rfl ?_
        refine zz_iconst (v := nI 0) hX dL_isStruck_1237 rfl ?_
        have hA9 : zs_ix (nI t) (zv_np S) ∧ zs_ix (nI j) (zv_jn S (zn (nI t))) := by rw [z_t]; exact ⟨zs_ix_nI u0.1 (by omega), zs_ix_nI u0.2 (by omega)⟩
        refine zz_callSH hX zf_M_L_161 (As := [.ref 2, .int (nI 15), .int (nI t), .int (nI j), .int (nI 0), .int (nI 0)]) (st := []) (D_mend S sh (zm_u2 mi 101 (3 * t + j) (0 * nI 360 + S 2 (6 * t + j))) mr (ql_W hI) (ql_R_f (ql_W hI) hR (M := (zm_u2 mi 101 (3 * t + j) (0 * nI 360 + S 2 (6 * t + j)))) (fun l hl => zm_u2r (by omega))) (nI t) (nI j) (nI 0) (nI 0)) rfl rfl (by decide) (Nat.le_of_ble_eq_true rfl) (Nat.le_of_ble_eq_true rfl) (Nat.le_of_ble_eq_true rfl) dL_isStruck_1238 ?_ (fun _ _ _ _ h _ => h.elim)
        rintro v9 s9 i9 m9 ⟨k9, rfl, hk9, hS9⟩ -
        obtain ⟨e9, hR9⟩ := zq_d1 hk9 hA9 trivial trivial
        simp only [z_t, z_j] at e9 hR9
        obtain rfl := e9.symm
        refine zz_iload hX dL_isStruck_1241 21 rfl ?_
        refine zz_if_eq hX 1251 dL_isStruck_1243 (by decide) (fun c => absurd c (by decide)) (fun _ => ?_)
        refine zz_iload hX dL_isStruck_1246 22 rfl ?_
        refine zz_goto hX 1253 dL_isStruck_1248 (by decide) ?_
        refine zz_icmp_ne hX 1260 dL_isStruck_1253 (by decide) (fun c1253 => absurd rfl c1253) (fun c1253 => ?_)
        refine zz_iconst (v := nI 1) hX dL_isStruck_1256 rfl ?_
        refine zz_goto hX 1261 dL_isStruck_1257 (by decide) ?_
        refine zz_iret hX hr rfl (Nat.le_of_ble_eq_true rfl) (Nat.le_of_ble_eq_true rfl) dL_isStruck_1261 ?_
        exact ⟨rfl, ⟨_, ql_J_end hn (by have z := U_mend (ql_W hI) (nI t) (nI j) hA9 trivial trivial; simp only [z_t, z_j] at z; exact z) (ql_B_mend (ql_BB hI)) (ql_N_3 hI.2.2.2 (by omega) (by omega) rfl) hR9 hS9⟩, ql_10 h10 hS9⟩
      · skip
        refine zz_iload hX dL_isStruck_1152 19 rfl ?_
        refine zz_aload hX dL_isStruck_1154 10 rfl ?_
        refine zz_iconst (v := nI 0) hX dL_isStruck_1156 rfl ?_
        refine zz_iald (x := nI (zv_np S)) hX (ql_s109 hI) 0 rfl (by decide) (by decide) ((ql_g0 hI)) dL_isStruck_1157 ?_
        refine zz_icmp_geN hX (by omega) (by omega) 1174 dL_isStruck_1158 (by decide) (fun c1158 => ?_) (fun c1158 => ?_)
        · skip
          refine zz_iconst (v := nI 0) hX dL_isStruck_1174 rfl ?_
          refine zz_istore (ls' := [(0, .ref 2), (1, .ref 100), (2, .ref 101), (3, .ref 102), (4, .ref 103), (5, .ref 104), (6, .ref 105), (7, .ref 106), (8, .ref 107), (9, .ref 108), (10, .ref 109), (11, .int (nI 7)), (12, .int (nI one)), (13, .int (nI two)), (14, .int (nI q)), (15, .int (nI 1)), (16, .int (nI (zv_fr S q))), (17, .int (nI (zv_sk S q))), (18, .int (nI f)), (19, .int (nI t)), (20, .int (nI j)), (21, .int (nI 0))]) hX dL_isStruck_1175 (Nat.le_of_ble_eq_true rfl) rfl ?_
          refine zz_iload hX dL_isStruck_1177 21 rfl ?_
          refine zz_if_eq hX 1198 dL_isStruck_1179 (by decide) (fun _ => ?_) (fun c => absurd c (by decide))
          refine zz_iconst (v := nI 0) hX dL_isStruck_1198 rfl ?_
          refine zz_istore (ls' := [(0, .ref 2), (1, .ref 100), (2, .ref 101), (3, .ref 102), (4, .ref 103), (5, .ref 104), (6, .ref 105), (7, .ref 106), (8, .ref 107), (9, .ref 108), (10, .ref 109), (11, .int (nI 7)), (12, .int (nI one)), (13, .int (nI two)), (14, .int (nI q)), (15, .int (nI 1)), (16, .int (nI (zv_fr S q))), (17, .int (nI (zv_sk S q))), (18, .int (nI f)), (19, .int (nI t)), (20, .int (nI j)), (21, .int (nI 0)), (22, .int (nI 0))]) hX dL_isStruck_1199 (Nat.le_of_ble_eq_true rfl) rfl ?_
          refine zz_aload_n hX dL_isStruck_1201 2 rfl rfl ?_
          refine zz_iload hX dL_isStruck_1202 21 rfl ?_
          refine zz_if_eq hX 1217 dL_isStruck_1204 (by decide) (fun _ => ?_) (fun c => absurd c (by decide))
          refine zz_bipush (v := nI 6) hX dL_isStruck_1217 rfl ?_
          refine zz_dup2 hX dL_isStruck_1219 rfl rfl ?_
          refine zz_iald (x := mi 101 6) hX (ql_s101 hI) 6 rfl (by decide) (by decide) rfl dL_isStruck_1220 ?_
          refine zz_sipush (v := nI 360) hX dL_isStruck_1221 rfl ?_
          refine zz_iload hX dL_isStruck_1224 22 rfl ?_
          refine zz_imul (z := nI 0) hX dL_isStruck_1226 rfl ?_
          refine zz_isub (z := (mi 101 6) - (nI 0)) hX dL_isStruck_1227 rfl ?_
          refine zz_iast hX (ql_s101 hI) 6 rfl (by decide) (by decide) dL_isStruck_1228 ?_
          refine zz_aload_n hX dL_isStruck_1229 0 rfl rfl ?_
          refine zz_bipush (v := nI 15) hX dL_isStruck_1230 rfl ?_
          refine zz_iload hX dL_isStruck_1232 19 rfl ?_
          refine zz_iload hX dL_isStruck_1234 20 rfl ?_
          refine zz_iconst (v := nI 0) hX dL_isStruck_1236 rfl ?_
          refine zz_iconst (v := nI 0) hX dL_isStruck_1237 rfl ?_
          refine zz_callSH hX zf_M_L_161 (As := [.ref 2, .int (nI 15), .int (nI t), .int (nI j), .int (nI 0), .int (nI 0)]) (st := []) (D_mend S sh (zm_u2 mi 101 6 ((mi 101 6) - (nI 0))) mr (ql_W hI) (ql_R_f (ql_W hI) hR (M := (zm_u2 mi 101 6 ((mi 101 6) - (nI 0)))) (fun l hl => zm_u2r (by omega))) (nI t) (nI j) (nI 0) (nI 0)) rfl rfl (by decide) (Nat.le_of_ble_eq_true rfl) (Nat.le_of_ble_eq_true rfl) (Nat.le_of_ble_eq_true rfl) dL_isStruck_1238 ?_ (fun _ _ _ _ h _ => h.elim)
          rintro v9 s9 i9 m9 ⟨k9, rfl, hk9, hS9⟩ -
          obtain ⟨e9, hR9⟩ := zq_d2 hk9 (fun h => by rw [z_t] at h; exact u0 ⟨zs_ixl h.1 (by omega), zs_ixl h.2 (by omega)⟩)
          obtain rfl := e9.symm
          refine zz_iload hX dL_isStruck_1241 21 rfl ?_
          refine zz_if_eq hX 1251 dL_isStruck_1243 (by decide) (fun _ => ?_) (fun c => absurd c (by decide))
          refine zz_ldc (v := -3000000) hX zw_con_L_84 dL_isStruck_1251 ?_
          refine zz_icmp_ne hX 1260 dL_isStruck_1253 (by decide) (fun c => absurd c (by decide)) (fun _ => ?_)
          refine zz_iconst (v := nI 1) hX dL_isStruck_1256 rfl ?_
          refine zz_goto hX 1261 dL_isStruck_1257 (by decide) ?_
          refine zz_iret hX hr rfl (Nat.le_of_ble_eq_true rfl) (Nat.le_of_ble_eq_true rfl) dL_isStruck_1261 ?_
          exact ⟨rfl, ⟨_, ql_J_end hn (ql_W hI) (ql_B_mono (ql_BB hI) (by omega)) (ql_N_g hI.2.2.2 n3 hsm.1 (by unfold ql_gar; omega)) hR9 hS9⟩, ql_10 h10 hS9⟩
        · skip
          refine zz_iload hX dL_isStruck_1161 20 rfl ?_
          refine zz_aload_n hX dL_isStruck_1163 1 rfl rfl ?_
          refine zz_iload hX dL_isStruck_1164 19 rfl ?_
          refine zz_iald (x := nI (zv_jn S t)) hX (ql_s100 hI) t rfl (by omega) (by decide) ((ql_g100 hI (by omega))) dL_isStruck_1166 ?_
          refine zz_icmp_geN hX (by omega) (by omega) 1174 dL_isStruck_1167 (by decide) (fun c1167 => ?_) (fun c1167 => absurd c1167 (by omega))
          refine zz_iconst (v := nI 0) hX dL_isStruck_1174 rfl ?_
          refine zz_istore (ls' := [(0, .ref 2), (1, .ref 100), (2, .ref 101), (3, .ref 102), (4, .ref 103), (5, .ref 104), (6, .ref 105), (7, .ref 106), (8, .ref 107), (9, .ref 108), (10, .ref 109), (11, .int (nI 7)), (12, .int (nI one)), (13, .int (nI two)), (14, .int (nI q)), (15, .int (nI 1)), (16, .int (nI (zv_fr S q))), (17, .int (nI (zv_sk S q))), (18, .int (nI f)), (19, .int (nI t)), (20, .int (nI j)), (21, .int (nI 0))]) hX dL_isStruck_1175 (Nat.le_of_ble_eq_true rfl) rfl ?_
          refine zz_iload hX dL_isStruck_1177 21 rfl ?_
          refine zz_if_eq hX 1198 dL_isStruck_1179 (by decide) (fun _ => ?_) (fun c => absurd c (by decide))
          refine zz_iconst (v := nI 0) hX dL_isStruck_1198 rfl ?_
          refine zz_istore (ls' := [(0, .ref 2), (1, .ref 100), (2, .ref 101), (3, .ref 102), (4, .ref 103), (5, .ref 104), (6, .ref 105), (7, .ref 106), (8, .ref 107), (9, .ref 108), (10, .ref 109), (11, .int (nI 7)), (12, .int (nI one)), (13, .int (nI two)), (14, .int (nI q)), (15, .int (nI 1)), (16, .int (nI (zv_fr S q))), (17, .int (nI (zv_sk S q))), (18, .int (nI f)), (19, .int (nI t)), (20, .int (nI j)), (21, .int (nI 0)), (22, .int (nI 0))]) hX dL_isStruck_1199 (Nat.le_of_ble_eq_true rfl) rfl ?_
          refine zz_aload_n hX dL_isStruck_1201 2 rfl rfl ?_
          refine zz_iload hX dL_isStruck_1202 21 rfl ?_
          refine zz_if_eq hX 1217 dL_isStruck_1204 (by decide) (fun _ => ?_) (fun c => absurd c (by decide))
          refine zz_bipush (v := nI 6) hX dL_isStruck_1217 rfl ?_
          refine zz_dup2 hX dL_isStruck_1219 rfl rfl ?_
          refine zz_iald (x := mi 101 6) hX (ql_s101 hI) 6 rfl (by decide) (by decide) rfl dL_isStruck_1220 ?_
          refine zz_sipush (v := nI 360) hX dL_isStruck_1221 rfl ?_
          refine zz_iload hX dL_isStruck_1224 22 rfl ?_
          refine zz_imul (z := nI 0) hX dL_isStruck_1226 rfl ?_
          refine zz_isub (z := (mi 101 6) - (nI 0)) hX dL_isStruck_1227 rfl ?_
          refine zz_iast hX (ql_s101 hI) 6 rfl (by decide) (by decide) dL_isStruck_1228 ?_
          refine zz_aload_n hX dL_isStruck_1229 0 rfl rfl ?_
          refine zz_bipush (v := nI 15) hX dL_isStruck_1230 rfl ?_
          refine zz_iload hX dL_isStruck_1232 19 rfl ?_
          refine zz_iload hX dL_isStruck_1234 20 rfl ?_
          refine zz_iconst (v := nI 0) hX dL_isStruck_1236 rfl ?_
          refine zz_iconst (v := nI 0) hX dL_isStruck_1237 rfl ?_
          refine zz_callSH hX zf_M_L_161 (As := [.ref 2, .int (nI 15), .int (nI t), .int (nI j), .int (nI 0), .int (nI 0)]) (st := []) (D_mend S sh (zm_u2 mi 101 6 ((mi 101 6) - (nI 0))) mr (ql_W hI) (ql_R_f (ql_W hI) hR (M := (zm_u2 mi 101 6 ((mi 101 6) - (nI 0)))) (fun l hl => zm_u2r (by omega))) (nI t) (nI j) (nI 0) (nI 0)) rfl rfl (by decide) (Nat.le_of_ble_eq_true rfl) (Nat.le_of_ble_eq_true rfl) (Nat.le_of_ble_eq_true rfl) dL_isStruck_1238 ?_ (fun _ _ _ _ h _ => h.elim)
          rintro v9 s9 i9 m9 ⟨k9, rfl, hk9, hS9⟩ -
          obtain ⟨e9, hR9⟩ := zq_d2 hk9 (fun h => by rw [z_t] at h; exact u0 ⟨zs_ixl h.1 (by omega), zs_ixl h.2 (by omega)⟩)
          obtain rfl := e9.symm
          refine zz_iload hX dL_isStruck_1241 21 rfl ?_
          refine zz_if_eq hX 1251 dL_isStruck_1243 (by decide) (fun _ => ?_) (fun c => absurd c (by decide))
          refine zz_ldc (v := -3000000) hX zw_con_L_84 dL_isStruck_1251 ?_
          refine zz_icmp_ne hX 1260 dL_isStruck_1253 (by decide) (fun c => absurd c (by decide)) (fun _ => ?_)
          refine zz_iconst (v := nI 1) hX dL_isStruck_1256 rfl ?_
          refine zz_goto hX 1261 dL_isStruck_1257 (by decide) ?_
          refine zz_iret hX hr rfl (Nat.le_of_ble_eq_true rfl) (Nat.le_of_ble_eq_true rfl) dL_isStruck_1261 ?_
          exact ⟨rfl, ⟨_, ql_J_end hn (ql_W hI) (ql_B_mono (ql_BB hI) (by omega)) (ql_N_g hI.2.2.2 n3 hsm.1 (by unfold ql_gar; omega)) hR9 hS9⟩, ql_10 h10 hS9⟩
    refine zz_iload hX dL_isStruck_63 12 rfl ?_
    refine zz_iconst (v := nI 4) hX dL_isStruck_65 rfl ?_
    refine zz_idiv (z := nI (one / 4)) hX dL_isStruck_66 (by decide) (pk_div (by omega) (by decide) (by decide)) ?_
    refine zz_bipush (v := nI 9) hX dL_isStruck_67 rfl ?_
    refine zz_irem (z := nI ((one / 4) % 9)) hX dL_isStruck_69 (by decide) (pk_rem (by omega) (by decide) (by decide)) ?_
    refine zz_bipush (v := nI 8) hX dL_isStruck_70 rfl ?_
    refine zz_icmp_neN hX (by omega) (by decide) 80 dL_isStruck_72 (by decide) (fun c72 => ?_) (fun c72 => ?_)
    · skip
      refine zz_iload hX dL_isStruck_80 16 rfl ?_
      refine zz_if_neN hX (by omega) 89 dL_isStruck_82 (by decide) (fun c82 => ?_) (fun c82 => absurd c82 (by omega))
      refine zz_iload hX dL_isStruck_89 12 rfl ?_
      refine zz_iconst (v := nI 4) hX dL_isStruck_91 rfl ?_
      refine zz_idiv (z := nI (one / 4)) hX dL_isStruck_92 (by decide) (pk_div (by omega) (by decide) (by decide)) ?_
      refine zz_iload hX dL_isStruck_93 16 rfl ?_
      refine zz_irem (z := nI ((one / 4) % (zv_fr S q))) hX dL_isStruck_95 (nI_ne0 (by omega) (by omega)) (pk_rem (by omega) (by omega) (by omega)) ?_
      exact K96 ((one / 4) % (zv_fr S q)) (by first | omega | exact Nat.le_of_lt (Nat.mod_lt _ (by omega)))
    · skip
      refine zz_iload hX dL_isStruck_75 16 rfl ?_
      refine zz_goto hX 96 dL_isStruck_77 (by decide) ?_
      exact K96 (zv_fr S q) (by first | omega | exact Nat.le_of_lt (Nat.mod_lt _ (by omega)))
  · skip
    refine zz_iload hX dL_isStruck_11 14 rfl ?_
    refine zz_aload hX dL_isStruck_13 10 rfl ?_
    refine zz_iconst (v := nI 2) hX dL_isStruck_15 rfl ?_
    refine zz_iald (x := nI (zv_ns S)) hX (ql_s109 hI) 2 rfl (by decide) (by decide) ((ql_g2 hI)) dL_isStruck_16 ?_
    refine zz_icmp_geN hX (by omega) (by omega) 24 dL_isStruck_17 (by decide) (fun c17 => ?_) (fun c17 => absurd c17 (by omega))
    refine zz_iconst (v := nI 0) hX dL_isStruck_24 rfl ?_
    refine zz_istore (ls' := [(0, .ref 2), (1, .ref 100), (2, .ref 101), (3, .ref 102), (4, .ref 103), (5, .ref 104), (6, .ref 105), (7, .ref 106), (8, .ref 107), (9, .ref 108), (10, .ref 109), (11, .int (nI 7)), (12, .int (nI one)), (13, .int (nI two)), (14, .int (nI q)), (15, .int (nI 0))]) hX dL_isStruck_25 (Nat.le_of_ble_eq_true rfl) rfl ?_
    refine zz_iload hX dL_isStruck_27 15 rfl ?_
    refine zz_if_eq hX 42 dL_isStruck_29 (by decide) (fun _ => ?_) (fun c => absurd c (by decide))
    refine zz_iconst (v := nI 0) hX dL_isStruck_42 rfl ?_
    refine zz_istore (ls' := [(0, .ref 2), (1, .ref 100), (2, .ref 101), (3, .ref 102), (4, .ref 103), (5, .ref 104), (6, .ref 105), (7, .ref 106), (8, .ref 107), (9, .ref 108), (10, .ref 109), (11, .int (nI 7)), (12, .int (nI one)), (13, .int (nI two)), (14, .int (nI q)), (15, .int (nI 0)), (16, .int (nI 0))]) hX dL_isStruck_43 (Nat.le_of_ble_eq_true rfl) rfl ?_
    refine zz_iload hX dL_isStruck_45 15 rfl ?_
    refine zz_if_eq hX 60 dL_isStruck_47 (by decide) (fun _ => ?_) (fun c => absurd c (by decide))
    refine zz_iconst (v := nI 0) hX dL_isStruck_60 rfl ?_
    refine zz_istore (ls' := [(0, .ref 2), (1, .ref 100), (2, .ref 101), (3, .ref 102), (4, .ref 103), (5, .ref 104), (6, .ref 105), (7, .ref 106), (8, .ref 107), (9, .ref 108), (10, .ref 109), (11, .int (nI 7)), (12, .int (nI one)), (13, .int (nI two)), (14, .int (nI q)), (15, .int (nI 0)), (16, .int (nI 0)), (17, .int (nI 0))]) hX dL_isStruck_61 (Nat.le_of_ble_eq_true rfl) rfl ?_
    have K96 : zz Γ (D, E, 24, ad, sh) (zz_End Γ (D, E, 24, ad, sh) (ql_T n) zz_none 10 60) 0 0 sh mi mr 96 [(0, .ref 2), (1, .ref 100), (2, .ref 101), (3, .ref 102), (4, .ref 103), (5, .ref 104), (6, .ref 105), (7, .ref 106), (8, .ref 107), (9, .ref 108), (10, .ref 109), (11, .int (nI 7)), (12, .int (nI one)), (13, .int (nI two)), (14, .int (nI q)), (15, .int (nI 0)), (16, .int (nI 0)), (17, .int (nI 0))] [.int (nI 0)] := by
      refine zz_istore (ls' := [(0, .ref 2), (1, .ref 100), (2, .ref 101), (3, .ref 102), (4, .ref 103), (5, .ref 104), (6, .ref 105), (7, .ref 106), (8, .ref 107), (9, .ref 108), (10, .ref 109), (11, .int (nI 7)), (12, .int (nI one)), (13, .int (nI two)), (14, .int (nI q)), (15, .int (nI 0)), (16, .int (nI 0)), (17, .int (nI 0)), (18, .int (nI 0))]) hX dL_isStruck_96 (Nat.le_of_ble_eq_true rfl) rfl ?_
      refine zz_iload hX dL_isStruck_98 11 rfl ?_
      refine zz_if_ne hX 362 dL_isStruck_100 (by decide) (fun _ => ?_) (fun c => absurd c (by decide))
      refine zz_iload hX dL_isStruck_362 11 rfl ?_
      refine zz_iconst (v := nI 1) hX dL_isStruck_364 rfl ?_
      refine zz_icmp_ne hX 573 dL_isStruck_365 (by decide) (fun _ => ?_) (fun c => absurd c (by decide))
      refine zz_iload hX dL_isStruck_573 11 rfl ?_
      refine zz_iconst (v := nI 2) hX dL_isStruck_575 rfl ?_
      refine zz_icmp_ne hX 644 dL_isStruck_576 (by decide) (fun _ => ?_) (fun c => absurd c (by decide))
      refine zz_iload hX dL_isStruck_644 11 rfl ?_
      refine zz_iconst (v := nI 3) hX dL_isStruck_646 rfl ?_
      refine zz_icmp_ne hX 751 dL_isStruck_647 (by decide) (fun _ => ?_) (fun c => absurd c (by decide))
      refine zz_iload hX dL_isStruck_751 11 rfl ?_
      refine zz_iconst (v := nI 4) hX dL_isStruck_753 rfl ?_
      refine zz_icmp_ne hX 916 dL_isStruck_754 (by decide) (fun _ => ?_) (fun c => absurd c (by decide))
      refine zz_iload hX dL_isStruck_916 11 rfl ?_
      refine zz_iconst (v := nI 5) hX dL_isStruck_918 rfl ?_
      refine zz_icmp_ne hX 992 dL_isStruck_919 (by decide) (fun _ => ?_) (fun c => absurd c (by decide))
      refine zz_iload hX dL_isStruck_992 11 rfl ?_
      refine zz_bipush (v := nI 6) hX dL_isStruck_994 rfl ?_
      refine zz_icmp_ne hX 1128 dL_isStruck_996 (by decide) (fun _ => ?_) (fun c => absurd c (by decide))
      refine zz_iload hX dL_isStruck_1128 11 rfl ?_
      refine zz_bipush (v := nI 7) hX dL_isStruck_1130 rfl ?_
      refine zz_icmp_ne hX 1262 dL_isStruck_1132 (by decide) (fun c => absurd c (by decide)) (fun _ => ?_)
      refine zz_iload hX dL_isStruck_1135 12 rfl ?_
      refine zz_aload hX dL_isStruck_1137 10 rfl ?_
      refine zz_iconst (v := nI 0) hX dL_isStruck_1139 rfl ?_
      refine zz_iald (x := nI (zv_np S)) hX (ql_s109 hI) 0 rfl (by decide) (by decide) ((ql_g0 hI)) dL_isStruck_1140 ?_
      refine zz_iconst (v := nI 1) hX dL_isStruck_1141 rfl ?_
      refine zz_iadd (z := nI (zv_np S + 1)) hX dL_isStruck_1142 (nI_add _ _) ?_
      refine zz_irem (z := nI (one % (zv_np S + 1))) hX dL_isStruck_1143 (nI_ne0 (by omega) (by omega)) (pk_rem (by omega) (by omega) (by omega)) ?_
      have ht9 : one % (zv_np S + 1) < zv_np S + 1 := Nat.mod_lt _ (by omega)
      generalize one % (zv_np S + 1) = t at ht9 ⊢
      have z_t : zn (nI t) = t := nI_clamp (n := t) (by omega)
      refine zz_istore (ls' := [(0, .ref 2), (1, .ref 100), (2, .ref 101), (3, .ref 102), (4, .ref 103), (5, .ref 104), (6, .ref 105), (7, .ref 106), (8, .ref 107), (9, .ref 108), (10, .ref 109), (11, .int (nI 7)), (12, .int (nI one)), (13, .int (nI two)), (14, .int (nI q)), (15, .int (nI 0)), (16, .int (nI 0)), (17, .int (nI 0)), (18, .int (nI 0)), (19, .int (nI t))]) hX dL_isStruck_1144 (Nat.le_of_ble_eq_true rfl) rfl ?_
      refine zz_iload hX dL_isStruck_1146 13 rfl ?_
      refine zz_iconst (v := nI 4) hX dL_isStruck_1148 rfl ?_
      refine zz_irem (z := nI (two % 4)) hX dL_isStruck_1149 (by decide) (pk_rem (by omega) (by decide) (by decide)) ?_
      have hj9 : two % 4 < 4 := Nat.mod_lt _ (by omega)
      generalize two % 4 = j at hj9 ⊢
      have z_j : zn (nI j) = j := nI_clamp (n := j) (by omega)
      refine zz_istore (ls' := [(0, .ref 2), (1, .ref 100), (2, .ref 101), (3, .ref 102), (4, .ref 103), (5, .ref 104), (6, .ref 105), (7, .ref 106), (8, .ref 107), (9, .ref 108), (10, .ref 109), (11, .int (nI 7)), (12, .int (nI one)), (13, .int (nI two)), (14, .int (nI q)), (15, .int (nI 0)), (16, .int (nI 0)), (17, .int (nI 0)), (18, .int (nI 0)), (19, .int (nI t)), (20, .int (nI j))]) hX dL_isStruck_1150 (Nat.le_of_ble_eq_true rfl) rfl ?_
      by_cases u0 : t < zv_np S ∧ j < zv_jn S t
      · skip
        have hj3 := (ql_BB hI).1.2 t u0.1
        refine zz_iload hX dL_isStruck_1152 19 rfl ?_
        refine zz_aload hX dL_isStruck_1154 10 rfl ?_
        refine zz_iconst (v := nI 0) hX dL_isStruck_1156 rfl ?_
        refine zz_iald (x := nI (zv_np S)) hX (ql_s109 hI) 0 rfl (by decide) (by decide) ((ql_g0 hI)) dL_isStruck_1157 ?_
        refine zz_icmp_geN hX (by omega) (by omega) 1174 dL_isStruck_1158 (by decide) (fun c1158 => absurd c1158 (by omega)) (fun c1158 => ?_)
        refine zz_iload hX dL_isStruck_1161 20 rfl ?_
        refine zz_aload_n hX dL_isStruck_1163 1 rfl rfl ?_
        refine zz_iload hX dL_isStruck_1164 19 rfl ?_
        refine zz_iald (x := nI (zv_jn S t)) hX (ql_s100 hI) t rfl (by omega) (by decide) ((ql_g100 hI (by omega))) dL_isStruck_1166 ?_
        refine zz_icmp_geN hX (by omega) (by omega) 1174 dL_isStruck_1167 (by decide) (fun c1167 => absurd c1167 (by omega)) (fun c1167 => ?_)
        refine zz_iconst (v := nI 1) hX dL_isStruck_1170 rfl ?_
        refine zz_goto hX 1175 dL_isStruck_1171 (by decide) ?_
        refine zz_istore (ls' := [(0, .ref 2), (1, .ref 100), (2, .ref 101), (3, .ref 102), (4, .ref 103), (5, .ref 104), (6, .ref 105), (7, .ref 106), (8, .ref 107), (9, .ref 108), (10, .ref 109), (11, .int (nI 7)), (12, .int (nI one)), (13, .int (nI two)), (14, .int (nI q)), (15, .int (nI 0)), (16, .int (nI 0)), (17, .int (nI 0)), (18, .int (nI 0)), (19, .int (nI t)), (20, .int (nI j)), (21, .int (nI 1))]) hX dL_isStruck_1175 (Nat.le_of_ble_eq_true rfl) rfl ?_
        refine zz_iload hX dL_isStruck_1177 21 rfl ?_
        refine zz_if_eq hX 1198 dL_isStruck_1179 (by decide) (fun c => absurd c (by decide)) (fun _ => ?_)
        refine zz_aload_n hX dL_isStruck_1182 2 rfl rfl ?_
        refine zz_iconst (v := nI 3) hX dL_isStruck_1183 rfl ?_
        refine zz_iload hX dL_isStruck_1184 19 rfl ?_
        refine zz_imul (z := nI (3 * t)) hX dL_isStruck_1186 (pk_mul _ _) ?_
        refine zz_iload hX dL_isStruck_1187 20 rfl ?_
        refine zz_iadd (z := nI (3 * t + j)) hX dL_isStruck_1189 (nI_add _ _) ?_
        refine zz_iald (x := S 3 (6 * t + j) * nI 360 + S 2 (6 * t + j)) hX (ql_s101 hI) (3 * t + j) rfl (by omega) (by decide) ((ql_Nj hI t j (by omega) (by omega))) dL_isStruck_1190 ?_
        refine zz_sipush (v := nI 360) hX dL_isStruck_1191 rfl ?_
        refine zz_idiv (z := S 3 (6 * t + j)) hX dL_isStruck_1194 (by decide) (zs_divJ (ql_Jd hI _) (ql_S2 hI _)) ?_
        refine zz_goto hX 1199 dL_isStruck_1195 (by decide) ?_
        refine zz_istore (ls' := [(0, .ref 2), (1, .ref 100), (2, .ref 101), (3, .ref 102), (4, .ref 103), (5, .ref 104), (6, .ref 105), (7, .ref 106), (8, .ref 107), (9, .ref 108), (10, .ref 109), (11, .int (nI 7)), (12, .int (nI one)), (13, .int (nI two)), (14, .int (nI q)), (15, .int (nI 0)), (16, .int (nI 0)), (17, .int (nI 0)), (18, .int (nI 0)), (19, .int (nI t)), (20, .int (nI j)), (21, .int (nI 1)), (22, .int (S 3 (6 * t + j)))]) hX dL_isStruck_1199 (Nat.le_of_ble_eq_true rfl) rfl ?_
        refine zz_aload_n hX dL_isStruck_1201 2 rfl rfl ?_
        refine zz_iload hX dL_isStruck_1202 21 rfl ?_
        refine zz_if_eq hX 1217 dL_isStruck_1204 (by decide) (fun c => absurd c (by decide)) (fun _ => ?_)
        refine zz_iconst (v := nI 3) hX dL_isStruck_1207 rfl ?_
        refine zz_iload hX dL_isStruck_1208 19 rfl ?_
        refine zz_imul (z := nI (3 * t)) hX dL_isStruck_1210 (pk_mul _ _) ?_
        refine zz_iload hX dL_isStruck_1211 20 rfl ?_
        refine zz_iadd (z := nI (3 * t + j)) hX dL_isStruck_1213 (nI_add _ _) ?_
        refine zz_goto hX 1219 dL_isStruck_1214 (by decide) ?_
        refine zz_dup2 hX dL_isStruck_1219 rfl rfl ?_
        refine zz_iald (x := S 3 (6 * t + j) * nI 360 + S 2 (6 * t + j)) hX (ql_s101 hI) (3 * t + j) rfl (by omega) (by decide) ((ql_Nj hI t j (by omega) (by omega))) dL_isStruck_1220 ?_
        refine zz_sipush (v := nI 360) hX dL_isStruck_1221 rfl ?_
        refine zz_iload hX dL_isStruck_1224 22 rfl ?_
        refine zz_imul (z := (nI 360) * (S 3 (6 * t + j))) hX dL_isStruck_1226 rfl ?_
        refine zz_isub (z := (S 3 (6 * t + j) * nI 360 + S 2 (6 * t + j)) - ((nI 360) * (S 3 (6 * t + j)))) hX dL_isStruck_1227 rfl ?_
        refine zz_top (show (S 3 (6 * t + j) * nI 360 + S 2 (6 * t + j)) - ((nI 360) * (S 3 (6 * t + j))) = 0 * nI 360 + S 2 (6 * t + j) from ql_mw (ql_Jd hI _) (ql_S2 hI _)) ?_
        refine zz_iast hX (ql_s101 hI) (3 * t + j) rfl (by omega) (by decide) dL_isStruck_1228 ?_
        refine zz_aload_n hX dL_isStruck_1229 0 rfl rfl ?_
        refine zz_bipush (v := nI 15) hX dL_isStruck_1230 rfl ?_
        refine zz_iload hX dL_isStruck_1232 19 rfl ?_
        refine zz_iload hX dL_isStruck_1234 20 rfl ?_
        refine zz_iconst (v := nI 0) hX dL_isStruck_1236 rfl ?_
        refine zz_iconst (v := nI 0) hX dL_isStruck_1237 rfl ?_
        have hA9 : zs_ix (nI t) (zv_np S) ∧ zs_ix (nI j) (zv_jn S (zn (nI t))) := by rw [z_t]; exact ⟨zs_ix_nI u0.1 (by omega), zs_ix_nI u0.2 (by omega)⟩
        refine zz_callSH hX zf_M_L_161 (As := [.ref 2, .int (nI 15), .int (nI t), .int (nI j), .int (nI 0), .int (nI 0)]) (st := []) (D_mend S sh (zm_u2 mi 101 (3 * t + j) (0 * nI 360 + S 2 (6 * t + j))) mr (ql_W hI) (ql_R_f (ql_W hI) hR (M := (zm_u2 mi 101 (3 * t + j) (0 * nI 360 + S 2 (6 * t + j)))) (fun l hl => zm_u2r (by omega))) (nI t) (nI j) (nI 0) (nI 0)) rfl rfl (by decide) (Nat.le_of_ble_eq_true rfl) (Nat.le_of_ble_eq_true rfl) (Nat.le_of_ble_eq_true rfl) dL_isStruck_1238 ?_ (fun _ _ _ _ h _ => h.elim)
        rintro v9 s9 i9 m9 ⟨k9, rfl, hk9, hS9⟩ -
        obtain ⟨e9, hR9⟩ := zq_d1 hk9 hA9 trivial trivial
        simp only [z_t, z_j] at e9 hR9
        obtain rfl := e9.symm
        refine zz_iload hX dL_isStruck_1241 21 rfl ?_
        refine zz_if_eq hX 1251 dL_isStruck_1243 (by decide) (fun c => absurd c (by decide)) (fun _ => ?_)
        refine zz_iload hX dL_isStruck_1246 22 rfl ?_
        refine zz_goto hX 1253 dL_isStruck_1248 (by decide) ?_
        refine zz_icmp_ne hX 1260 dL_isStruck_1253 (by decide) (fun c1253 => absurd rfl c1253) (fun c1253 => ?_)
        refine zz_iconst (v := nI 1) hX dL_isStruck_1256 rfl ?_
        refine zz_goto hX 1261 dL_isStruck_1257 (by decide) ?_
        refine zz_iret hX hr rfl (Nat.le_of_ble_eq_true rfl) (Nat.le_of_ble_eq_true rfl) dL_isStruck_1261 ?_
        exact ⟨rfl, ⟨_, ql_J_end hn (by have z := U_mend (ql_W hI) (nI t) (nI j) hA9 trivial trivial; simp only [z_t, z_j] at z; exact z) (ql_B_mend (ql_BB hI)) (ql_N_3 hI.2.2.2 (by omega) (by omega) rfl) hR9 hS9⟩, ql_10 h10 hS9⟩
      · skip
        refine zz_iload hX dL_isStruck_1152 19 rfl ?_
        refine zz_aload hX dL_isStruck_1154 10 rfl ?_
        refine zz_iconst (v := nI 0) hX dL_isStruck_1156 rfl ?_
        refine zz_iald (x := nI (zv_np S)) hX (ql_s109 hI) 0 rfl (by decide) (by decide) ((ql_g0 hI)) dL_isStruck_1157 ?_
        refine zz_icmp_geN hX (by omega) (by omega) 1174 dL_isStruck_1158 (by decide) (fun c1158 => ?_) (fun c1158 => ?_)
        · skip
          refine zz_iconst (v := nI 0) hX dL_isStruck_1174 rfl ?_
          refine zz_istore (ls' := [(0, .ref 2), (1, .ref 100), (2, .ref 101), (3, .ref 102), (4, .ref 103), (5, .ref 104), (6, .ref 105), (7, .ref 106), (8, .ref 107), (9, .ref 108), (10, .ref 109), (11, .int (nI 7)), (12, .int (nI one)), (13, .int (nI two)), (14, .int (nI q)), (15, .int (nI 0)), (16, .int (nI 0)), (17, .int (nI 0)), (18, .int (nI 0)), (19, .int (nI t)), (20, .int (nI j)), (21, .int (nI 0))]) hX dL_isStruck_1175 (Nat.le_of_ble_eq_true rfl) rfl ?_
          refine zz_iload hX dL_isStruck_1177 21 rfl ?_
          refine zz_if_eq hX 1198 dL_isStruck_1179 (by decide) (fun _ => ?_) (fun c => absurd c (by decide))
          refine zz_iconst (v := nI 0) hX dL_isStruck_1198 rfl ?_
          refine zz_istore (ls' := [(0, .ref 2), (1, .ref 100), (2, .ref 101), (3, .ref 102), (4, .ref 103), (5, .ref 104), (6, .ref 105), (7, .ref 106), (8, .ref 107), (9, .ref 108), (10, .ref 109), (11, .int (nI 7)), (12, .int (nI one)), (13, .int (nI two)), (14, .int (nI q)), (15, .int (nI 0)), (16, .int (nI 0)), (17, .int (nI 0)), (18, .int (nI 0)), (19, .int (nI t)), (20, .int (nI j)), (21, .int (nI 0)), (22, .int (nI 0))]) hX dL_isStruck_1199 (Nat.le_of_ble_eq_true rfl) rfl ?_
          refine zz_aload_n hX dL_isStruck_1201 2 rfl rfl ?_
          refine zz_iload hX dL_isStruck_1202 21 rfl ?_
          refine zz_if_eq hX 1217 dL_isStruck_1204 (by decide) (fun _ => ?_) (fun c => absurd c (by decide))
          refine zz_bipush (v := nI 6) hX dL_isStruck_1217 rfl ?_
          refine zz_dup2 hX dL_isStruck_1219 rfl rfl ?_
          refine zz_iald (x := mi 101 6) hX (ql_s101 hI) 6 rfl (by decide) (by decide) rfl dL_isStruck_1220 ?_
          refine zz_sipush (v := nI 360) hX dL_isStruck_1221 rfl ?_
          refine zz_iload hX dL_isStruck_1224 22 rfl ?_
          refine zz_imul (z := nI 0) hX dL_isStruck_1226 rfl ?_
          refine zz_isub (z := (mi 101 6) - (nI 0)) hX dL_isStruck_1227 rfl ?_
          refine zz_iast hX (ql_s101 hI) 6 rfl (by decide) (by decide) dL_isStruck_1228 ?_
          refine zz_aload_n hX dL_isStruck_1229 0 rfl rfl ?_
          refine zz_bipush (v := nI 15) hX dL_isStruck_1230 rfl ?_
          refine zz_iload hX dL_isStruck_1232 19 rfl ?_
          refine zz_iload hX dL_isStruck_1234 20 rfl ?_
          refine zz_iconst (v := nI 0) hX dL_isStruck_1236 rfl ?_
          refine zz_iconst (v := nI 0) hX dL_isStruck_1237 rfl ?_
          refine zz_callSH hX zf_M_L_161 (As := [.ref 2, .int (nI 15), .int (nI t), .int (nI j), .int (nI 0), .int (nI 0)]) (st := []) (D_mend S sh (zm_u2 mi 101 6 ((mi 101 6) - (nI 0))) mr (ql_W hI) (ql_R_f (ql_W hI) hR (M := (zm_u2 mi 101 6 ((mi 101 6) - (nI 0)))) (fun l hl => zm_u2r (by omega))) (nI t) (nI j) (nI 0) (nI 0)) rfl rfl (by decide) (Nat.le_of_ble_eq_true rfl) (Nat.le_of_ble_eq_true rfl) (Nat.le_of_ble_eq_true rfl) dL_isStruck_1238 ?_ (fun _ _ _ _ h _ => h.elim)
          rintro v9 s9 i9 m9 ⟨k9, rfl, hk9, hS9⟩ -
          obtain ⟨e9, hR9⟩ := zq_d2 hk9 (fun h => by rw [z_t] at h; exact u0 ⟨zs_ixl h.1 (by omega), zs_ixl h.2 (by omega)⟩)
          obtain rfl := e9.symm
          refine zz_iload hX dL_isStruck_1241 21 rfl ?_
          refine zz_if_eq hX 1251 dL_isStruck_1243 (by decide) (fun _ => ?_) (fun c => absurd c (by decide))
          refine zz_ldc (v := -3000000) hX zw_con_L_84 dL_isStruck_1251 ?_
          refine zz_icmp_ne hX 1260 dL_isStruck_1253 (by decide) (fun c => absurd c (by decide)) (fun _ => ?_)
          refine zz_iconst (v := nI 1) hX dL_isStruck_1256 rfl ?_
          refine zz_goto hX 1261 dL_isStruck_1257 (by decide) ?_
          refine zz_iret hX hr rfl (Nat.le_of_ble_eq_true rfl) (Nat.le_of_ble_eq_true rfl) dL_isStruck_1261 ?_
          exact ⟨rfl, ⟨_, ql_J_end hn (ql_W hI) (ql_B_mono (ql_BB hI) (by omega)) (ql_N_g hI.2.2.2 n3 hsm.1 (by unfold ql_gar; omega)) hR9 hS9⟩, ql_10 h10 hS9⟩
        · skip
          refine zz_iload hX dL_isStruck_1161 20 rfl ?_
          refine zz_aload_n hX dL_isStruck_1163 1 rfl rfl ?_
          refine zz_iload hX dL_isStruck_1164 19 rfl ?_
          refine zz_iald (x := nI (zv_jn S t)) hX (ql_s100 hI) t rfl (by omega) (by decide) ((ql_g100 hI (by omega))) dL_isStruck_1166 ?_
          refine zz_icmp_geN hX (by omega) (by omega) 1174 dL_isStruck_1167 (by decide) (fun c1167 => ?_) (fun c1167 => absurd c1167 (by omega))
          refine zz_iconst (v := nI 0) hX dL_isStruck_1174 rfl ?_
          refine zz_istore (ls' := [(0, .ref 2), (1, .ref 100), (2, .ref 101), (3, .ref 102), (4, .ref 103), (5, .ref 104), (6, .ref 105), (7, .ref 106), (8, .ref 107), (9, .ref 108), (10, .ref 109), (11, .int (nI 7)), (12, .int (nI one)), (13, .int (nI two)), (14, .int (nI q)), (15, .int (nI 0)), (16, .int (nI 0)), (17, .int (nI 0)), (18, .int (nI 0)), (19, .int (nI t)), (20, .int (nI j)), (21, .int (nI 0))]) hX dL_isStruck_1175 (Nat.le_of_ble_eq_true rfl) rfl ?_
          refine zz_iload hX dL_isStruck_1177 21 rfl ?_
          refine zz_if_eq hX 1198 dL_isStruck_1179 (by decide) (fun _ => ?_) (fun c => absurd c (by decide))
          refine zz_iconst (v := nI 0) hX dL_isStruck_1198 rfl ?_
          refine zz_istore (ls' := [(0, .ref 2), (1, .ref 100), (2, .ref 101), (3, .ref 102), (4, .ref 103), (5, .ref 104), (6, .ref 105), (7, .ref 106), (8, .ref 107), (9, .ref 108), (10, .ref 109), (11, .int (nI 7)), (12, .int (nI one)), (13, .int (nI two)), (14, .int (nI q)), (15, .int (nI 0)), (16, .int (nI 0)), (17, .int (nI 0)), (18, .int (nI 0)), (19, .int (nI t)), (20, .int (nI j)), (21, .int (nI 0)), (22, .int (nI 0))]) hX dL_isStruck_1199 (Nat.le_of_ble_eq_true rfl) rfl ?_
          refine zz_aload_n hX dL_isStruck_1201 2 rfl rfl ?_
          refine zz_iload hX dL_isStruck_1202 21 rfl ?_
          refine zz_if_eq hX 1217 dL_isStruck_1204 (by decide) (fun _ => ?_) (fun c => absurd c (by decide))
          refine zz_bipush (v := nI 6) hX dL_isStruck_1217 rfl ?_
          refine zz_dup2 hX dL_isStruck_1219 rfl rfl ?_
          refine zz_iald (x := mi 101 6) hX (ql_s101 hI) 6 rfl (by decide) (by decide) rfl dL_isStruck_1220 ?_
          refine zz_sipush (v := nI 360) hX dL_isStruck_1221 rfl ?_
          refine zz_iload hX dL_isStruck_1224 22 rfl ?_
          refine zz_imul (z := nI 0) hX dL_isStruck_1226 rfl ?_
          refine zz_isub (z := (mi 101 6) - (nI 0)) hX dL_isStruck_1227 rfl ?_
          refine zz_iast hX (ql_s101 hI) 6 rfl (by decide) (by decide) dL_isStruck_1228 ?_
          refine zz_aload_n hX dL_isStruck_1229 0 rfl rfl ?_
          refine zz_bipush (v := nI 15) hX dL_isStruck_1230 rfl ?_
          refine zz_iload hX dL_isStruck_1232 19 rfl ?_
          refine zz_iload hX dL_isStruck_1234 20 rfl ?_
          refine zz_iconst (v := nI 0) hX dL_isStruck_1236 rfl ?_
          refine zz_iconst (v := nI 0) hX dL_isStruck_1237 rfl ?_
          refine zz_callSH hX zf_M_L_161 (As := [.ref 2, .int (nI 15), .int (nI t), .int (nI j), .int (nI 0), .int (nI 0)]) (st := []) (D_mend S sh (zm_u2 mi 101 6 ((mi 101 6) - (nI 0))) mr (ql_W hI) (ql_R_f (ql_W hI) hR (M := (zm_u2 mi 101 6 ((mi 101 6) - (nI 0)))) (fun l hl => zm_u2r (by omega))) (nI t) (nI j) (nI 0) (nI 0)) rfl rfl (by decide) (Nat.le_of_ble_eq_true rfl) (Nat.le_of_ble_eq_true rfl) (Nat.le_of_ble_eq_true rfl) dL_isStruck_1238 ?_ (fun _ _ _ _ h _ => h.elim)
          rintro v9 s9 i9 m9 ⟨k9, rfl, hk9, hS9⟩ -
          obtain ⟨e9, hR9⟩ := zq_d2 hk9 (fun h => by rw [z_t] at h; exact u0 ⟨zs_ixl h.1 (by omega), zs_ixl h.2 (by omega)⟩)
          obtain rfl := e9.symm
          refine zz_iload hX dL_isStruck_1241 21 rfl ?_
          refine zz_if_eq hX 1251 dL_isStruck_1243 (by decide) (fun _ => ?_) (fun c => absurd c (by decide))
          refine zz_ldc (v := -3000000) hX zw_con_L_84 dL_isStruck_1251 ?_
          refine zz_icmp_ne hX 1260 dL_isStruck_1253 (by decide) (fun c => absurd c (by decide)) (fun _ => ?_)
          refine zz_iconst (v := nI 1) hX dL_isStruck_1256 rfl ?_
          refine zz_goto hX 1261 dL_isStruck_1257 (by decide) ?_
          refine zz_iret hX hr rfl (Nat.le_of_ble_eq_true rfl) (Nat.le_of_ble_eq_true rfl) dL_isStruck_1261 ?_
          exact ⟨rfl, ⟨_, ql_J_end hn (ql_W hI) (ql_B_mono (ql_BB hI) (by omega)) (ql_N_g hI.2.2.2 n3 hsm.1 (by unfold ql_gar; omega)) hR9 hS9⟩, ql_10 h10 hS9⟩
    refine zz_iload hX dL_isStruck_63 12 rfl ?_
    refine zz_iconst (v := nI 4) hX dL_isStruck_65 rfl ?_
    refine zz_idiv (z := nI (one / 4)) hX dL_isStruck_66 (by decide) (pk_div (by omega) (by decide) (by decide)) ?_
    refine zz_bipush (v := nI 9) hX dL_isStruck_67 rfl ?_
    refine zz_irem (z := nI ((one / 4) % 9)) hX dL_isStruck_69 (by decide) (pk_rem (by omega) (by decide) (by decide)) ?_
    refine zz_bipush (v := nI 8) hX dL_isStruck_70 rfl ?_
    refine zz_icmp_neN hX (by omega) (by decide) 80 dL_isStruck_72 (by decide) (fun c72 => ?_) (fun c72 => ?_)
    · skip
      refine zz_iload hX dL_isStruck_80 16 rfl ?_
      refine zz_if_ne hX 89 dL_isStruck_82 (by decide) (fun c => absurd c (by decide)) (fun _ => ?_)
      refine zz_iconst (v := nI 0) hX dL_isStruck_85 rfl ?_
      refine zz_goto hX 96 dL_isStruck_86 (by decide) ?_
      exact zz_top (rfl) K96
    · skip
      refine zz_iload hX dL_isStruck_75 16 rfl ?_
      refine zz_goto hX 96 dL_isStruck_77 (by decide) ?_
      exact zz_top (rfl) K96

set_option maxHeartbeats 1000000 in
set_option maxRecDepth 20000 in
theorem S_lamp (n : Nat) (hn : n + 1 ≤ 64) (S : zS) (sh : zm_Sh) (mi : zm_Mi) (mr : zm_Mr) (hI : ql_I n S sh mi) (hR : zR S sh mi mr) (h10 : sh 10 = some (9, 0)) (one two : Nat) (ho : one < 60000) (ht : two < 60000)  : zz_Con yL_isStruck (.code yL_isStruck cL_isStruck 24 (some Jvm.ClassFile.FieldType.boolean)) 12 10 60 [.ref 2, .ref 100, .ref 101, .ref 102, .ref 103, .ref 104, .ref 105, .ref 106, .ref 107, .ref 108, .ref 109, .int (nI 8), .int (nI one), .int (nI two)] sh mi mr (ql_T n) zz_none := by
  refine zz_begin RL [(0, .ref 2), (1, .ref 100), (2, .ref 101), (3, .ref 102), (4, .ref 103), (5, .ref 104), (6, .ref 105), (7, .ref 106), (8, .ref 107), (9, .ref 108), (10, .ref 109), (11, .int (nI 8)), (12, .int (nI one)), (13, .int (nI two))] (by decide) rfl rfl (Nat.le_of_ble_eq_true rfl) rfl ?_
  intro Γ D E ad hX hr hN hT
  obtain ⟨n1, n2, n3, n4⟩ := ql_num hI
  have hsm := ql_small hI
  refine zz_iload hX dL_isStruck_0 12 rfl ?_
  refine zz_aload hX dL_isStruck_2 10 rfl ?_
  refine zz_iconst (v := nI 2) hX dL_isStruck_4 rfl ?_
  refine zz_iald (x := nI (zv_ns S)) hX (ql_s109 hI) 2 rfl (by decide) (by decide) ((ql_g2 hI)) dL_isStruck_5 ?_
  refine zz_iconst (v := nI 1) hX dL_isStruck_6 rfl ?_
  refine zz_iadd (z := nI (zv_ns S + 1)) hX dL_isStruck_7 (nI_add _ _) ?_
  refine zz_irem (z := nI (one % (zv_ns S + 1))) hX dL_isStruck_8 (nI_ne0 (by omega) (by omega)) (pk_rem (by omega) (by omega) (by omega)) ?_
  have hq9 : one % (zv_ns S + 1) < zv_ns S + 1 := Nat.mod_lt _ (by omega)
  generalize one % (zv_ns S + 1) = q at hq9 ⊢
  have z_q : zn (nI q) = q := nI_clamp (n := q) (by omega)
  refine zz_istore (ls' := [(0, .ref 2), (1, .ref 100), (2, .ref 101), (3, .ref 102), (4, .ref 103), (5, .ref 104), (6, .ref 105), (7, .ref 106), (8, .ref 107), (9, .ref 108), (10, .ref 109), (11, .int (nI 8)), (12, .int (nI one)), (13, .int (nI two)), (14, .int (nI q))]) hX dL_isStruck_9 (Nat.le_of_ble_eq_true rfl) rfl ?_
  by_cases g0 : q < zv_ns S
  · skip
    have hwq := ql_hw_lt hI g0
    obtain ⟨q1, q2, q3, q4, q5, q6, q7, q8, q9, q10, q11, q12⟩ := ql_shot hI g0
    refine zz_iload hX dL_isStruck_11 14 rfl ?_
    refine zz_aload hX dL_isStruck_13 10 rfl ?_
    refine zz_iconst (v := nI 2) hX dL_isStruck_15 rfl ?_
    refine zz_iald (x := nI (zv_ns S)) hX (ql_s109 hI) 2 rfl (by decide) (by decide) ((ql_g2 hI)) dL_isStruck_16 ?_
    refine zz_icmp_geN hX (by omega) (by omega) 24 dL_isStruck_17 (by decide) (fun c17 => absurd c17 (by omega)) (fun c17 => ?_)
    refine zz_iconst (v := nI 1) hX dL_isStruck_20 rfl ?_
    refine zz_goto hX 25 dL_isStruck_21 (by decide) ?_
    refine zz_istore (ls' := [(0, .ref 2), (1, .ref 100), (2, .ref 101), (3, .ref 102), (4, .ref 103), (5, .ref 104), (6, .ref 105), (7, .ref 106), (8, .ref 107), (9, .ref 108), (10, .ref 109), (11, .int (nI 8)), (12, .int (nI one)), (13, .int (nI two)), (14, .int (nI q)), (15, .int (nI 1))]) hX dL_isStruck_25 (Nat.le_of_ble_eq_true rfl) rfl ?_
    refine zz_iload hX dL_isStruck_27 15 rfl ?_
    refine zz_if_eq hX 42 dL_isStruck_29 (by decide) (fun c => absurd c (by decide)) (fun _ => ?_)
    refine zz_aload hX dL_isStruck_32 5 rfl ?_
    refine zz_iload hX dL_isStruck_34 14 rfl ?_
    refine zz_sI (x := nI (zv_fr S q)) hX zf_M_L_105 (As := [.ref 104, .int (nI q)]) (st := []) (Q_frames n S sh mi mr hI q (by omega)) rfl rfl (by decide) (Nat.le_of_ble_eq_true rfl) (Nat.le_of_ble_eq_true rfl) (Nat.le_of_ble_eq_true rfl) dL_isStruck_36 ?_
    refine zz_goto hX 43 dL_isStruck_39 (by decide) ?_
    refine zz_istore (ls' := [(0, .ref 2), (1, .ref 100), (2, .ref 101), (3, .ref 102), (4, .ref 103), (5, .ref 104), (6, .ref 105), (7, .ref 106), (8, .ref 107), (9, .ref 108), (10, .ref 109), (11, .int (nI 8)), (12, .int (nI one)), (13, .int (nI two)), (14, .int (nI q)), (15, .int (nI 1)), (16, .int (nI (zv_fr S q)))]) hX dL_isStruck_43 (Nat.le_of_ble_eq_true rfl) rfl ?_
    refine zz_iload hX dL_isStruck_45 15 rfl ?_
    refine zz_if_eq hX 60 dL_isStruck_47 (by decide) (fun c => absurd c (by decide)) (fun _ => ?_)
    refine zz_aload hX dL_isStruck_50 5 rfl ?_
    refine zz_iload hX dL_isStruck_52 14 rfl ?_
    refine zz_sI (x := nI (zv_sk S q)) hX zf_M_L_101 (As := [.ref 104, .int (nI q)]) (st := []) (Q_struck n S sh mi mr hI q (by omega)) rfl rfl (by decide) (Nat.le_of_ble_eq_true rfl) (Nat.le_of_ble_eq_true rfl) (Nat.le_of_ble_eq_true rfl) dL_isStruck_54 ?_
    refine zz_goto hX 61 dL_isStruck_57 (by decide) ?_
    refine zz_istore (ls' := [(0, .ref 2), (1, .ref 100), (2, .ref 101), (3, .ref 102), (4, .ref 103), (5, .ref 104), (6, .ref 105), (7, .ref 106), (8, .ref 107), (9, .ref 108), (10, .ref 109), (11, .int (nI 8)), (12, .int (nI one)), (13, .int (nI two)), (14, .int (nI q)), (15, .int (nI 1)), (16, .int (nI (zv_fr S q))), (17, .int (nI (zv_sk S q)))]) hX dL_isStruck_61 (Nat.le_of_ble_eq_true rfl) rfl ?_
    have K96 : ∀ f : Nat, f ≤ zv_fr S q → zz Γ (D, E, 24, ad, sh) (zz_End Γ (D, E, 24, ad, sh) (ql_T n) zz_none 10 60) 0 0 sh mi mr 96 [(0, .ref 2), (1, .ref 100), (2, .ref 101), (3, .ref 102), (4, .ref 103), (5, .ref 104), (6, .ref 105), (7, .ref 106), (8, .ref 107), (9, .ref 108), (10, .ref 109), (11, .int (nI 8)), (12, .int (nI one)), (13, .int (nI two)), (14, .int (nI q)), (15, .int (nI 1)), (16, .int (nI (zv_fr S q))), (17, .int (nI (zv_sk S q)))] [.int (nI f)] := by
      intro f hf
      have z_f : zn (nI f) = f := nI_clamp (n := f) (by omega)
      refine zz_istore (ls' := [(0, .ref 2), (1, .ref 100), (2, .ref 101), (3, .ref 102), (4, .ref 103), (5, .ref 104), (6, .ref 105), (7, .ref 106), (8, .ref 107), (9, .ref 108), (10, .ref 109), (11, .int (nI 8)), (12, .int (nI one)), (13, .int (nI two)), (14, .int (nI q)), (15, .int (nI 1)), (16, .int (nI (zv_fr S q))), (17, .int (nI (zv_sk S q))), (18, .int (nI f))]) hX dL_isStruck_96 (Nat.le_of_ble_eq_true rfl) rfl ?_
      refine zz_iload hX dL_isStruck_98 11 rfl ?_
      refine zz_if_ne hX 362 dL_isStruck_100 (by decide) (fun _ => ?_) (fun c => absurd c (by decide))
      refine zz_iload hX dL_isStruck_362 11 rfl ?_
      refine zz_iconst (v := nI 1) hX dL_isStruck_364 rfl ?_
      refine zz_icmp_ne hX 573 dL_isStruck_365 (by decide) (fun _ => ?_) (fun c => absurd c (by decide))
      refine zz_iload hX dL_isStruck_573 11 rfl ?_
      refine zz_iconst (v := nI 2) hX dL_isStruck_575 rfl ?_
      refine zz_icmp_ne hX 644 dL_isStruck_576 (by decide) (fun _ => ?_) (fun c => absurd c (by decide))
      refine zz_iload hX dL_isStruck_644 11 rfl ?_
      refine zz_iconst (v := nI 3) hX dL_isStruck_646 rfl ?_
      refine zz_icmp_ne hX 751 dL_isStruck_647 (by decide) (fun _ => ?_) (fun c => absurd c (by decide))
      refine zz_iload hX dL_isStruck_751 11 rfl ?_
      refine zz_iconst (v := nI 4) hX dL_isStruck_753 rfl ?_
      refine zz_icmp_ne hX 916 dL_isStruck_754 (by decide) (fun _ => ?_) (fun c => absurd c (by decide))
      refine zz_iload hX dL_isStruck_916 11 rfl ?_
      refine zz_iconst (v := nI 5) hX dL_isStruck_918 rfl ?_
      refine zz_icmp_ne hX 992 dL_isStruck_919 (by decide) (fun _ => ?_) (fun c => absurd c (by decide))
      refine zz_iload hX dL_isStruck_992 11 rfl ?_
      refine zz_bipush (v := nI 6) hX dL_isStruck_994 rfl ?_
      refine zz_icmp_ne hX 1128 dL_isStruck_996 (by decide) (fun _ => ?_) (fun c => absurd c (by decide))
      refine zz_iload hX dL_isStruck_1128 11 rfl ?_
      refine zz_bipush (v := nI 7) hX dL_isStruck_1130 rfl ?_
      refine zz_icmp_ne hX 1262 dL_isStruck_1132 (by decide) (fun _ => ?_) (fun c => absurd c (by decide))
      refine zz_iload hX dL_isStruck_1262 11 rfl ?_
      refine zz_bipush (v := nI 8) hX dL_isStruck_1264 rfl ?_
      refine zz_icmp_ne hX 1296 dL_isStruck_1266 (by decide) (fun c => absurd c (by decide)) (fun _ => ?_)
      refine zz_aload hX dL_isStruck_1269 10 rfl ?_
      refine zz_sI (x := zp_light S) hX zf_M_L_132 (As := [.ref 109]) (st := []) (Q_light n S sh mi mr hI) rfl rfl (by decide) (Nat.le_of_ble_eq_true rfl) (Nat.le_of_ble_eq_true rfl) (Nat.le_of_ble_eq_true rfl) dL_isStruck_1271 ?_
      refine zz_istore (ls' := [(0, .ref 2), (1, .ref 100), (2, .ref 101), (3, .ref 102), (4, .ref 103), (5, .ref 104), (6, .ref 105), (7, .ref 106), (8, .ref 107), (9, .ref 108), (10, .ref 109), (11, .int (nI 8)), (12, .int (nI one)), (13, .int (nI two)), (14, .int (nI q)), (15, .int (nI 1)), (16, .int (nI (zv_fr S q))), (17, .int (nI (zv_sk S q))), (18, .int (nI f)), (19, .int (zp_light S))]) hX dL_isStruck_1274 (Nat.le_of_ble_eq_true rfl) rfl ?_
      refine zz_aload hX dL_isStruck_1276 10 rfl ?_
      refine zz_iconst (v := nI 4) hX dL_isStruck_1278 rfl ?_
      refine zz_iconst (v := nI 0) hX dL_isStruck_1279 rfl ?_
      refine zz_top (show nI 0 = (0 : Int32) from nI_0) ?_
      refine zz_iast hX (ql_s109 hI) 4 rfl (by decide) (by decide) dL_isStruck_1280 ?_
      refine zz_aload_n hX dL_isStruck_1281 0 rfl rfl ?_
      have hRM := (ql_R_f (ql_W hI) hR (M := (zm_u2 mi 109 4 0)) (fun l hl => zm_u2r (by omega)))
      refine zz_callV hX zf_M_L_175 (As := []) (st := []) (P_lamp S sh (zm_u2 mi 109 4 0) mr (ql_W hI) hRM) hRM.1.1 rfl rfl rfl (by decide) (Nat.le_of_ble_eq_true rfl) (Nat.le_of_ble_eq_true rfl) (Nat.le_of_ble_eq_true rfl) dL_isStruck_1282 ?_ (fun e s i m h _ => (zq_no_el h trivial trivial trivial).elim)
      rintro v9 s9 i9 m9 ⟨-, e9, hR9, hS9⟩ -
      obtain rfl := e9.symm
      refine zz_iload hX dL_isStruck_1285 19 rfl ?_
      refine zz_icmp_ne hX 1294 dL_isStruck_1287 (by decide) (fun c1287 => absurd rfl c1287) (fun c1287 => ?_)
      refine zz_iconst (v := nI 1) hX dL_isStruck_1290 rfl ?_
      refine zz_goto hX 1295 dL_isStruck_1291 (by decide) ?_
      refine zz_iret hX hr rfl (Nat.le_of_ble_eq_true rfl) (Nat.le_of_ble_eq_true rfl) dL_isStruck_1295 ?_
      exact ⟨rfl, ⟨_, ql_J_end hn (U_lamp (ql_W hI) trivial trivial trivial) (ql_B_lamp (ql_BB hI)) (ql_N_lamp hI.2.2.2) hR9 hS9⟩, ql_10 h10 hS9⟩
    refine zz_iload hX dL_isStruck_63 12 rfl ?_
    refine zz_iconst (v := nI 4) hX dL_isStruck_65 rfl ?_
    refine zz_idiv (z := nI (one / 4)) hX dL_isStruck_66 (by decide) (pk_div (by omega) (by decide) (by decide)) ?_
    refine zz_bipush (v := nI 9) hX dL_isStruck_67 rfl ?_
    refine zz_irem (z := nI ((one / 4) % 9)) hX dL_isStruck_69 (by decide) (pk_rem (by omega) (by decide) (by decide)) ?_
    refine zz_bipush (v := nI 8) hX dL_isStruck_70 rfl ?_
    refine zz_icmp_neN hX (by omega) (by decide) 80 dL_isStruck_72 (by decide) (fun c72 => ?_) (fun c72 => ?_)
    · skip
      refine zz_iload hX dL_isStruck_80 16 rfl ?_
      refine zz_if_neN hX (by omega) 89 dL_isStruck_82 (by decide) (fun c82 => ?_) (fun c82 => absurd c82 (by omega))
      refine zz_iload hX dL_isStruck_89 12 rfl ?_
      refine zz_iconst (v := nI 4) hX dL_isStruck_91 rfl ?_
      refine zz_idiv (z := nI (one / 4)) hX dL_isStruck_92 (by decide) (pk_div (by omega) (by decide) (by decide)) ?_
      refine zz_iload hX dL_isStruck_93 16 rfl ?_
      refine zz_irem (z := nI ((one / 4) % (zv_fr S q))) hX dL_isStruck_95 (nI_ne0 (by omega) (by omega)) (pk_rem (by omega) (by omega) (by omega)) ?_
      exact K96 ((one / 4) % (zv_fr S q)) (by first | omega | exact Nat.le_of_lt (Nat.mod_lt _ (by omega)))
    · skip
      refine zz_iload hX dL_isStruck_75 16 rfl ?_
      refine zz_goto hX 96 dL_isStruck_77 (by decide) ?_
      exact K96 (zv_fr S q) (by first | omega | exact Nat.le_of_lt (Nat.mod_lt _ (by omega)))
  · skip
    refine zz_iload hX dL_isStruck_11 14 rfl ?_
    refine zz_aload hX dL_isStruck_13 10 rfl ?_
    refine zz_iconst (v := nI 2) hX dL_isStruck_15 rfl ?_
    refine zz_iald (x := nI (zv_ns S)) hX (ql_s109 hI) 2 rfl (by decide) (by decide) ((ql_g2 hI)) dL_isStruck_16 ?_
    refine zz_icmp_geN hX (by omega) (by omega) 24 dL_isStruck_17 (by decide) (fun c17 => ?_) (fun c17 => absurd c17 (by omega))
    refine zz_iconst (v := nI 0) hX dL_isStruck_24 rfl ?_
    refine zz_istore (ls' := [(0, .ref 2), (1, .ref 100), (2, .ref 101), (3, .ref 102), (4, .ref 103), (5, .ref 104), (6, .ref 105), (7, .ref 106), (8, .ref 107), (9, .ref 108), (10, .ref 109), (11, .int (nI 8)), (12, .int (nI one)), (13, .int (nI two)), (14, .int (nI q)), (15, .int (nI 0))]) hX dL_isStruck_25 (Nat.le_of_ble_eq_true rfl) rfl ?_
    refine zz_iload hX dL_isStruck_27 15 rfl ?_
    refine zz_if_eq hX 42 dL_isStruck_29 (by decide) (fun _ => ?_) (fun c => absurd c (by decide))
    refine zz_iconst (v := nI 0) hX dL_isStruck_42 rfl ?_
    refine zz_istore (ls' := [(0, .ref 2), (1, .ref 100), (2, .ref 101), (3, .ref 102), (4, .ref 103), (5, .ref 104), (6, .ref 105), (7, .ref 106), (8, .ref 107), (9, .ref 108), (10, .ref 109), (11, .int (nI 8)), (12, .int (nI one)), (13, .int (nI two)), (14, .int (nI q)), (15, .int (nI 0)), (16, .int (nI 0))]) hX dL_isStruck_43 (Nat.le_of_ble_eq_true rfl) rfl ?_
    refine zz_iload hX dL_isStruck_45 15 rfl ?_
    refine zz_if_eq hX 60 dL_isStruck_47 (by decide) (fun _ => ?_) (fun c => absurd c (by decide))
    refine zz_iconst (v := nI 0) hX dL_isStruck_60 rfl ?_
    refine zz_istore (ls' := [(0, .ref 2), (1, .ref 100), (2, .ref 101), (3, .ref 102), (4, .ref 103), (5, .ref 104), (6, .ref 105), (7, .ref 106), (8, .ref 107), (9, .ref 108), (10, .ref 109), (11, .int (nI 8)), (12, .int (nI one)), (13, .int (nI two)), (14, .int (nI q)), (15, .int (nI 0)), (16, .int (nI 0)), (17, .int (nI 0))]) hX dL_isStruck_61 (Nat.le_of_ble_eq_true rfl) rfl ?_
    have K96 : zz Γ (D, E, 24, ad, sh) (zz_End Γ (D, E, 24, ad, sh) (ql_T n) zz_none 10 60) 0 0 sh mi mr 96 [(0, .ref 2), (1, .ref 100), (2, .ref 101), (3, .ref 102), (4, .ref 103), (5, .ref 104), (6, .ref 105), (7, .ref 106), (8, .ref 107), (9, .ref 108), (10, .ref 109), (11, .int (nI 8)), (12, .int (nI one)), (13, .int (nI two)), (14, .int (nI q)), (15, .int (nI 0)), (16, .int (nI 0)), (17, .int (nI 0))] [.int (nI 0)] := by
      refine zz_istore (ls' := [(0, .ref 2), (1, .ref 100), (2, .ref 101), (3, .ref 102), (4, .ref 103), (5, .ref 104), (6, .ref 105), (7, .ref 106), (8, .ref 107), (9, .ref 108), (10, .ref 109), (11, .int (nI 8)), (12, .int (nI one)), (13, .int (nI two)), (14, .int (nI q)), (15, .int (nI 0)), (16, .int (nI 0)), (17, .int (nI 0)), (18, .int (nI 0))]) hX dL_isStruck_96 (Nat.le_of_ble_eq_true rfl) rfl ?_
      refine zz_iload hX dL_isStruck_98 11 rfl ?_
      refine zz_if_ne hX 362 dL_isStruck_100 (by decide) (fun _ => ?_) (fun c => absurd c (by decide))
      refine zz_iload hX dL_isStruck_362 11 rfl ?_
      refine zz_iconst (v := nI 1) hX dL_isStruck_364 rfl ?_
      refine zz_icmp_ne hX 573 dL_isStruck_365 (by decide) (fun _ => ?_) (fun c => absurd c (by decide))
      refine zz_iload hX dL_isStruck_573 11 rfl ?_
      refine zz_iconst (v := nI 2) hX dL_isStruck_575 rfl ?_
      refine zz_icmp_ne hX 644 dL_isStruck_576 (by decide) (fun _ => ?_) (fun c => absurd c (by decide))
      refine zz_iload hX dL_isStruck_644 11 rfl ?_
      refine zz_iconst (v := nI 3) hX dL_isStruck_646 rfl ?_
      refine zz_icmp_ne hX 751 dL_isStruck_647 (by decide) (fun _ => ?_) (fun c => absurd c (by decide))
      refine zz_iload hX dL_isStruck_751 11 rfl ?_
      refine zz_iconst (v := nI 4) hX dL_isStruck_753 rfl ?_
      refine zz_icmp_ne hX 916 dL_isStruck_754 (by decide) (fun _ => ?_) (fun c => absurd c (by decide))
      refine zz_iload hX dL_isStruck_916 11 rfl ?_
      refine zz_iconst (v := nI 5) hX dL_isStruck_918 rfl ?_
      refine zz_icmp_ne hX 992 dL_isStruck_919 (by decide) (fun _ => ?_) (fun c => absurd c (by decide))
      refine zz_iload hX dL_isStruck_992 11 rfl ?_
      refine zz_bipush (v := nI 6) hX dL_isStruck_994 rfl ?_
      refine zz_icmp_ne hX 1128 dL_isStruck_996 (by decide) (fun _ => ?_) (fun c => absurd c (by decide))
      refine zz_iload hX dL_isStruck_1128 11 rfl ?_
      refine zz_bipush (v := nI 7) hX dL_isStruck_1130 rfl ?_
      refine zz_icmp_ne hX 1262 dL_isStruck_1132 (by decide) (fun _ => ?_) (fun c => absurd c (by decide))
      refine zz_iload hX dL_isStruck_1262 11 rfl ?_
      refine zz_bipush (v := nI 8) hX dL_isStruck_1264 rfl ?_
      refine zz_icmp_ne hX 1296 dL_isStruck_1266 (by decide) (fun c => absurd c (by decide)) (fun _ => ?_)
      refine zz_aload hX dL_isStruck_1269 10 rfl ?_
      refine zz_sI (x := zp_light S) hX zf_M_L_132 (As := [.ref 109]) (st := []) (Q_light n S sh mi mr hI) rfl rfl (by decide) (Nat.le_of_ble_eq_true rfl) (Nat.le_of_ble_eq_true rfl) (Nat.le_of_ble_eq_true rfl) dL_isStruck_1271 ?_
      refine zz_istore (ls' := [(0, .ref 2), (1, .ref 100), (2, .ref 101), (3, .ref 102), (4, .ref 103), (5, .ref 104), (6, .ref 105), (7, .ref 106), (8, .ref 107), (9, .ref 108), (10, .ref 109), (11, .int (nI 8)), (12, .int (nI one)), (13, .int (nI two)), (14, .int (nI q)), (15, .int (nI 0)), (16, .int (nI 0)), (17, .int (nI 0)), (18, .int (nI 0)), (19, .int (zp_light S))]) hX dL_isStruck_1274 (Nat.le_of_ble_eq_true rfl) rfl ?_
      refine zz_aload hX dL_isStruck_1276 10 rfl ?_
      refine zz_iconst (v := nI 4) hX dL_isStruck_1278 rfl ?_
      refine zz_iconst (v := nI 0) hX dL_isStruck_1279 rfl ?_
      refine zz_top (show nI 0 = (0 : Int32) from nI_0) ?_
      refine zz_iast hX (ql_s109 hI) 4 rfl (by decide) (by decide) dL_isStruck_1280 ?_
      refine zz_aload_n hX dL_isStruck_1281 0 rfl rfl ?_
      have hRM := (ql_R_f (ql_W hI) hR (M := (zm_u2 mi 109 4 0)) (fun l hl => zm_u2r (by omega)))
      refine zz_callV hX zf_M_L_175 (As := []) (st := []) (P_lamp S sh (zm_u2 mi 109 4 0) mr (ql_W hI) hRM) hRM.1.1 rfl rfl rfl (by decide) (Nat.le_of_ble_eq_true rfl) (Nat.le_of_ble_eq_true rfl) (Nat.le_of_ble_eq_true rfl) dL_isStruck_1282 ?_ (fun e s i m h _ => (zq_no_el h trivial trivial trivial).elim)
      rintro v9 s9 i9 m9 ⟨-, e9, hR9, hS9⟩ -
      obtain rfl := e9.symm
      refine zz_iload hX dL_isStruck_1285 19 rfl ?_
      refine zz_icmp_ne hX 1294 dL_isStruck_1287 (by decide) (fun c1287 => absurd rfl c1287) (fun c1287 => ?_)
      refine zz_iconst (v := nI 1) hX dL_isStruck_1290 rfl ?_
      refine zz_goto hX 1295 dL_isStruck_1291 (by decide) ?_
      refine zz_iret hX hr rfl (Nat.le_of_ble_eq_true rfl) (Nat.le_of_ble_eq_true rfl) dL_isStruck_1295 ?_
      exact ⟨rfl, ⟨_, ql_J_end hn (U_lamp (ql_W hI) trivial trivial trivial) (ql_B_lamp (ql_BB hI)) (ql_N_lamp hI.2.2.2) hR9 hS9⟩, ql_10 h10 hS9⟩
    refine zz_iload hX dL_isStruck_63 12 rfl ?_
    refine zz_iconst (v := nI 4) hX dL_isStruck_65 rfl ?_
    refine zz_idiv (z := nI (one / 4)) hX dL_isStruck_66 (by decide) (pk_div (by omega) (by decide) (by decide)) ?_
    refine zz_bipush (v := nI 9) hX dL_isStruck_67 rfl ?_
    refine zz_irem (z := nI ((one / 4) % 9)) hX dL_isStruck_69 (by decide) (pk_rem (by omega) (by decide) (by decide)) ?_
    refine zz_bipush (v := nI 8) hX dL_isStruck_70 rfl ?_
    refine zz_icmp_neN hX (by omega) (by decide) 80 dL_isStruck_72 (by decide) (fun c72 => ?_) (fun c72 => ?_)
    · skip
      refine zz_iload hX dL_isStruck_80 16 rfl ?_
      refine zz_if_ne hX 89 dL_isStruck_82 (by decide) (fun c => absurd c (by decide)) (fun _ => ?_)
      refine zz_iconst (v := nI 0) hX dL_isStruck_85 rfl ?_
      refine zz_goto hX 96 dL_isStruck_86 (by decide) ?_
      exact zz_top (rfl) K96
    · skip
      refine zz_iload hX dL_isStruck_75 16 rfl ?_
      refine zz_goto hX 96 dL_isStruck_77 (by decide) ?_
      exact zz_top (rfl) K96

