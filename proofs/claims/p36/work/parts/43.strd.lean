/-! ===== the film's steps of isStruck ===== -/
set_option maxHeartbeats 1000000 in
set_option maxRecDepth 20000 in
theorem S_cut (n : Nat) (hn : n + 1 ≤ 64) (S : zS) (sh : zm_Sh) (mi : zm_Mi) (mr : zm_Mr) (hI : ql_I n S sh mi) (hR : zR S sh mi mr) (h10 : sh 10 = some (9, 0)) (one two : Nat) (ho : one < 60000) (ht : two < 60000)  : zz_Con yL_isStruck (.code yL_isStruck cL_isStruck 24 (some Jvm.ClassFile.FieldType.boolean)) 12 10 60 [.ref 2, .ref 100, .ref 101, .ref 102, .ref 103, .ref 104, .ref 105, .ref 106, .ref 107, .ref 108, .ref 109, .int (nI 9), .int (nI one), .int (nI two)] sh mi mr (ql_T n) zz_none := by
  refine zz_begin RL [(0, .ref 2), (1, .ref 100), (2, .ref 101), (3, .ref 102), (4, .ref 103), (5, .ref 104), (6, .ref 105), (7, .ref 106), (8, .ref 107), (9, .ref 108), (10, .ref 109), (11, .int (nI 9)), (12, .int (nI one)), (13, .int (nI two))] (by decide) rfl rfl (Nat.le_of_ble_eq_true rfl) rfl ?_
  intro Γ D E ad hX hr hN hT
  obtain ⟨n1, n2, n3, n4⟩ := ql_num hI
  have hsm := ql_small hI
  refine zz_iload hX dL_isStruck_0 12 rfl ?_
  refine zz_aload hX dL_isStruck_2 10 rfl ?_
  refine zz_iconst (v := nI 2) hX dL_isStruck_4 rfl ?_
  refine zz_iald (x := nI (zv_ns S)) hX (ql_s109 hI) 2 rfl (by decide) (by decide) ((ql_g2 hI)) dL_isStruck_5 ?_
  refine zz_iconst (v := nI 1) hX dL_isStruck_6 rfl ?_
  refine zz_iadd (z := nI (zv_ns S + 1)) hX dL_isStruck_7 (nI_add _ _) ?_
  refine zz_irem (z := nI (one % (zv_ns S + 1))) hX dL_isStruck_8 (nI_ne0 (by omega) (by omega)) (pk_rem (by omega) (by omega) (by omega)) ?_
  have hq9 : one % (zv_ns S + 1) < zv_ns S + 1 := Nat.mod_lt _ (by omega)
  generalize one % (zv_ns S + 1) = q at hq9 ⊢
  have z_q : zn (nI q) = q := nI_clamp (n := q) (by omega)
  refine zz_istore (ls' := [(0, .ref 2), (1, .ref 100), (2, .ref 101), (3, .ref 102), (4, .ref 103), (5, .ref 104), (6, .ref 105), (7, .ref 106), (8, .ref 107), (9, .ref 108), (10, .ref 109), (11, .int (nI 9)), (12, .int (nI one)), (13, .int (nI two)), (14, .int (nI q))]) hX dL_isStruck_9 (Nat.le_of_ble_eq_true rfl) rfl ?_
  by_cases g0 : q < zv_ns S
  · skip
    have hwq := ql_hw_lt hI g0
    obtain ⟨q1, q2, q3, q4, q5, q6, q7, q8, q9, q10, q11, q12⟩ := ql_shot hI g0
    refine zz_iload hX dL_isStruck_11 14 rfl ?_
    refine zz_aload hX dL_isStruck_13 10 rfl ?_
    refine zz_iconst (v := nI 2) hX dL_isStruck_15 rfl ?_
    refine zz_iald (x := nI (zv_ns S)) hX (ql_s109 hI) 2 rfl (by decide) (by decide) ((ql_g2 hI)) dL_isStruck_16 ?_
    refine zz_icmp_geN hX (by omega) (by omega) 24 dL_isStruck_17 (by decide) (fun c17 => absurd c17 (by omega)) (fun c17 => ?_)
    refine zz_iconst (v := nI 1) hX dL_isStruck_20 rfl ?_
    refine zz_goto hX 25 dL_isStruck_21 (by decide) ?_
    refine zz_istore (ls' := [(0, .ref 2), (1, .ref 100), (2, .ref 101), (3, .ref 102), (4, .ref 103), (5, .ref 104), (6, .ref 105), (7, .ref 106), (8, .ref 107), (9, .ref 108), (10, .ref 109), (11, .int (nI 9)), (12, .int (nI one)), (13, .int (nI two)), (14, .int (nI q)), (15, .int (nI 1))]) hX dL_isStruck_25 (Nat.le_of_ble_eq_true rfl) rfl ?_
    refine zz_iload hX dL_isStruck_27 15 rfl ?_
    refine zz_if_eq hX 42 dL_isStruck_29 (by decide) (fun c => absurd c (by decide)) (fun _ => ?_)
    refine zz_aload hX dL_isStruck_32 5 rfl ?_
    refine zz_iload hX dL_isStruck_34 14 rfl ?_
    refine zz_sI (x := nI (zv_fr S q)) hX zf_M_L_105 (As := [.ref 104, .int (nI q)]) (st := []) (Q_frames n S sh mi mr hI q (by omega)) rfl rfl (by decide) (Nat.le_of_ble_eq_true rfl) (Nat.le_of_ble_eq_true rfl) (Nat.le_of_ble_eq_true rfl) dL_isStruck_36 ?_
    refine zz_goto hX 43 dL_isStruck_39 (by decide) ?_
    refine zz_istore (ls' := [(0, .ref 2), (1, .ref 100), (2, .ref 101), (3, .ref 102), (4, .ref 103), (5, .ref 104), (6, .ref 105), (7, .ref 106), (8, .ref 107), (9, .ref 108), (10, .ref 109), (11, .int (nI 9)), (12, .int (nI one)), (13, .int (nI two)), (14, .int (nI q)), (15, .int (nI 1)), (16, .int (nI (zv_fr S q)))]) hX dL_isStruck_43 (Nat.le_of_ble_eq_true rfl) rfl ?_
    refine zz_iload hX dL_isStruck_45 15 rfl ?_
    refine zz_if_eq hX 60 dL_isStruck_47 (by decide) (fun c => absurd c (by decide)) (fun _ => ?_)
    refine zz_aload hX dL_isStruck_50 5 rfl ?_
    refine zz_iload hX dL_isStruck_52 14 rfl ?_
    refine zz_sI (x := nI (zv_sk S q)) hX zf_M_L_101 (As := [.ref 104, .int (nI q)]) (st := []) (Q_struck n S sh mi mr hI q (by omega)) rfl rfl (by decide) (Nat.le_of_ble_eq_true rfl) (Nat.le_of_ble_eq_true rfl) (Nat.le_of_ble_eq_true rfl) dL_isStruck_54 ?_
    refine zz_goto hX 61 dL_isStruck_57 (by decide) ?_
    refine zz_istore (ls' := [(0, .ref 2), (1, .ref 100), (2, .ref 101), (3, .ref 102), (4, .ref 103), (5, .ref 104), (6, .ref 105), (7, .ref 106), (8, .ref 107), (9, .ref 108), (10, .ref 109), (11, .int (nI 9)), (12, .int (nI one)), (13, .int (nI two)), (14, .int (nI q)), (15, .int (nI 1)), (16, .int (nI (zv_fr S q))), (17, .int (nI (zv_sk S q)))]) hX dL_isStruck_61 (Nat.le_of_ble_eq_true rfl) rfl ?_
    have K96 : ∀ f : Nat, f ≤ zv_fr S q → zz Γ (D, E, 24, ad, sh) (zz_End Γ (D, E, 24, ad, sh) (ql_T n) zz_none 10 60) 0 0 sh mi mr 96 [(0, .ref 2), (1, .ref 100), (2, .ref 101), (3, .ref 102), (4, .ref 103), (5, .ref 104), (6, .ref 105), (7, .ref 106), (8, .ref 107), (9, .ref 108), (10, .ref 109), (11, .int (nI 9)), (12, .int (nI one)), (13, .int (nI two)), (14, .int (nI q)), (15, .int (nI 1)), (16, .int (nI (zv_fr S q))), (17, .int (nI (zv_sk S q)))] [.int (nI f)] := by
      intro f hf
      have z_f : zn (nI f) = f := nI_clamp (n := f) (by omega)
      refine zz_istore (ls' := [(0, .ref 2), (1, .ref 100), (2, .ref 101), (3, .ref 102), (4, .ref 103), (5, .ref 104), (6, .ref 105), (7, .ref 106), (8, .ref 107), (9, .ref 108), (10, .ref 109), (11, .int (nI 9)), (12, .int (nI one)), (13, .int (nI two)), (14, .int (nI q)), (15, .int (nI 1)), (16, .int (nI (zv_fr S q))), (17, .int (nI (zv_sk S q))), (18, .int (nI f))]) hX dL_isStruck_96 (Nat.le_of_ble_eq_true rfl) rfl ?_
      refine zz_iload hX dL_isStruck_98 11 rfl ?_
      refine zz_if_ne hX 362 dL_isStruck_100 (by decide) (fun _ => ?_) (fun c => absurd c (by decide))
      refine zz_iload hX dL_isStruck_362 11 rfl ?_
      refine zz_iconst (v := nI 1) hX dL_isStruck_364 rfl ?_
      refine zz_icmp_ne hX 573 dL_isStruck_365 (by decide) (fun _ => ?_) (fun c => absurd c (by decide))
      refine zz_iload hX dL_isStruck_573 11 rfl ?_
      refine zz_iconst (v := nI 2) hX dL_isStruck_575 rfl ?_
      refine zz_icmp_ne hX 644 dL_isStruck_576 (by decide) (fun _ => ?_) (fun c => absurd c (by decide))
      refine zz_iload hX dL_isStruck_644 11 rfl ?_
      refine zz_iconst (v := nI 3) hX dL_isStruck_646 rfl ?_
      refine zz_icmp_ne hX 751 dL_isStruck_647 (by decide) (fun _ => ?_) (fun c => absurd c (by decide))
      refine zz_iload hX dL_isStruck_751 11 rfl ?_
      refine zz_iconst (v := nI 4) hX dL_isStruck_753 rfl ?_
      refine zz_icmp_ne hX 916 dL_isStruck_754 (by decide) (fun _ => ?_) (fun c => absurd c (by decide))
      refine zz_iload hX dL_isStruck_916 11 rfl ?_
      refine zz_iconst (v := nI 5) hX dL_isStruck_918 rfl ?_
      refine zz_icmp_ne hX 992 dL_isStruck_919 (by decide) (fun _ => ?_) (fun c => absurd c (by decide))
      refine zz_iload hX dL_isStruck_992 11 rfl ?_
      refine zz_bipush (v := nI 6) hX dL_isStruck_994 rfl ?_
      refine zz_icmp_ne hX 1128 dL_isStruck_996 (by decide) (fun _ => ?_) (fun c => absurd c (by decide))
      refine zz_iload hX dL_isStruck_1128 11 rfl ?_
      refine zz_bipush (v := nI 7) hX dL_isStruck_1130 rfl ?_
      refine zz_icmp_ne hX 1262 dL_isStruck_1132 (by decide) (fun _ => ?_) (fun c => absurd c (by decide))
      refine zz_iload hX dL_isStruck_1262 11 rfl ?_
      refine zz_bipush (v := nI 8) hX dL_isStruck_1264 rfl ?_
      refine zz_icmp_ne hX 1296 dL_isStruck_1266 (by decide) (fun _ => ?_) (fun c => absurd c (by decide))
      refine zz_iload hX dL_isStruck_1296 15 rfl ?_
      refine zz_if_eq hX 1311 dL_isStruck_1298 (by decide) (fun c => absurd c (by decide)) (fun _ => ?_)
      refine zz_aload hX dL_isStruck_1301 10 rfl ?_
      refine zz_iload hX dL_isStruck_1303 14 rfl ?_
      refine zz_sI (x := zp_cut S (nI q)) hX zf_M_L_172 (As := [.ref 109, .int (nI q)]) (st := []) (Q_inFilm n S sh mi mr hI q (by omega)) rfl rfl (by decide) (Nat.le_of_ble_eq_true rfl) (Nat.le_of_ble_eq_true rfl) (Nat.le_of_ble_eq_true rfl) dL_isStruck_1305 ?_
      refine zz_goto hX 1312 dL_isStruck_1308 (by decide) ?_
      refine zz_istore (ls' := [(0, .ref 2), (1, .ref 100), (2, .ref 101), (3, .ref 102), (4, .ref 103), (5, .ref 104), (6, .ref 105), (7, .ref 106), (8, .ref 107), (9, .ref 108), (10, .ref 109), (11, .int (nI 9)), (12, .int (nI one)), (13, .int (nI two)), (14, .int (nI q)), (15, .int (nI 1)), (16, .int (nI (zv_fr S q))), (17, .int (nI (zv_sk S q))), (18, .int (nI f)), (19, .int (zp_cut S (nI q)))]) hX dL_isStruck_1312 (Nat.le_of_ble_eq_true rfl) rfl ?_
      refine zz_iconst (v := nI 1) hX dL_isStruck_1314 rfl ?_
      refine zz_istore (ls' := [(0, .ref 2), (1, .ref 100), (2, .ref 101), (3, .ref 102), (4, .ref 103), (5, .ref 104), (6, .ref 105), (7, .ref 106), (8, .ref 107), (9, .ref 108), (10, .ref 109), (11, .int (nI 9)), (12, .int (nI one)), (13, .int (nI two)), (14, .int (nI q)), (15, .int (nI 1)), (16, .int (nI (zv_fr S q))), (17, .int (nI (zv_sk S q))), (18, .int (nI f)), (19, .int (zp_cut S (nI q))), (20, .int (nI 1))]) hX dL_isStruck_1315 (Nat.le_of_ble_eq_true rfl) rfl ?_
      refine zz_aload hX dL_isStruck_1317 10 rfl ?_
      refine zz_bipush (v := nI 6) hX dL_isStruck_1319 rfl ?_
      refine zz_iald (x := nI (ql_dw S (zv_nf S) 0)) hX (ql_s109 hI) 6 rfl (by decide) (by decide) ((ql_g6 hI)) dL_isStruck_1321 ?_
      refine zz_istore (ls' := [(0, .ref 2), (1, .ref 100), (2, .ref 101), (3, .ref 102), (4, .ref 103), (5, .ref 104), (6, .ref 105), (7, .ref 106), (8, .ref 107), (9, .ref 108), (10, .ref 109), (11, .int (nI 9)), (12, .int (nI one)), (13, .int (nI two)), (14, .int (nI q)), (15, .int (nI 1)), (16, .int (nI (zv_fr S q))), (17, .int (nI (zv_sk S q))), (18, .int (nI f)), (19, .int (zp_cut S (nI q))), (20, .int (nI 1)), (21, .int (nI (ql_dw S (zv_nf S) 0)))]) hX dL_isStruck_1322 (Nat.le_of_ble_eq_true rfl) rfl ?_
      refine zz_lcl (ls' := [(0, .ref 2), (1, .ref 100), (2, .ref 101), (3, .ref 102), (4, .ref 103), (5, .ref 104), (6, .ref 105), (7, .ref 106), (8, .ref 107), (9, .ref 108), (10, .ref 109), (11, .int (nI 9)), (12, .int (nI one)), (13, .int (nI two)), (14, .int (nI q)), (15, .int (nI 1)), (16, .int (nI (zv_fr S q))), (17, .int (nI (zv_sk S q))), (18, .int (nI f)), (19, .int (zp_cut S (nI q))), (20, .int (nI (10 ^ 0))), (21, .int (nI (ql_dw S (zv_nf S - 0) 0)))]) rfl ?_
      have L1324 : ∀ (k1324 : Nat) (k : Nat), zv_nf S - k < k1324 → (k ≤ zv_nf S) → zz Γ (D, E, 24, ad, sh) (zz_End Γ (D, E, 24, ad, sh) (ql_T n) zz_none 10 60) 0 0 sh mi mr 1324 [(0, .ref 2), (1, .ref 100), (2, .ref 101), (3, .ref 102), (4, .ref 103), (5, .ref 104), (6, .ref 105), (7, .ref 106), (8, .ref 107), (9, .ref 108), (10, .ref 109), (11, .int (nI 9)), (12, .int (nI one)), (13, .int (nI two)), (14, .int (nI q)), (15, .int (nI 1)), (16, .int (nI (zv_fr S q))), (17, .int (nI (zv_sk S q))), (18, .int (nI f)), (19, .int (zp_cut S (nI q))), (20, .int (nI (10 ^ k))), (21, .int (nI (ql_dw S (zv_nf S - k) k)))] [] := by
        intro k1324
        induction k1324 with
        | zero => intro k hk1324; exact absurd hk1324 (Nat.not_lt_zero _)
        | succ k1324 ih1324 =>
          intro k hk1324 hk9
          have hnm := ql_num hI
          have hb9 := ql_dwb hI k hk9
          have hz9 := ql_dw0 (S := S) hk9
          have hp9 : 10 ^ k ≤ 100000000 := Nat.le_trans (Nat.pow_le_pow_right (by decide) (show k ≤ 8 by omega)) (Nat.le_of_ble_eq_true rfl)
          have hp0 : 0 < 10 ^ k := Nat.pow_pos (by decide)
          refine zz_iload hX dL_isStruck_1324 21 rfl ?_
          refine zz_if_leN hX (by omega) 1365 dL_isStruck_1326 (by decide) (fun c1326 => ?_) (fun c1326 => ?_)
          · skip
            obtain rfl : k = zv_nf S := by omega
            by_cases u0 : zv_sk S q = zv_fr S q ∧ zp_cut S (nI q) = -1
            · skip
              have hn8 := (zp_cut_none (ql_W hI) g0 u0.2).2
              refine zz_iload hX dL_isStruck_1365 11 rfl ?_
              refine zz_bipush (v := nI 9) hX dL_isStruck_1367 rfl ?_
              refine zz_icmp_ne hX 1467 dL_isStruck_1369 (by decide) (fun c => absurd c (by decide)) (fun _ => ?_)
              refine zz_iload hX dL_isStruck_1372 15 rfl ?_
              refine zz_if_eq hX 1393 dL_isStruck_1374 (by decide) (fun c => absurd c (by decide)) (fun _ => ?_)
              refine zz_iload hX dL_isStruck_1377 17 rfl ?_
              refine zz_iload hX dL_isStruck_1379 16 rfl ?_
              refine zz_icmp_neN hX (by omega) (by omega) 1393 dL_isStruck_1381 (by decide) (fun c1381 => absurd c1381 (by omega)) (fun c1381 => ?_)
              refine zz_iload hX dL_isStruck_1384 19 rfl ?_
              refine zz_if_ge hX 1393 dL_isStruck_1386 (by decide) (fun c1386 => absurd c1386 (by rw [u0.2]; decide)) (fun c1386 => ?_)
              refine zz_iconst (v := nI 1) hX dL_isStruck_1389 rfl ?_
              refine zz_goto hX 1394 dL_isStruck_1390 (by decide) ?_
              refine zz_istore (ls' := [(0, .ref 2), (1, .ref 100), (2, .ref 101), (3, .ref 102), (4, .ref 103), (5, .ref 104), (6, .ref 105), (7, .ref 106), (8, .ref 107), (9, .ref 108), (10, .ref 109), (11, .int (nI 9)), (12, .int (nI one)), (13, .int (nI two)), (14, .int (nI q)), (15, .int (nI 1)), (16, .int (nI (zv_fr S q))), (17, .int (nI (zv_sk S q))), (18, .int (nI f)), (19, .int (zp_cut S (nI q))), (20, .int (nI (10 ^ (zv_nf S)))), (21, .int (nI 1))]) hX dL_isStruck_1394 (Nat.le_of_ble_eq_true rfl) rfl ?_
              refine zz_aload hX dL_isStruck_1396 10 rfl ?_
              refine zz_bipush (v := nI 6) hX dL_isStruck_1398 rfl ?_
              refine zz_dup2 hX dL_isStruck_1400 rfl rfl ?_
              refine zz_iald (x := nI (ql_dw S (zv_nf S) 0)) hX (ql_s109 hI) 6 rfl (by decide) (by decide) ((ql_g6 hI)) dL_isStruck_1401 ?_
              refine zz_iload hX dL_isStruck_1402 21 rfl ?_
              refine zz_if_eq hX 1417 dL_isStruck_1404 (by decide) (fun c => absurd c (by decide)) (fun _ => ?_)
              refine zz_iload hX dL_isStruck_1407 20 rfl ?_
              refine zz_iload hX dL_isStruck_1409 14 rfl ?_
              refine zz_iconst (v := nI 1) hX dL_isStruck_1411 rfl ?_
              refine zz_iadd (z := nI (q + 1)) hX dL_isStruck_1412 (nI_add _ _) ?_
              refine zz_imul (z := nI ((10 ^ (zv_nf S)) * (q + 1))) hX dL_isStruck_1413 (pk_mul _ _) ?_
              refine zz_goto hX 1418 dL_isStruck_1414 (by decide) ?_
              refine zz_iadd (z := nI (ql_dw S (zv_nf S) 0 + (10 ^ (zv_nf S)) * (q + 1))) hX dL_isStruck_1418 (nI_add _ _) ?_
              refine zz_iast hX (ql_s109 hI) 6 rfl (by decide) (by decide) dL_isStruck_1419 ?_
              refine zz_aload_n hX dL_isStruck_1420 0 rfl rfl ?_
              refine zz_bipush (v := nI 16) hX dL_isStruck_1421 rfl ?_
              refine zz_iload hX dL_isStruck_1423 14 rfl ?_
              refine zz_iconst (v := nI 0) hX dL_isStruck_1425 rfl ?_
              refine zz_iconst (v := nI 0) hX dL_isStruck_1426 rfl ?_
              refine zz_iconst (v := nI 0) hX dL_isStruck_1427 rfl ?_
              have hA9 : zs_ix (nI q) (zv_ns S) := zs_ix_nI g0 (by omega)
              have hC9 : (zv_fr S (zn (nI q)) ≤ zv_sk S (zn (nI q))) ∧ (zp_cut S (nI q) = -1) := by rw [z_q]; exact ⟨by omega, u0.2⟩
              refine zz_callSH hX zf_M_L_161 (As := [.ref 2, .int (nI 16), .int (nI q), .int (nI 0), .int (nI 0), .int (nI 0)]) (st := []) (D_cut S sh (zm_u2 mi 109 6 (nI (ql_dw S (zv_nf S) 0 + (10 ^ (zv_nf S)) * (q + 1)))) mr (ql_W hI) (ql_R_f (ql_W hI) hR (M := (zm_u2 mi 109 6 (nI (ql_dw S (zv_nf S) 0 + (10 ^ (zv_nf S)) * (q + 1))))) (fun l hl => zm_u2r (by omega))) (nI q) (nI 0) (nI 0) (nI 0)) rfl rfl (by decide) (Nat.le_of_ble_eq_true rfl) (Nat.le_of_ble_eq_true rfl) (Nat.le_of_ble_eq_true rfl) dL_isStruck_1428 ?_ (fun _ _ _ _ h _ => h.elim)
              rintro v9 s9 i9 m9 ⟨k9, rfl, hk9, hS9⟩ -
              obtain ⟨e9, hR9⟩ := zq_d1 hk9 hA9 trivial hC9
              simp only [z_q] at e9 hR9
              obtain rfl := e9.symm
              refine zz_iload hX dL_isStruck_1431 15 rfl ?_
              refine zz_if_ne hX 1441 dL_isStruck_1433 (by decide) (fun _ => ?_) (fun c => absurd c (by decide))
              refine zz_iload hX dL_isStruck_1441 21 rfl ?_
              refine zz_if_eq hX 1456 dL_isStruck_1443 (by decide) (fun c => absurd c (by decide)) (fun _ => ?_)
              have hJ9 : ql_J (n + 1) (zt_cut S q) s9 i9 m9 := ql_J_end hn (by have z := U_cut (ql_W hI) (nI q) hA9 trivial hC9; simp only [z_q] at z; exact z) (ql_B_s (ql_BB hI) (fun r hr => zt_cut_r (by omega) (by omega))) (ql_N_cut hI.2.2.2 (fun r a b => zt_cut_r a b) (ql_dw_cut (by omega) hn8).symm) hR9 hS9
              refine zz_aload hX dL_isStruck_1446 5 rfl ?_
              refine zz_aload hX dL_isStruck_1448 10 rfl ?_
              refine zz_sI (x := zp_film (zt_cut S q)) hX zf_M_L_178 (As := [.ref 104, .ref 109]) (st := [.int (zp_film (zt_cut S q))]) (Q_inAll (n + 1) (zt_cut S q) s9 i9 m9 hJ9.1) rfl rfl (by decide) (Nat.le_of_ble_eq_true rfl) (Nat.le_of_ble_eq_true rfl) (Nat.le_of_ble_eq_true rfl) dL_isStruck_1450 ?_
              refine zz_goto hX 1458 dL_isStruck_1453 (by decide) ?_
              refine zz_icmp_ne hX 1465 dL_isStruck_1458 (by decide) (fun c1458 => absurd rfl c1458) (fun c1458 => ?_)
              refine zz_iconst (v := nI 1) hX dL_isStruck_1461 rfl ?_
              refine zz_goto hX 1466 dL_isStruck_1462 (by decide) ?_
              refine zz_iret hX hr rfl (Nat.le_of_ble_eq_true rfl) (Nat.le_of_ble_eq_true rfl) dL_isStruck_1466 ?_
              exact ⟨rfl, ⟨_, hJ9⟩, ql_10 h10 hS9⟩
            · skip
              refine zz_iload hX dL_isStruck_1365 11 rfl ?_
              refine zz_bipush (v := nI 9) hX dL_isStruck_1367 rfl ?_
              refine zz_icmp_ne hX 1467 dL_isStruck_1369 (by decide) (fun c => absurd c (by decide)) (fun _ => ?_)
              refine zz_iload hX dL_isStruck_1372 15 rfl ?_
              refine zz_if_eq hX 1393 dL_isStruck_1374 (by decide) (fun c => absurd c (by decide)) (fun _ => ?_)
              have K1394 : zz Γ (D, E, 24, ad, sh) (zz_End Γ (D, E, 24, ad, sh) (ql_T n) zz_none 10 60) 0 0 sh mi mr 1394 [(0, .ref 2), (1, .ref 100), (2, .ref 101), (3, .ref 102), (4, .ref 103), (5, .ref 104), (6, .ref 105), (7, .ref 106), (8, .ref 107), (9, .ref 108), (10, .ref 109), (11, .int (nI 9)), (12, .int (nI one)), (13, .int (nI two)), (14, .int (nI q)), (15, .int (nI 1)), (16, .int (nI (zv_fr S q))), (17, .int (nI (zv_sk S q))), (18, .int (nI f)), (19, .int (zp_cut S (nI q))), (20, .int (nI (10 ^ (zv_nf S)))), (21, .int (nI (ql_dw S (zv_nf S - (zv_nf S)) (zv_nf S))))] [.int (nI 0)] := by
                refine zz_istore (ls' := [(0, .ref 2), (1, .ref 100), (2, .ref 101), (3, .ref 102), (4, .ref 103), (5, .ref 104), (6, .ref 105), (7, .ref 106), (8, .ref 107), (9, .ref 108), (10, .ref 109), (11, .int (nI 9)), (12, .int (nI one)), (13, .int (nI two)), (14, .int (nI q)), (15, .int (nI 1)), (16, .int (nI (zv_fr S q))), (17, .int (nI (zv_sk S q))), (18, .int (nI f)), (19, .int (zp_cut S (nI q))), (20, .int (nI (10 ^ (zv_nf S)))), (21, .int (nI 0))]) hX dL_isStruck_1394 (Nat.le_of_ble_eq_true rfl) rfl ?_
                refine zz_aload hX dL_isStruck_1396 10 rfl ?_
                refine zz_bipush (v := nI 6) hX dL_isStruck_1398 rfl ?_
                refine zz_dup2 hX dL_isStruck_1400 rfl rfl ?_
                refine zz_iald (x := nI (ql_dw S (zv_nf S) 0)) hX (ql_s109 hI) 6 rfl (by decide) (by decide) ((ql_g6 hI)) dL_isStruck_1401 ?_
                refine zz_iload hX dL_isStruck_1402 21 rfl ?_
                refine zz_if_eq hX 1417 dL_isStruck_1404 (by decide) (fun _ => ?_) (fun c => absurd c (by decide))
                refine zz_iconst (v := nI 0) hX dL_isStruck_1417 rfl ?_
                refine zz_iadd (z := nI (ql_dw S (zv_nf S) 0 + 0)) hX dL_isStruck_1418 (nI_add _ _) ?_
                refine zz_iast hX (ql_s109 hI) 6 rfl (by decide) (by decide) dL_isStruck_1419 ?_
                refine zz_aload_n hX dL_isStruck_1420 0 rfl rfl ?_
                refine zz_bipush (v := nI 16) hX dL_isStruck_1421 rfl ?_
                refine zz_iload hX dL_isStruck_1423 14 rfl ?_
                refine zz_iconst (v := nI 0) hX dL_isStruck_1425 rfl ?_
                refine zz_iconst (v := nI 0) hX dL_isStruck_1426 rfl ?_
                refine zz_iconst (v := nI 0) hX dL_isStruck_1427 rfl ?_
                have hA9 : zs_ix (nI q) (zv_ns S) := zs_ix_nI g0 (by omega)
                refine zz_callSH hX zf_M_L_161 (As := [.ref 2, .int (nI 16), .int (nI q), .int (nI 0), .int (nI 0), .int (nI 0)]) (st := []) (D_cut S sh (zm_u2 mi 109 6 (nI (ql_dw S (zv_nf S) 0 + 0))) mr (ql_W hI) (ql_R_f (ql_W hI) hR (M := (zm_u2 mi 109 6 (nI (ql_dw S (zv_nf S) 0 + 0)))) (fun l hl => zm_u2r (by omega))) (nI q) (nI 0) (nI 0) (nI 0)) rfl rfl (by decide) (Nat.le_of_ble_eq_true rfl) (Nat.le_of_ble_eq_true rfl) (Nat.le_of_ble_eq_true rfl) dL_isStruck_1428 ?_ (fun _ _ _ _ h _ => h.elim)
                rintro v9 s9 i9 m9 ⟨k9, rfl, hk9, hS9⟩ -
                obtain ⟨e9, hR9⟩ := zq_d4 hk9 hA9 trivial (fun h => by rw [z_q] at h; exact u0 ⟨by omega, h.2⟩)
                obtain rfl := e9.symm
                refine zz_iload hX dL_isStruck_1431 15 rfl ?_
                refine zz_if_ne hX 1441 dL_isStruck_1433 (by decide) (fun _ => ?_) (fun c => absurd c (by decide))
                refine zz_iload hX dL_isStruck_1441 21 rfl ?_
                refine zz_if_eq hX 1456 dL_isStruck_1443 (by decide) (fun _ => ?_) (fun c => absurd c (by decide))
                refine zz_ldc (v := -1000000) hX zw_con_L_90 dL_isStruck_1456 ?_
                refine zz_icmp_ne hX 1465 dL_isStruck_1458 (by decide) (fun c => absurd c (by decide)) (fun _ => ?_)
                refine zz_iconst (v := nI 1) hX dL_isStruck_1461 rfl ?_
                refine zz_goto hX 1466 dL_isStruck_1462 (by decide) ?_
                refine zz_iret hX hr rfl (Nat.le_of_ble_eq_true rfl) (Nat.le_of_ble_eq_true rfl) dL_isStruck_1466 ?_
                exact ⟨rfl, ⟨_, ql_J_end hn (ql_W hI) (ql_B_mono (ql_BB hI) (by omega)) (by rw [zm_u2_id ((show mi 109 6 = nI (ql_dw S (zv_nf S) 0 + 0) from ql_g6 hI))]; exact hI.2.2.2) hR9 hS9⟩, ql_10 h10 hS9⟩
              refine zz_iload hX dL_isStruck_1377 17 rfl ?_
              refine zz_iload hX dL_isStruck_1379 16 rfl ?_
              refine zz_icmp_neN hX (by omega) (by omega) 1393 dL_isStruck_1381 (by decide) (fun c1381 => ?_) (fun c1381 => ?_)
              · skip
                refine zz_iconst (v := nI 0) hX dL_isStruck_1393 rfl ?_
                exact zz_top (rfl) K1394
              · skip
                refine zz_iload hX dL_isStruck_1384 19 rfl ?_
                refine zz_if_ge hX 1393 dL_isStruck_1386 (by decide) (fun c1386 => ?_) (fun c1386 => absurd (zp_cut_0 n4 (fun z => u0 ⟨by omega, z⟩)) c1386)
                refine zz_iconst (v := nI 0) hX dL_isStruck_1393 rfl ?_
                exact zz_top (rfl) K1394
          · skip
            have hk8 : k < zv_nf S := by omega
            have hs9 := ql_dw_s hk8
            have hf9 := ql_film hI hk8
            have hb8 := ql_dwb hI (k + 1) (by omega)
            refine zz_iload hX dL_isStruck_1329 11 rfl ?_
            refine zz_bipush (v := nI 9) hX dL_isStruck_1331 rfl ?_
            refine zz_icmp_eq hX 1348 dL_isStruck_1333 (by decide) (fun _ => ?_) (fun c => absurd c (by decide))
            refine zz_iload hX dL_isStruck_1348 20 rfl ?_
            refine zz_bipush (v := nI 10) hX dL_isStruck_1350 rfl ?_
            refine zz_imul (z := nI ((10 ^ k) * 10)) hX dL_isStruck_1352 (pk_mul _ _) ?_
            refine zz_istore (ls' := [(0, .ref 2), (1, .ref 100), (2, .ref 101), (3, .ref 102), (4, .ref 103), (5, .ref 104), (6, .ref 105), (7, .ref 106), (8, .ref 107), (9, .ref 108), (10, .ref 109), (11, .int (nI 9)), (12, .int (nI one)), (13, .int (nI two)), (14, .int (nI q)), (15, .int (nI 1)), (16, .int (nI (zv_fr S q))), (17, .int (nI (zv_sk S q))), (18, .int (nI f)), (19, .int (zp_cut S (nI q))), (20, .int (nI ((10 ^ k) * 10))), (21, .int (nI (ql_dw S (zv_nf S - k) k)))]) hX dL_isStruck_1353 (Nat.le_of_ble_eq_true rfl) rfl ?_
            refine zz_iload hX dL_isStruck_1355 21 rfl ?_
            refine zz_bipush (v := nI 10) hX dL_isStruck_1357 rfl ?_
            refine zz_idiv (z := nI ((ql_dw S (zv_nf S - k) k) / 10)) hX dL_isStruck_1359 (by decide) (pk_div (by omega) (by decide) (by decide)) ?_
            refine zz_istore (ls' := [(0, .ref 2), (1, .ref 100), (2, .ref 101), (3, .ref 102), (4, .ref 103), (5, .ref 104), (6, .ref 105), (7, .ref 106), (8, .ref 107), (9, .ref 108), (10, .ref 109), (11, .int (nI 9)), (12, .int (nI one)), (13, .int (nI two)), (14, .int (nI q)), (15, .int (nI 1)), (16, .int (nI (zv_fr S q))), (17, .int (nI (zv_sk S q))), (18, .int (nI f)), (19, .int (zp_cut S (nI q))), (20, .int (nI ((10 ^ k) * 10))), (21, .int (nI ((ql_dw S (zv_nf S - k) k) / 10)))]) hX dL_isStruck_1360 (Nat.le_of_ble_eq_true rfl) rfl ?_
            refine zz_goto hX 1324 dL_isStruck_1362 (by decide) ?_
            refine zz_lcl (ls' := [(0, .ref 2), (1, .ref 100), (2, .ref 101), (3, .ref 102), (4, .ref 103), (5, .ref 104), (6, .ref 105), (7, .ref 106), (8, .ref 107), (9, .ref 108), (10, .ref 109), (11, .int (nI 9)), (12, .int (nI one)), (13, .int (nI two)), (14, .int (nI q)), (15, .int (nI 1)), (16, .int (nI (zv_fr S q))), (17, .int (nI (zv_sk S q))), (18, .int (nI f)), (19, .int (zp_cut S (nI q))), (20, .int (nI (10 ^ (k + 1)))), (21, .int (nI (ql_dw S (zv_nf S - (k + 1)) (k + 1))))]) (by rw [show 10 ^ (k + 1) = 10 ^ k * 10 from Nat.pow_succ .., show ql_dw S (zv_nf S - (k + 1)) (k + 1) = ql_dw S (zv_nf S - k) k / 10 by omega]) ?_
            exact ih1324 (k + 1) (by omega) (by omega)
      exact L1324 ((zv_nf S - 0 + 1)) 0 (by omega) (Nat.zero_le _)
    refine zz_iload hX dL_isStruck_63 12 rfl ?_
    refine zz_iconst (v := nI 4) hX dL_isStruck_65 rfl ?_
    refine zz_idiv (z := nI (one / 4)) hX dL_isStruck_66 (by decide) (pk_div (by omega) (by decide) (by decide)) ?_
    refine zz_bipush (v := nI 9) hX dL_isStruck_67 rfl ?_
    refine zz_irem (z := nI ((one / 4) % 9)) hX dL_isStruck_69 (by decide) (pk_rem (by omega) (by decide) (by decide)) ?_
    refine zz_bipush (v := nI 8) hX dL_isStruck_70 rfl ?_
    refine zz_icmp_neN hX (by omega) (by decide) 80 dL_isStruck_72 (by decide) (fun c72 => ?_) (fun c72 => ?_)
    · skip
      refine zz_iload hX dL_isStruck_80 16 rfl ?_
      refine zz_if_neN hX (by omega) 89 dL_isStruck_82 (by decide) (fun c82 => ?_) (fun c82 => absurd c82 (by omega))
      refine zz_iload hX dL_isStruck_89 12 rfl ?_
      refine zz_iconst (v := nI 4) hX dL_isStruck_91 rfl ?_
      refine zz_idiv (z := nI (one / 4)) hX dL_isStruck_92 (by decide) (pk_div (by omega) (by decide) (by decide)) ?_
      refine zz_iload hX dL_isStruck_93 16 rfl ?_
      refine zz_irem (z := nI ((one / 4) % (zv_fr S q))) hX dL_isStruck_95 (nI_ne0 (by omega) (by omega)) (pk_rem (by omega) (by omega) (by omega)) ?_
      exact K96 ((one / 4) % (zv_fr S q)) (by first | omega | exact Nat.le_of_lt (Nat.mod_lt _ (by omega)))
    · skip
      refine zz_iload hX dL_isStruck_75 16 rfl ?_
      refine zz_goto hX 96 dL_isStruck_77 (by decide) ?_
      exact K96 (zv_fr S q) (by first | omega | exact Nat.le_of_lt (Nat.mod_lt _ (by omega)))
  · skip
    refine zz_iload hX dL_isStruck_11 14 rfl ?_
    refine zz_aload hX dL_isStruck_13 10 rfl ?_
    refine zz_iconst (v := nI 2) hX dL_isStruck_15 rfl ?_
    refine zz_iald (x := nI (zv_ns S)) hX (ql_s109 hI) 2 rfl (by decide) (by decide) ((ql_g2 hI)) dL_isStruck_16 ?_
    refine zz_icmp_geN hX (by omega) (by omega) 24 dL_isStruck_17 (by decide) (fun c17 => ?_) (fun c17 => absurd c17 (by omega))
    refine zz_iconst (v := nI 0) hX dL_isStruck_24 rfl ?_
    refine zz_istore (ls' := [(0, .ref 2), (1, .ref 100), (2, .ref 101), (3, .ref 102), (4, .ref 103), (5, .ref 104), (6, .ref 105), (7, .ref 106), (8, .ref 107), (9, .ref 108), (10, .ref 109), (11, .int (nI 9)), (12, .int (nI one)), (13, .int (nI two)), (14, .int (nI q)), (15, .int (nI 0))]) hX dL_isStruck_25 (Nat.le_of_ble_eq_true rfl) rfl ?_
    refine zz_iload hX dL_isStruck_27 15 rfl ?_
    refine zz_if_eq hX 42 dL_isStruck_29 (by decide) (fun _ => ?_) (fun c => absurd c (by decide))
    refine zz_iconst (v := nI 0) hX dL_isStruck_42 rfl ?_
    refine zz_istore (ls' := [(0, .ref 2), (1, .ref 100), (2, .ref 101), (3, .ref 102), (4, .ref 103), (5, .ref 104), (6, .ref 105), (7, .ref 106), (8, .ref 107), (9, .ref 108), (10, .ref 109), (11, .int (nI 9)), (12, .int (nI one)), (13, .int (nI two)), (14, .int (nI q)), (15, .int (nI 0)), (16, .int (nI 0))]) hX dL_isStruck_43 (Nat.le_of_ble_eq_true rfl) rfl ?_
    refine zz_iload hX dL_isStruck_45 15 rfl ?_
    refine zz_if_eq hX 60 dL_isStruck_47 (by decide) (fun _ => ?_) (fun c => absurd c (by decide))
    refine zz_iconst (v := nI 0) hX dL_isStruck_60 rfl ?_
    refine zz_istore (ls' := [(0, .ref 2), (1, .ref 100), (2, .ref 101), (3, .ref 102), (4, .ref 103), (5, .ref 104), (6, .ref 105), (7, .ref 106), (8, .ref 107), (9, .ref 108), (10, .ref 109), (11, .int (nI 9)), (12, .int (nI one)), (13, .int (nI two)), (14, .int (nI q)), (15, .int (nI 0)), (16, .int (nI 0)), (17, .int (nI 0))]) hX dL_isStruck_61 (Nat.le_of_ble_eq_true rfl) rfl ?_
    have K96 : zz Γ (D, E, 24, ad, sh) (zz_End Γ (D, E, 24, ad, sh) (ql_T n) zz_none 10 60) 0 0 sh mi mr 96 [(0, .ref 2), (1, .ref 100), (2, .ref 101), (3, .ref 102), (4, .ref 103), (5, .ref 104), (6, .ref 105), (7, .ref 106), (8, .ref 107), (9, .ref 108), (10, .ref 109), (11, .int (nI 9)), (12, .int (nI one)), (13, .int (nI two)), (14, .int (nI q)), (15, .int (nI 0)), (16, .int (nI 0)), (17, .int (nI 0))] [.int (nI 0)] := by
      refine zz_istore (ls' := [(0, .ref 2), (1, .ref 100), (2, .ref 101), (3, .ref 102), (4, .ref 103), (5, .ref 104), (6, .ref 105), (7, .ref 106), (8, .ref 107), (9, .ref 108), (10, .ref 109), (11, .int (nI 9)), (12, .int (nI one)), (13, .int (nI two)), (14, .int (nI q)), (15, .int (nI 0)), (16, .int (nI 0)), (17, .int (nI 0)), (18, .int (nI 0))]) hX dL_isStruck_96 (Nat.le_of_ble_eq_true rfl) rfl ?_
      refine zz_iload hX dL_isStruck_98 11 rfl ?_
      refine zz_if_ne hX 362 dL_isStruck_100 (by decide) (fun _ => ?_) (fun c => absurd c (by decide))
      refine zz_iload hX dL_isStruck_362 11 rfl ?_
      refine zz_iconst (v := nI 1) hX dL_isStruck_364 rfl ?_
      refine zz_icmp_ne hX 573 dL_isStruck_365 (by decide) (fun _ => ?_) (fun c => absurd c (by decide))
      refine zz_iload hX dL_isStruck_573 11 rfl ?_
      refine zz_iconst (v := nI 2) hX dL_isStruck_575 rfl ?_
      refine zz_icmp_ne hX 644 dL_isStruck_576 (by decide) (fun _ => ?_) (fun c => absurd c (by decide))
      refine zz_iload hX dL_isStruck_644 11 rfl ?_
      refine zz_iconst (v := nI 3) hX dL_isStruck_646 rfl ?_
      refine zz_icmp_ne hX 751 dL_isStruck_647 (by decide) (fun _ => ?_) (fun c => absurd c (by decide))
      refine zz_iload hX dL_isStruck_751 11 rfl ?_
      refine zz_iconst (v := nI 4) hX dL_isStruck_753 rfl ?_
      refine zz_icmp_ne hX 916 dL_isStruck_754 (by decide) (fun _ => ?_) (fun c => absurd c (by decide))
      refine zz_iload hX dL_isStruck_916 11 rfl ?_
      refine zz_iconst (v := nI 5) hX dL_isStruck_918 rfl ?_
      refine zz_icmp_ne hX 992 dL_isStruck_919 (by decide) (fun _ => ?_) (fun c => absurd c (by decide))
      refine zz_iload hX dL_isStruck_992 11 rfl ?_
      refine zz_bipush (v := nI 6) hX dL_isStruck_994 rfl ?_
      refine zz_icmp_ne hX 1128 dL_isStruck_996 (by decide) (fun _ => ?_) (fun c => absurd c (by decide))
      refine zz_iload hX dL_isStruck_1128 11 rfl ?_
      refine zz_bipush (v := nI 7) hX dL_isStruck_1130 rfl ?_
      refine zz_icmp_ne hX 1262 dL_isStruck_1132 (by decide) (fun _ => ?_) (fun c => absurd c (by decide))
      refine zz_iload hX dL_isStruck_1262 11 rfl ?_
      refine zz_bipush (v := nI 8) hX dL_isStruck_1264 rfl ?_
      refine zz_icmp_ne hX 1296 dL_isStruck_1266 (by decide) (fun _ => ?_) (fun c => absurd c (by decide))
      refine zz_iload hX dL_isStruck_1296 15 rfl ?_
      refine zz_if_eq hX 1311 dL_isStruck_1298 (by decide) (fun _ => ?_) (fun c => absurd c (by decide))
      refine zz_iconst (v := (-1)) hX dL_isStruck_1311 rfl ?_
      refine zz_istore (ls' := [(0, .ref 2), (1, .ref 100), (2, .ref 101), (3, .ref 102), (4, .ref 103), (5, .ref 104), (6, .ref 105), (7, .ref 106), (8, .ref 107), (9, .ref 108), (10, .ref 109), (11, .int (nI 9)), (12, .int (nI one)), (13, .int (nI two)), (14, .int (nI q)), (15, .int (nI 0)), (16, .int (nI 0)), (17, .int (nI 0)), (18, .int (nI 0)), (19, .int (-1))]) hX dL_isStruck_1312 (Nat.le_of_ble_eq_true rfl) rfl ?_
      refine zz_iconst (v := nI 1) hX dL_isStruck_1314 rfl ?_
      refine zz_istore (ls' := [(0, .ref 2), (1, .ref 100), (2, .ref 101), (3, .ref 102), (4, .ref 103), (5, .ref 104), (6, .ref 105), (7, .ref 106), (8, .ref 107), (9, .ref 108), (10, .ref 109), (11, .int (nI 9)), (12, .int (nI one)), (13, .int (nI two)), (14, .int (nI q)), (15, .int (nI 0)), (16, .int (nI 0)), (17, .int (nI 0)), (18, .int (nI 0)), (19, .int (-1)), (20, .int (nI 1))]) hX dL_isStruck_1315 (Nat.le_of_ble_eq_true rfl) rfl ?_
      refine zz_aload hX dL_isStruck_1317 10 rfl ?_
      refine zz_bipush (v := nI 6) hX dL_isStruck_1319 rfl ?_
      refine zz_iald (x := nI (ql_dw S (zv_nf S) 0)) hX (ql_s109 hI) 6 rfl (by decide) (by decide) ((ql_g6 hI)) dL_isStruck_1321 ?_
      refine zz_istore (ls' := [(0, .ref 2), (1, .ref 100), (2, .ref 101), (3, .ref 102), (4, .ref 103), (5, .ref 104), (6, .ref 105), (7, .ref 106), (8, .ref 107), (9, .ref 108), (10, .ref 109), (11, .int (nI 9)), (12, .int (nI one)), (13, .int (nI two)), (14, .int (nI q)), (15, .int (nI 0)), (16, .int (nI 0)), (17, .int (nI 0)), (18, .int (nI 0)), (19, .int (-1)), (20, .int (nI 1)), (21, .int (nI (ql_dw S (zv_nf S) 0)))]) hX dL_isStruck_1322 (Nat.le_of_ble_eq_true rfl) rfl ?_
      refine zz_lcl (ls' := [(0, .ref 2), (1, .ref 100), (2, .ref 101), (3, .ref 102), (4, .ref 103), (5, .ref 104), (6, .ref 105), (7, .ref 106), (8, .ref 107), (9, .ref 108), (10, .ref 109), (11, .int (nI 9)), (12, .int (nI one)), (13, .int (nI two)), (14, .int (nI q)), (15, .int (nI 0)), (16, .int (nI 0)), (17, .int (nI 0)), (18, .int (nI 0)), (19, .int (-1)), (20, .int (nI (10 ^ 0))), (21, .int (nI (ql_dw S (zv_nf S - 0) 0)))]) rfl ?_
      have L1324 : ∀ (k1324 : Nat) (k : Nat), zv_nf S - k < k1324 → (k ≤ zv_nf S) → zz Γ (D, E, 24, ad, sh) (zz_End Γ (D, E, 24, ad, sh) (ql_T n) zz_none 10 60) 0 0 sh mi mr 1324 [(0, .ref 2), (1, .ref 100), (2, .ref 101), (3, .ref 102), (4, .ref 103), (5, .ref 104), (6, .ref 105), (7, .ref 106), (8, .ref 107), (9, .ref 108), (10, .ref 109), (11, .int (nI 9)), (12, .int (nI one)), (13, .int (nI two)), (14, .int (nI q)), (15, .int (nI 0)), (16, .int (nI 0)), (17, .int (nI 0)), (18, .int (nI 0)), (19, .int (-1)), (20, .int (nI (10 ^ k))), (21, .int (nI (ql_dw S (zv_nf S - k) k)))] [] := by
        intro k1324
        induction k1324 with
        | zero => intro k hk1324; exact absurd hk1324 (Nat.not_lt_zero _)
        | succ k1324 ih1324 =>
          intro k hk1324 hk9
          have hnm := ql_num hI
          have hb9 := ql_dwb hI k hk9
          have hz9 := ql_dw0 (S := S) hk9
          have hp9 : 10 ^ k ≤ 100000000 := Nat.le_trans (Nat.pow_le_pow_right (by decide) (show k ≤ 8 by omega)) (Nat.le_of_ble_eq_true rfl)
          have hp0 : 0 < 10 ^ k := Nat.pow_pos (by decide)
          refine zz_iload hX dL_isStruck_1324 21 rfl ?_
          refine zz_if_leN hX (by omega) 1365 dL_isStruck_1326 (by decide) (fun c1326 => ?_) (fun c1326 => ?_)
          · skip
            obtain rfl : k = zv_nf S := by omega
            refine zz_iload hX dL_isStruck_1365 11 rfl ?_
            refine zz_bipush (v := nI 9) hX dL_isStruck_1367 rfl ?_
            refine zz_icmp_ne hX 1467 dL_isStruck_1369 (by decide) (fun c => absurd c (by decide)) (fun _ => ?_)
            refine zz_iload hX dL_isStruck_1372 15 rfl ?_
            refine zz_if_eq hX 1393 dL_isStruck_1374 (by decide) (fun _ => ?_) (fun c => absurd c (by decide))
            refine zz_iconst (v := nI 0) hX dL_isStruck_1393 rfl ?_
            refine zz_istore (ls' := [(0, .ref 2), (1, .ref 100), (2, .ref 101), (3, .ref 102), (4, .ref 103), (5, .ref 104), (6, .ref 105), (7, .ref 106), (8, .ref 107), (9, .ref 108), (10, .ref 109), (11, .int (nI 9)), (12, .int (nI one)), (13, .int (nI two)), (14, .int (nI q)), (15, .int (nI 0)), (16, .int (nI 0)), (17, .int (nI 0)), (18, .int (nI 0)), (19, .int (-1)), (20, .int (nI (10 ^ (zv_nf S)))), (21, .int (nI 0))]) hX dL_isStruck_1394 (Nat.le_of_ble_eq_true rfl) rfl ?_
            refine zz_aload hX dL_isStruck_1396 10 rfl ?_
            refine zz_bipush (v := nI 6) hX dL_isStruck_1398 rfl ?_
            refine zz_dup2 hX dL_isStruck_1400 rfl rfl ?_
            refine zz_iald (x := nI (ql_dw S (zv_nf S) 0)) hX (ql_s109 hI) 6 rfl (by decide) (by decide) ((ql_g6 hI)) dL_isStruck_1401 ?_
            refine zz_iload hX dL_isStruck_1402 21 rfl ?_
            refine zz_if_eq hX 1417 dL_isStruck_1404 (by decide) (fun _ => ?_) (fun c => absurd c (by decide))
            refine zz_iconst (v := nI 0) hX dL_isStruck_1417 rfl ?_
            refine zz_iadd (z := nI (ql_dw S (zv_nf S) 0 + 0)) hX dL_isStruck_1418 (nI_add _ _) ?_
            refine zz_iast hX (ql_s109 hI) 6 rfl (by decide) (by decide) dL_isStruck_1419 ?_
            refine zz_aload_n hX dL_isStruck_1420 0 rfl rfl ?_
            refine zz_bipush (v := nI 16) hX dL_isStruck_1421 rfl ?_
            refine zz_iload hX dL_isStruck_1423 14 rfl ?_
            refine zz_iconst (v := nI 0) hX dL_isStruck_1425 rfl ?_
            refine zz_iconst (v := nI 0) hX dL_isStruck_1426 rfl ?_
            refine zz_iconst (v := nI 0) hX dL_isStruck_1427 rfl ?_
            refine zz_callSH hX zf_M_L_161 (As := [.ref 2, .int (nI 16), .int (nI q), .int (nI 0), .int (nI 0), .int (nI 0)]) (st := []) (D_cut S sh (zm_u2 mi 109 6 (nI (ql_dw S (zv_nf S) 0 + 0))) mr (ql_W hI) (ql_R_f (ql_W hI) hR (M := (zm_u2 mi 109 6 (nI (ql_dw S (zv_nf S) 0 + 0)))) (fun l hl => zm_u2r (by omega))) (nI q) (nI 0) (nI 0) (nI 0)) rfl rfl (by decide) (Nat.le_of_ble_eq_true rfl) (Nat.le_of_ble_eq_true rfl) (Nat.le_of_ble_eq_true rfl) dL_isStruck_1428 ?_ (fun _ _ _ _ h _ => h.elim)
            rintro v9 s9 i9 m9 ⟨k9, rfl, hk9, hS9⟩ -
            obtain ⟨e9, hR9⟩ := zq_d2 hk9 (fun h => g0 (zs_ixl h (by omega)))
            obtain rfl := e9.symm
            refine zz_iload hX dL_isStruck_1431 15 rfl ?_
            refine zz_if_ne hX 1441 dL_isStruck_1433 (by decide) (fun c => absurd c (by decide)) (fun _ => ?_)
            refine zz_ldc (v := -3000000) hX zw_con_L_84 dL_isStruck_1436 ?_
            refine zz_goto hX 1458 dL_isStruck_1438 (by decide) ?_
            refine zz_icmp_ne hX 1465 dL_isStruck_1458 (by decide) (fun c => absurd c (by decide)) (fun _ => ?_)
            refine zz_iconst (v := nI 1) hX dL_isStruck_1461 rfl ?_
            refine zz_goto hX 1466 dL_isStruck_1462 (by decide) ?_
            refine zz_iret hX hr rfl (Nat.le_of_ble_eq_true rfl) (Nat.le_of_ble_eq_true rfl) dL_isStruck_1466 ?_
            exact ⟨rfl, ⟨_, ql_J_end hn (ql_W hI) (ql_B_mono (ql_BB hI) (by omega)) (by rw [zm_u2_id ((show mi 109 6 = nI (ql_dw S (zv_nf S) 0 + 0) from ql_g6 hI))]; exact hI.2.2.2) hR9 hS9⟩, ql_10 h10 hS9⟩
          · skip
            have hk8 : k < zv_nf S := by omega
            have hs9 := ql_dw_s hk8
            have hf9 := ql_film hI hk8
            have hb8 := ql_dwb hI (k + 1) (by omega)
            refine zz_iload hX dL_isStruck_1329 11 rfl ?_
            refine zz_bipush (v := nI 9) hX dL_isStruck_1331 rfl ?_
            refine zz_icmp_eq hX 1348 dL_isStruck_1333 (by decide) (fun _ => ?_) (fun c => absurd c (by decide))
            refine zz_iload hX dL_isStruck_1348 20 rfl ?_
            refine zz_bipush (v := nI 10) hX dL_isStruck_1350 rfl ?_
            refine zz_imul (z := nI ((10 ^ k) * 10)) hX dL_isStruck_1352 (pk_mul _ _) ?_
            refine zz_istore (ls' := [(0, .ref 2), (1, .ref 100), (2, .ref 101), (3, .ref 102), (4, .ref 103), (5, .ref 104), (6, .ref 105), (7, .ref 106), (8, .ref 107), (9, .ref 108), (10, .ref 109), (11, .int (nI 9)), (12, .int (nI one)), (13, .int (nI two)), (14, .int (nI q)), (15, .int (nI 0)), (16, .int (nI 0)), (17, .int (nI 0)), (18, .int (nI 0)), (19, .int (-1)), (20, .int (nI ((10 ^ k) * 10))), (21, .int (nI (ql_dw S (zv_nf S - k) k)))]) hX dL_isStruck_1353 (Nat.le_of_ble_eq_true rfl) rfl ?_
            refine zz_iload hX dL_isStruck_1355 21 rfl ?_
            refine zz_bipush (v := nI 10) hX dL_isStruck_1357 rfl ?_
            refine zz_idiv (z := nI ((ql_dw S (zv_nf S - k) k) / 10)) hX dL_isStruck_1359 (by decide) (pk_div (by omega) (by decide) (by decide)) ?_
            refine zz_istore (ls' := [(0, .ref 2), (1, .ref 100), (2, .ref 101), (3, .ref 102), (4, .ref 103), (5, .ref 104), (6, .ref 105), (7, .ref 106), (8, .ref 107), (9, .ref 108), (10, .ref 109), (11, .int (nI 9)), (12, .int (nI one)), (13, .int (nI two)), (14, .int (nI q)), (15, .int (nI 0)), (16, .int (nI 0)), (17, .int (nI 0)), (18, .int (nI 0)), (19, .int (-1)), (20, .int (nI ((10 ^ k) * 10))), (21, .int (nI ((ql_dw S (zv_nf S - k) k) / 10)))]) hX dL_isStruck_1360 (Nat.le_of_ble_eq_true rfl) rfl ?_
            refine zz_goto hX 1324 dL_isStruck_1362 (by decide) ?_
            refine zz_lcl (ls' := [(0, .ref 2), (1, .ref 100), (2, .ref 101), (3, .ref 102), (4, .ref 103), (5, .ref 104), (6, .ref 105), (7, .ref 106), (8, .ref 107), (9, .ref 108), (10, .ref 109), (11, .int (nI 9)), (12, .int (nI one)), (13, .int (nI two)), (14, .int (nI q)), (15, .int (nI 0)), (16, .int (nI 0)), (17, .int (nI 0)), (18, .int (nI 0)), (19, .int (-1)), (20, .int (nI (10 ^ (k + 1)))), (21, .int (nI (ql_dw S (zv_nf S - (k + 1)) (k + 1))))]) (by rw [show 10 ^ (k + 1) = 10 ^ k * 10 from Nat.pow_succ .., show ql_dw S (zv_nf S - (k + 1)) (k + 1) = ql_dw S (zv_nf S - k) k / 10 by omega]) ?_
            exact ih1324 (k + 1) (by omega) (by omega)
      exact L1324 ((zv_nf S - 0 + 1)) 0 (by omega) (Nat.zero_le _)
    refine zz_iload hX dL_isStruck_63 12 rfl ?_
    refine zz_iconst (v := nI 4) hX dL_isStruck_65 rfl ?_
    refine zz_idiv (z := nI (one / 4)) hX dL_isStruck_66 (by decide) (pk_div (by omega) (by decide) (by decide)) ?_
    refine zz_bipush (v := nI 9) hX dL_isStruck_67 rfl ?_
    refine zz_irem (z := nI ((one / 4) % 9)) hX dL_isStruck_69 (by decide) (pk_rem (by omega) (by decide) (by decide)) ?_
    refine zz_bipush (v := nI 8) hX dL_isStruck_70 rfl ?_
    refine zz_icmp_neN hX (by omega) (by decide) 80 dL_isStruck_72 (by decide) (fun c72 => ?_) (fun c72 => ?_)
    · skip
      refine zz_iload hX dL_isStruck_80 16 rfl ?_
      refine zz_if_ne hX 89 dL_isStruck_82 (by decide) (fun c => absurd c (by decide)) (fun _ => ?_)
      refine zz_iconst (v := nI 0) hX dL_isStruck_85 rfl ?_
      refine zz_goto hX 96 dL_isStruck_86 (by decide) ?_
      exact zz_top (rfl) K96
    · skip
      refine zz_iload hX dL_isStruck_75 16 rfl ?_
      refine zz_goto hX 96 dL_isStruck_77 (by decide) ?_
      exact zz_top (rfl) K96

set_option maxHeartbeats 1000000 in
set_option maxRecDepth 20000 in
theorem S_out (n : Nat) (hn : n + 1 ≤ 64) (S : zS) (sh : zm_Sh) (mi : zm_Mi) (mr : zm_Mr) (hI : ql_I n S sh mi) (hR : zR S sh mi mr) (h10 : sh 10 = some (9, 0)) (one two : Nat) (ho : one < 60000) (ht : two < 60000)  : zz_Con yL_isStruck (.code yL_isStruck cL_isStruck 24 (some Jvm.ClassFile.FieldType.boolean)) 12 10 60 [.ref 2, .ref 100, .ref 101, .ref 102, .ref 103, .ref 104, .ref 105, .ref 106, .ref 107, .ref 108, .ref 109, .int (nI 10), .int (nI one), .int (nI two)] sh mi mr (ql_T n) zz_none := by
  refine zz_begin RL [(0, .ref 2), (1, .ref 100), (2, .ref 101), (3, .ref 102), (4, .ref 103), (5, .ref 104), (6, .ref 105), (7, .ref 106), (8, .ref 107), (9, .ref 108), (10, .ref 109), (11, .int (nI 10)), (12, .int (nI one)), (13, .int (nI two))] (by decide) rfl rfl (Nat.le_of_ble_eq_true rfl) rfl ?_
  intro Γ D E ad hX hr hN hT
  obtain ⟨n1, n2, n3, n4⟩ := ql_num hI
  have hsm := ql_small hI
  refine zz_iload hX dL_isStruck_0 12 rfl ?_
  refine zz_aload hX dL_isStruck_2 10 rfl ?_
  refine zz_iconst (v := nI 2) hX dL_isStruck_4 rfl ?_
  refine zz_iald (x := nI (zv_ns S)) hX (ql_s109 hI) 2 rfl (by decide) (by decide) ((ql_g2 hI)) dL_isStruck_5 ?_
  refine zz_iconst (v := nI 1) hX dL_isStruck_6 rfl ?_
  refine zz_iadd (z := nI (zv_ns S + 1)) hX dL_isStruck_7 (nI_add _ _) ?_
  refine zz_irem (z := nI (one % (zv_ns S + 1))) hX dL_isStruck_8 (nI_ne0 (by omega) (by omega)) (pk_rem (by omega) (by omega) (by omega)) ?_
  have hq9 : one % (zv_ns S + 1) < zv_ns S + 1 := Nat.mod_lt _ (by omega)
  generalize one % (zv_ns S + 1) = q at hq9 ⊢
  have z_q : zn (nI q) = q := nI_clamp (n := q) (by omega)
  refine zz_istore (ls' := [(0, .ref 2), (1, .ref 100), (2, .ref 101), (3, .ref 102), (4, .ref 103), (5, .ref 104), (6, .ref 105), (7, .ref 106), (8, .ref 107), (9, .ref 108), (10, .ref 109), (11, .int (nI 10)), (12, .int (nI one)), (13, .int (nI two)), (14, .int (nI q))]) hX dL_isStruck_9 (Nat.le_of_ble_eq_true rfl) rfl ?_
  by_cases g0 : q < zv_ns S
  · skip
    have hwq := ql_hw_lt hI g0
    obtain ⟨q1, q2, q3, q4, q5, q6, q7, q8, q9, q10, q11, q12⟩ := ql_shot hI g0
    refine zz_iload hX dL_isStruck_11 14 rfl ?_
    refine zz_aload hX dL_isStruck_13 10 rfl ?_
    refine zz_iconst (v := nI 2) hX dL_isStruck_15 rfl ?_
    refine zz_iald (x := nI (zv_ns S)) hX (ql_s109 hI) 2 rfl (by decide) (by decide) ((ql_g2 hI)) dL_isStruck_16 ?_
    refine zz_icmp_geN hX (by omega) (by omega) 24 dL_isStruck_17 (by decide) (fun c17 => absurd c17 (by omega)) (fun c17 => ?_)
    refine zz_iconst (v := nI 1) hX dL_isStruck_20 rfl ?_
    refine zz_goto hX 25 dL_isStruck_21 (by decide) ?_
    refine zz_istore (ls' := [(0, .ref 2), (1, .ref 100), (2, .ref 101), (3, .ref 102), (4, .ref 103), (5, .ref 104), (6, .ref 105), (7, .ref 106), (8, .ref 107), (9, .ref 108), (10, .ref 109), (11, .int (nI 10)), (12, .int (nI one)), (13, .int (nI two)), (14, .int (nI q)), (15, .int (nI 1))]) hX dL_isStruck_25 (Nat.le_of_ble_eq_true rfl) rfl ?_
    refine zz_iload hX dL_isStruck_27 15 rfl ?_
    refine zz_if_eq hX 42 dL_isStruck_29 (by decide) (fun c => absurd c (by decide)) (fun _ => ?_)
    refine zz_aload hX dL_isStruck_32 5 rfl ?_
    refine zz_iload hX dL_isStruck_34 14 rfl ?_
    refine zz_sI (x := nI (zv_fr S q)) hX zf_M_L_105 (As := [.ref 104, .int (nI q)]) (st := []) (Q_frames n S sh mi mr hI q (by omega)) rfl rfl (by decide) (Nat.le_of_ble_eq_true rfl) (Nat.le_of_ble_eq_true rfl) (Nat.le_of_ble_eq_true rfl) dL_isStruck_36 ?_
    refine zz_goto hX 43 dL_isStruck_39 (by decide) ?_
    refine zz_istore (ls' := [(0, .ref 2), (1, .ref 100), (2, .ref 101), (3, .ref 102), (4, .ref 103), (5, .ref 104), (6, .ref 105), (7, .ref 106), (8, .ref 107), (9, .ref 108), (10, .ref 109), (11, .int (nI 10)), (12, .int (nI one)), (13, .int (nI two)), (14, .int (nI q)), (15, .int (nI 1)), (16, .int (nI (zv_fr S q)))]) hX dL_isStruck_43 (Nat.le_of_ble_eq_true rfl) rfl ?_
    refine zz_iload hX dL_isStruck_45 15 rfl ?_
    refine zz_if_eq hX 60 dL_isStruck_47 (by decide) (fun c => absurd c (by decide)) (fun _ => ?_)
    refine zz_aload hX dL_isStruck_50 5 rfl ?_
    refine zz_iload hX dL_isStruck_52 14 rfl ?_
    refine zz_sI (x := nI (zv_sk S q)) hX zf_M_L_101 (As := [.ref 104, .int (nI q)]) (st := []) (Q_struck n S sh mi mr hI q (by omega)) rfl rfl (by decide) (Nat.le_of_ble_eq_true rfl) (Nat.le_of_ble_eq_true rfl) (Nat.le_of_ble_eq_true rfl) dL_isStruck_54 ?_
    refine zz_goto hX 61 dL_isStruck_57 (by decide) ?_
    refine zz_istore (ls' := [(0, .ref 2), (1, .ref 100), (2, .ref 101), (3, .ref 102), (4, .ref 103), (5, .ref 104), (6, .ref 105), (7, .ref 106), (8, .ref 107), (9, .ref 108), (10, .ref 109), (11, .int (nI 10)), (12, .int (nI one)), (13, .int (nI two)), (14, .int (nI q)), (15, .int (nI 1)), (16, .int (nI (zv_fr S q))), (17, .int (nI (zv_sk S q)))]) hX dL_isStruck_61 (Nat.le_of_ble_eq_true rfl) rfl ?_
    have K96 : ∀ f : Nat, f ≤ zv_fr S q → zz Γ (D, E, 24, ad, sh) (zz_End Γ (D, E, 24, ad, sh) (ql_T n) zz_none 10 60) 0 0 sh mi mr 96 [(0, .ref 2), (1, .ref 100), (2, .ref 101), (3, .ref 102), (4, .ref 103), (5, .ref 104), (6, .ref 105), (7, .ref 106), (8, .ref 107), (9, .ref 108), (10, .ref 109), (11, .int (nI 10)), (12, .int (nI one)), (13, .int (nI two)), (14, .int (nI q)), (15, .int (nI 1)), (16, .int (nI (zv_fr S q))), (17, .int (nI (zv_sk S q)))] [.int (nI f)] := by
      intro f hf
      have z_f : zn (nI f) = f := nI_clamp (n := f) (by omega)
      refine zz_istore (ls' := [(0, .ref 2), (1, .ref 100), (2, .ref 101), (3, .ref 102), (4, .ref 103), (5, .ref 104), (6, .ref 105), (7, .ref 106), (8, .ref 107), (9, .ref 108), (10, .ref 109), (11, .int (nI 10)), (12, .int (nI one)), (13, .int (nI two)), (14, .int (nI q)), (15, .int (nI 1)), (16, .int (nI (zv_fr S q))), (17, .int (nI (zv_sk S q))), (18, .int (nI f))]) hX dL_isStruck_96 (Nat.le_of_ble_eq_true rfl) rfl ?_
      refine zz_iload hX dL_isStruck_98 11 rfl ?_
      refine zz_if_ne hX 362 dL_isStruck_100 (by decide) (fun _ => ?_) (fun c => absurd c (by decide))
      refine zz_iload hX dL_isStruck_362 11 rfl ?_
      refine zz_iconst (v := nI 1) hX dL_isStruck_364 rfl ?_
      refine zz_icmp_ne hX 573 dL_isStruck_365 (by decide) (fun _ => ?_) (fun c => absurd c (by decide))
      refine zz_iload hX dL_isStruck_573 11 rfl ?_
      refine zz_iconst (v := nI 2) hX dL_isStruck_575 rfl ?_
      refine zz_icmp_ne hX 644 dL_isStruck_576 (by decide) (fun _ => ?_) (fun c => absurd c (by decide))
      refine zz_iload hX dL_isStruck_644 11 rfl ?_
      refine zz_iconst (v := nI 3) hX dL_isStruck_646 rfl ?_
      refine zz_icmp_ne hX 751 dL_isStruck_647 (by decide) (fun _ => ?_) (fun c => absurd c (by decide))
      refine zz_iload hX dL_isStruck_751 11 rfl ?_
      refine zz_iconst (v := nI 4) hX dL_isStruck_753 rfl ?_
      refine zz_icmp_ne hX 916 dL_isStruck_754 (by decide) (fun _ => ?_) (fun c => absurd c (by decide))
      refine zz_iload hX dL_isStruck_916 11 rfl ?_
      refine zz_iconst (v := nI 5) hX dL_isStruck_918 rfl ?_
      refine zz_icmp_ne hX 992 dL_isStruck_919 (by decide) (fun _ => ?_) (fun c => absurd c (by decide))
      refine zz_iload hX dL_isStruck_992 11 rfl ?_
      refine zz_bipush (v := nI 6) hX dL_isStruck_994 rfl ?_
      refine zz_icmp_ne hX 1128 dL_isStruck_996 (by decide) (fun _ => ?_) (fun c => absurd c (by decide))
      refine zz_iload hX dL_isStruck_1128 11 rfl ?_
      refine zz_bipush (v := nI 7) hX dL_isStruck_1130 rfl ?_
      refine zz_icmp_ne hX 1262 dL_isStruck_1132 (by decide) (fun _ => ?_) (fun c => absurd c (by decide))
      refine zz_iload hX dL_isStruck_1262 11 rfl ?_
      refine zz_bipush (v := nI 8) hX dL_isStruck_1264 rfl ?_
      refine zz_icmp_ne hX 1296 dL_isStruck_1266 (by decide) (fun _ => ?_) (fun c => absurd c (by decide))
      refine zz_iload hX dL_isStruck_1296 15 rfl ?_
      refine zz_if_eq hX 1311 dL_isStruck_1298 (by decide) (fun c => absurd c (by decide)) (fun _ => ?_)
      refine zz_aload hX dL_isStruck_1301 10 rfl ?_
      refine zz_iload hX dL_isStruck_1303 14 rfl ?_
      refine zz_sI (x := zp_cut S (nI q)) hX zf_M_L_172 (As := [.ref 109, .int (nI q)]) (st := []) (Q_inFilm n S sh mi mr hI q (by omega)) rfl rfl (by decide) (Nat.le_of_ble_eq_true rfl) (Nat.le_of_ble_eq_true rfl) (Nat.le_of_ble_eq_true rfl) dL_isStruck_1305 ?_
      refine zz_goto hX 1312 dL_isStruck_1308 (by decide) ?_
      refine zz_istore (ls' := [(0, .ref 2), (1, .ref 100), (2, .ref 101), (3, .ref 102), (4, .ref 103), (5, .ref 104), (6, .ref 105), (7, .ref 106), (8, .ref 107), (9, .ref 108), (10, .ref 109), (11, .int (nI 10)), (12, .int (nI one)), (13, .int (nI two)), (14, .int (nI q)), (15, .int (nI 1)), (16, .int (nI (zv_fr S q))), (17, .int (nI (zv_sk S q))), (18, .int (nI f)), (19, .int (zp_cut S (nI q)))]) hX dL_isStruck_1312 (Nat.le_of_ble_eq_true rfl) rfl ?_
      refine zz_iconst (v := nI 1) hX dL_isStruck_1314 rfl ?_
      refine zz_istore (ls' := [(0, .ref 2), (1, .ref 100), (2, .ref 101), (3, .ref 102), (4, .ref 103), (5, .ref 104), (6, .ref 105), (7, .ref 106), (8, .ref 107), (9, .ref 108), (10, .ref 109), (11, .int (nI 10)), (12, .int (nI one)), (13, .int (nI two)), (14, .int (nI q)), (15, .int (nI 1)), (16, .int (nI (zv_fr S q))), (17, .int (nI (zv_sk S q))), (18, .int (nI f)), (19, .int (zp_cut S (nI q))), (20, .int (nI 1))]) hX dL_isStruck_1315 (Nat.le_of_ble_eq_true rfl) rfl ?_
      refine zz_aload hX dL_isStruck_1317 10 rfl ?_
      refine zz_bipush (v := nI 6) hX dL_isStruck_1319 rfl ?_
      refine zz_iald (x := nI (ql_dw S (zv_nf S) 0)) hX (ql_s109 hI) 6 rfl (by decide) (by decide) ((ql_g6 hI)) dL_isStruck_1321 ?_
      refine zz_istore (ls' := [(0, .ref 2), (1, .ref 100), (2, .ref 101), (3, .ref 102), (4, .ref 103), (5, .ref 104), (6, .ref 105), (7, .ref 106), (8, .ref 107), (9, .ref 108), (10, .ref 109), (11, .int (nI 10)), (12, .int (nI one)), (13, .int (nI two)), (14, .int (nI q)), (15, .int (nI 1)), (16, .int (nI (zv_fr S q))), (17, .int (nI (zv_sk S q))), (18, .int (nI f)), (19, .int (zp_cut S (nI q))), (20, .int (nI 1)), (21, .int (nI (ql_dw S (zv_nf S) 0)))]) hX dL_isStruck_1322 (Nat.le_of_ble_eq_true rfl) rfl ?_
      refine zz_lcl (ls' := [(0, .ref 2), (1, .ref 100), (2, .ref 101), (3, .ref 102), (4, .ref 103), (5, .ref 104), (6, .ref 105), (7, .ref 106), (8, .ref 107), (9, .ref 108), (10, .ref 109), (11, .int (nI 10)), (12, .int (nI one)), (13, .int (nI two)), (14, .int (nI q)), (15, .int (nI 1)), (16, .int (nI (zv_fr S q))), (17, .int (nI (zv_sk S q))), (18, .int (nI f)), (19, .int (zp_cut S (nI q))), (20, .int (nI (10 ^ 0))), (21, .int (nI (ql_dw S (zv_nf S - 0) 0)))]) rfl ?_
      have L1324 : ∀ (k1324 : Nat) (k : Nat), zv_nf S - k < k1324 → (k ≤ zv_nf S) → (zp_cut S (nI q) = zs_fst (fun k => S 29 k = nI q) nI (zv_nf S - k) k) → zz Γ (D, E, 24, ad, sh) (zz_End Γ (D, E, 24, ad, sh) (ql_T n) zz_none 10 60) 0 0 sh mi mr 1324 [(0, .ref 2), (1, .ref 100), (2, .ref 101), (3, .ref 102), (4, .ref 103), (5, .ref 104), (6, .ref 105), (7, .ref 106), (8, .ref 107), (9, .ref 108), (10, .ref 109), (11, .int (nI 10)), (12, .int (nI one)), (13, .int (nI two)), (14, .int (nI q)), (15, .int (nI 1)), (16, .int (nI (zv_fr S q))), (17, .int (nI (zv_sk S q))), (18, .int (nI f)), (19, .int (zp_cut S (nI q))), (20, .int (nI (10 ^ k))), (21, .int (nI (ql_dw S (zv_nf S - k) k)))] [] := by
        intro k1324
        induction k1324 with
        | zero => intro k hk1324; exact absurd hk1324 (Nat.not_lt_zero _)
        | succ k1324 ih1324 =>
          intro k hk1324 hk9 hq
          have hnm := ql_num hI
          have hb9 := ql_dwb hI k hk9
          have hz9 := ql_dw0 (S := S) hk9
          have hp9 : 10 ^ k ≤ 100000000 := Nat.le_trans (Nat.pow_le_pow_right (by decide) (show k ≤ 8 by omega)) (Nat.le_of_ble_eq_true rfl)
          have hp0 : 0 < 10 ^ k := Nat.pow_pos (by decide)
          refine zz_iload hX dL_isStruck_1324 21 rfl ?_
          refine zz_if_leN hX (by omega) 1365 dL_isStruck_1326 (by decide) (fun c1326 => ?_) (fun c1326 => ?_)
          · skip
            by_cases u0 : zp_cut S (nI q) = -1
            · skip
              refine zz_iload hX dL_isStruck_1365 11 rfl ?_
              refine zz_bipush (v := nI 9) hX dL_isStruck_1367 rfl ?_
              refine zz_icmp_ne hX 1467 dL_isStruck_1369 (by decide) (fun _ => ?_) (fun c => absurd c (by decide))
              refine zz_aload hX dL_isStruck_1467 10 rfl ?_
              refine zz_bipush (v := nI 6) hX dL_isStruck_1469 rfl ?_
              refine zz_iload hX dL_isStruck_1471 19 rfl ?_
              refine zz_if_ge hX 1484 dL_isStruck_1473 (by decide) (fun c1473 => absurd c1473 (by rw [u0]; decide)) (fun c1473 => ?_)
              refine zz_aload hX dL_isStruck_1476 10 rfl ?_
              refine zz_bipush (v := nI 6) hX dL_isStruck_1478 rfl ?_
              refine zz_iald (x := nI (ql_dw S (zv_nf S) 0)) hX (ql_s109 hI) 6 rfl (by decide) (by decide) ((ql_g6 hI)) dL_isStruck_1480 ?_
              refine zz_goto hX 1507 dL_isStruck_1481 (by decide) ?_
              refine zz_iast hX (ql_s109 hI) 6 rfl (by decide) (by decide) dL_isStruck_1507 ?_
              refine zz_aload_n hX dL_isStruck_1508 0 rfl rfl ?_
              refine zz_bipush (v := nI 17) hX dL_isStruck_1509 rfl ?_
              refine zz_iload hX dL_isStruck_1511 14 rfl ?_
              refine zz_iconst (v := nI 0) hX dL_isStruck_1513 rfl ?_
              refine zz_iconst (v := nI 0) hX dL_isStruck_1514 rfl ?_
              refine zz_iconst (v := nI 0) hX dL_isStruck_1515 rfl ?_
              have hA9 : zs_ix (nI q) (zv_ns S) := zs_ix_nI g0 (by omega)
              refine zz_callSH hX zf_M_L_161 (As := [.ref 2, .int (nI 17), .int (nI q), .int (nI 0), .int (nI 0), .int (nI 0)]) (st := []) (D_cutOut S sh (zm_u2 mi 109 6 (nI (ql_dw S (zv_nf S) 0))) mr (ql_W hI) (ql_R_f (ql_W hI) hR (M := (zm_u2 mi 109 6 (nI (ql_dw S (zv_nf S) 0)))) (fun l hl => zm_u2r (by omega))) (nI q) (nI 0) (nI 0) (nI 0)) rfl rfl (by decide) (Nat.le_of_ble_eq_true rfl) (Nat.le_of_ble_eq_true rfl) (Nat.le_of_ble_eq_true rfl) dL_isStruck_1516 ?_ (fun _ _ _ _ h _ => h.elim)
              rintro v9 s9 i9 m9 ⟨k9, rfl, hk9, hS9⟩ -
              obtain ⟨e9, hR9⟩ := zq_d4 hk9 hA9 trivial (fun h => h u0)
              obtain rfl := e9.symm
              refine zz_iload hX dL_isStruck_1519 15 rfl ?_
              refine zz_if_ne hX 1529 dL_isStruck_1521 (by decide) (fun _ => ?_) (fun c => absurd c (by decide))
              refine zz_iload hX dL_isStruck_1529 19 rfl ?_
              refine zz_if_ge hX 1539 dL_isStruck_1531 (by decide) (fun c1531 => absurd c1531 (by rw [u0]; decide)) (fun c1531 => ?_)
              refine zz_ldc (v := -1000000) hX zw_con_L_90 dL_isStruck_1534 ?_
              refine zz_goto hX 1546 dL_isStruck_1536 (by decide) ?_
              refine zz_icmp_ne hX 1553 dL_isStruck_1546 (by decide) (fun c => absurd c (by decide)) (fun _ => ?_)
              refine zz_iconst (v := nI 1) hX dL_isStruck_1549 rfl ?_
              refine zz_goto hX 1554 dL_isStruck_1550 (by decide) ?_
              refine zz_iret hX hr rfl (Nat.le_of_ble_eq_true rfl) (Nat.le_of_ble_eq_true rfl) dL_isStruck_1554 ?_
              exact ⟨rfl, ⟨_, ql_J_end hn (ql_W hI) (ql_B_mono (ql_BB hI) (by omega)) (by rw [zm_u2_id (ql_g6 hI)]; exact hI.2.2.2) hR9 hS9⟩, ql_10 h10 hS9⟩
            · skip
              refine zz_iload hX dL_isStruck_1365 11 rfl ?_
              refine zz_bipush (v := nI 9) hX dL_isStruck_1367 rfl ?_
              refine zz_icmp_ne hX 1467 dL_isStruck_1369 (by decide) (fun _ => ?_) (fun c => absurd c (by decide))
              exact absurd (hq.trans (zs_fst_end (by omega))) u0
          · skip
            have hk8 : k < zv_nf S := by omega
            have hs9 := ql_dw_s hk8
            have hf9 := ql_film hI hk8
            have hb8 := ql_dwb hI (k + 1) (by omega)
            refine zz_iload hX dL_isStruck_1329 11 rfl ?_
            refine zz_bipush (v := nI 9) hX dL_isStruck_1331 rfl ?_
            refine zz_icmp_eq hX 1348 dL_isStruck_1333 (by decide) (fun c => absurd c (by decide)) (fun _ => ?_)
            refine zz_iload hX dL_isStruck_1336 21 rfl ?_
            refine zz_bipush (v := nI 10) hX dL_isStruck_1338 rfl ?_
            refine zz_irem (z := nI ((ql_dw S (zv_nf S - k) k) % 10)) hX dL_isStruck_1340 (by decide) (pk_rem (by omega) (by decide) (by decide)) ?_
            refine zz_iload hX dL_isStruck_1341 14 rfl ?_
            refine zz_iconst (v := nI 1) hX dL_isStruck_1343 rfl ?_
            refine zz_iadd (z := nI (q + 1)) hX dL_isStruck_1344 (nI_add _ _) ?_
            refine zz_icmp_eqN hX (by omega) (by omega) 1365 dL_isStruck_1345 (by decide) (fun c1345 => ?_) (fun c1345 => ?_)
            · skip
              by_cases u0 : zp_cut S (nI q) = -1
              · skip
                refine zz_iload hX dL_isStruck_1365 11 rfl ?_
                refine zz_bipush (v := nI 9) hX dL_isStruck_1367 rfl ?_
                refine zz_icmp_ne hX 1467 dL_isStruck_1369 (by decide) (fun _ => ?_) (fun c => absurd c (by decide))
                refine zz_aload hX dL_isStruck_1467 10 rfl ?_
                refine zz_bipush (v := nI 6) hX dL_isStruck_1469 rfl ?_
                refine zz_iload hX dL_isStruck_1471 19 rfl ?_
                refine zz_if_ge hX 1484 dL_isStruck_1473 (by decide) (fun c1473 => absurd c1473 (by rw [u0]; decide)) (fun c1473 => ?_)
                refine zz_aload hX dL_isStruck_1476 10 rfl ?_
                refine zz_bipush (v := nI 6) hX dL_isStruck_1478 rfl ?_
                refine zz_iald (x := nI (ql_dw S (zv_nf S) 0)) hX (ql_s109 hI) 6 rfl (by decide) (by decide) ((ql_g6 hI)) dL_isStruck_1480 ?_
                refine zz_goto hX 1507 dL_isStruck_1481 (by decide) ?_
                refine zz_iast hX (ql_s109 hI) 6 rfl (by decide) (by decide) dL_isStruck_1507 ?_
                refine zz_aload_n hX dL_isStruck_1508 0 rfl rfl ?_
                refine zz_bipush (v := nI 17) hX dL_isStruck_1509 rfl ?_
                refine zz_iload hX dL_isStruck_1511 14 rfl ?_
                refine zz_iconst (v := nI 0) hX dL_isStruck_1513 rfl ?_
                refine zz_iconst (v := nI 0) hX dL_isStruck_1514 rfl ?_
                refine zz_iconst (v := nI 0) hX dL_isStruck_1515 rfl ?_
                have hA9 : zs_ix (nI q) (zv_ns S) := zs_ix_nI g0 (by omega)
                refine zz_callSH hX zf_M_L_161 (As := [.ref 2, .int (nI 17), .int (nI q), .int (nI 0), .int (nI 0), .int (nI 0)]) (st := []) (D_cutOut S sh (zm_u2 mi 109 6 (nI (ql_dw S (zv_nf S) 0))) mr (ql_W hI) (ql_R_f (ql_W hI) hR (M := (zm_u2 mi 109 6 (nI (ql_dw S (zv_nf S) 0)))) (fun l hl => zm_u2r (by omega))) (nI q) (nI 0) (nI 0) (nI 0)) rfl rfl (by decide) (Nat.le_of_ble_eq_true rfl) (Nat.le_of_ble_eq_true rfl) (Nat.le_of_ble_eq_true rfl) dL_isStruck_1516 ?_ (fun _ _ _ _ h _ => h.elim)
                rintro v9 s9 i9 m9 ⟨k9, rfl, hk9, hS9⟩ -
                obtain ⟨e9, hR9⟩ := zq_d4 hk9 hA9 trivial (fun h => h u0)
                obtain rfl := e9.symm
                refine zz_iload hX dL_isStruck_1519 15 rfl ?_
                refine zz_if_ne hX 1529 dL_isStruck_1521 (by decide) (fun _ => ?_) (fun c => absurd c (by decide))
                refine zz_iload hX dL_isStruck_1529 19 rfl ?_
                refine zz_if_ge hX 1539 dL_isStruck_1531 (by decide) (fun c1531 => absurd c1531 (by rw [u0]; decide)) (fun c1531 => ?_)
                refine zz_ldc (v := -1000000) hX zw_con_L_90 dL_isStruck_1534 ?_
                refine zz_goto hX 1546 dL_isStruck_1536 (by decide) ?_
                refine zz_icmp_ne hX 1553 dL_isStruck_1546 (by decide) (fun c => absurd c (by decide)) (fun _ => ?_)
                refine zz_iconst (v := nI 1) hX dL_isStruck_1549 rfl ?_
                refine zz_goto hX 1554 dL_isStruck_1550 (by decide) ?_
                refine zz_iret hX hr rfl (Nat.le_of_ble_eq_true rfl) (Nat.le_of_ble_eq_true rfl) dL_isStruck_1554 ?_
                exact ⟨rfl, ⟨_, ql_J_end hn (ql_W hI) (ql_B_mono (ql_BB hI) (by omega)) (by rw [zm_u2_id (ql_g6 hI)]; exact hI.2.2.2) hR9 hS9⟩, ql_10 h10 hS9⟩
              · skip
                refine zz_iload hX dL_isStruck_1365 11 rfl ?_
                refine zz_bipush (v := nI 9) hX dL_isStruck_1367 rfl ?_
                refine zz_icmp_ne hX 1467 dL_isStruck_1369 (by decide) (fun _ => ?_) (fun c => absurd c (by decide))
                have hcut : zp_cut S (nI q) = nI k := hq.trans (zs_fst_hit (g := (fun k => S 29 k = nI q)) (v := nI) (c := zv_nf S) hk8 (show S 29 k = nI q by rw [hf9.2.2]; exact congrArg nI (by omega)))
                have z_k : zn (nI k) = k := nI_clamp (n := k) (by omega)
                have hD9 : ql_dw S (zv_nf S) 0 < 100000000 := ql_dwb hI 0 (Nat.zero_le _)
                refine zz_aload hX dL_isStruck_1467 10 rfl ?_
                refine zz_bipush (v := nI 6) hX dL_isStruck_1469 rfl ?_
                refine zz_iload hX dL_isStruck_1471 19 rfl ?_
                refine zz_if_ge hX 1484 dL_isStruck_1473 (by decide) (fun c1473 => ?_) (fun c1473 => absurd (zp_cut_0 n4 u0) c1473)
                refine zz_aload hX dL_isStruck_1484 10 rfl ?_
                refine zz_bipush (v := nI 6) hX dL_isStruck_1486 rfl ?_
                refine zz_iald (x := nI (ql_dw S (zv_nf S) 0)) hX (ql_s109 hI) 6 rfl (by decide) (by decide) ((ql_g6 hI)) dL_isStruck_1488 ?_
                refine zz_iload hX dL_isStruck_1489 20 rfl ?_
                refine zz_idiv (z := nI (ql_dw S (zv_nf S) 0 / 10 ^ k)) hX dL_isStruck_1491 (nI_ne0 hp0 (by omega)) (pk_div (by omega) hp0 (by omega)) ?_
                refine zz_bipush (v := nI 10) hX dL_isStruck_1492 rfl ?_
                refine zz_idiv (z := nI (ql_dw S (zv_nf S) 0 / 10 ^ k / 10)) hX dL_isStruck_1494 (by decide) (pk_div (Nat.lt_of_le_of_lt (Nat.div_le_self _ _) (by omega)) (by decide) (by decide)) ?_
                refine zz_iload hX dL_isStruck_1495 20 rfl ?_
                refine zz_imul (z := nI ((ql_dw S (zv_nf S) 0 / 10 ^ k / 10) * (10 ^ k))) hX dL_isStruck_1497 (pk_mul _ _) ?_
                refine zz_aload hX dL_isStruck_1498 10 rfl ?_
                refine zz_bipush (v := nI 6) hX dL_isStruck_1500 rfl ?_
                refine zz_iald (x := nI (ql_dw S (zv_nf S) 0)) hX (ql_s109 hI) 6 rfl (by decide) (by decide) ((ql_g6 hI)) dL_isStruck_1502 ?_
                refine zz_iload hX dL_isStruck_1503 20 rfl ?_
                refine zz_irem (z := nI (ql_dw S (zv_nf S) 0 % 10 ^ k)) hX dL_isStruck_1505 (nI_ne0 hp0 (by omega)) (pk_rem (by omega) hp0 (by omega)) ?_
                refine zz_iadd (z := nI (ql_dw S (zv_nf S) 0 / 10 ^ k / 10 * 10 ^ k + ql_dw S (zv_nf S) 0 % 10 ^ k)) hX dL_isStruck_1506 (nI_add _ _) ?_
                refine zz_iast hX (ql_s109 hI) 6 rfl (by decide) (by decide) dL_isStruck_1507 ?_
                refine zz_aload_n hX dL_isStruck_1508 0 rfl rfl ?_
                refine zz_bipush (v := nI 17) hX dL_isStruck_1509 rfl ?_
                refine zz_iload hX dL_isStruck_1511 14 rfl ?_
                refine zz_iconst (v := nI 0) hX dL_isStruck_1513 rfl ?_
                refine zz_iconst (v := nI 0) hX dL_isStruck_1514 rfl ?_
                refine zz_iconst (v := nI 0) hX dL_isStruck_1515 rfl ?_
                have hA9 : zs_ix (nI q) (zv_ns S) := zs_ix_nI g0 (by omega)
                refine zz_callSH hX zf_M_L_161 (As := [.ref 2, .int (nI 17), .int (nI q), .int (nI 0), .int (nI 0), .int (nI 0)]) (st := []) (D_cutOut S sh (zm_u2 mi 109 6 (nI (ql_dw S (zv_nf S) 0 / 10 ^ k / 10 * 10 ^ k + ql_dw S (zv_nf S) 0 % 10 ^ k))) mr (ql_W hI) (ql_R_f (ql_W hI) hR (M := (zm_u2 mi 109 6 (nI (ql_dw S (zv_nf S) 0 / 10 ^ k / 10 * 10 ^ k + ql_dw S (zv_nf S) 0 % 10 ^ k)))) (fun l hl => zm_u2r (by omega))) (nI q) (nI 0) (nI 0) (nI 0)) rfl rfl (by decide) (Nat.le_of_ble_eq_true rfl) (Nat.le_of_ble_eq_true rfl) (Nat.le_of_ble_eq_true rfl) dL_isStruck_1516 ?_ (fun _ _ _ _ h _ => h.elim)
                rintro v9 s9 i9 m9 ⟨k9, rfl, hk9, hS9⟩ -
                obtain ⟨e9, hR9⟩ := zq_d1 hk9 hA9 trivial u0
                simp only [hcut, z_k] at e9 hR9
                obtain rfl := e9.symm
                refine zz_iload hX dL_isStruck_1519 15 rfl ?_
                refine zz_if_ne hX 1529 dL_isStruck_1521 (by decide) (fun _ => ?_) (fun c => absurd c (by decide))
                refine zz_iload hX dL_isStruck_1529 19 rfl ?_
                refine zz_if_ge hX 1539 dL_isStruck_1531 (by decide) (fun c1531 => ?_) (fun c1531 => absurd (zp_cut_0 n4 u0) c1531)
                have hJ9 : ql_J (n + 1) (zt_out S k) s9 i9 m9 := ql_J_end hn (by have z := U_cutOut (ql_W hI) (nI q) hA9 trivial u0; simp only [hcut, z_k] at z; exact z) (ql_B_s (ql_BB hI) (fun r hr => zt_out_r (by omega) (by omega))) (ql_N_cut hI.2.2.2 (fun r a b => zt_out_r a b) (ql_dw_out (fun j hj => by have := (ql_film hI hj).2.1; omega) hk8 n4).symm) hR9 hS9
                refine zz_aload hX dL_isStruck_1539 5 rfl ?_
                refine zz_aload hX dL_isStruck_1541 10 rfl ?_
                refine zz_sI (x := zp_film (zt_out S k)) hX zf_M_L_178 (As := [.ref 104, .ref 109]) (st := [.int (zp_film (zt_out S k))]) (Q_inAll (n + 1) (zt_out S k) s9 i9 m9 hJ9.1) rfl rfl (by decide) (Nat.le_of_ble_eq_true rfl) (Nat.le_of_ble_eq_true rfl) (Nat.le_of_ble_eq_true rfl) dL_isStruck_1543 ?_
                refine zz_icmp_ne hX 1553 dL_isStruck_1546 (by decide) (fun c1546 => absurd rfl c1546) (fun c1546 => ?_)
                refine zz_iconst (v := nI 1) hX dL_isStruck_1549 rfl ?_
                refine zz_goto hX 1554 dL_isStruck_1550 (by decide) ?_
                refine zz_iret hX hr rfl (Nat.le_of_ble_eq_true rfl) (Nat.le_of_ble_eq_true rfl) dL_isStruck_1554 ?_
                exact ⟨rfl, ⟨_, hJ9⟩, ql_10 h10 hS9⟩
            · skip
              refine zz_iload hX dL_isStruck_1348 20 rfl ?_
              refine zz_bipush (v := nI 10) hX dL_isStruck_1350 rfl ?_
              refine zz_imul (z := nI ((10 ^ k) * 10)) hX dL_isStruck_1352 (pk_mul _ _) ?_
              refine zz_istore (ls' := [(0, .ref 2), (1, .ref 100), (2, .ref 101), (3, .ref 102), (4, .ref 103), (5, .ref 104), (6, .ref 105), (7, .ref 106), (8, .ref 107), (9, .ref 108), (10, .ref 109), (11, .int (nI 10)), (12, .int (nI one)), (13, .int (nI two)), (14, .int (nI q)), (15, .int (nI 1)), (16, .int (nI (zv_fr S q))), (17, .int (nI (zv_sk S q))), (18, .int (nI f)), (19, .int (zp_cut S (nI q))), (20, .int (nI ((10 ^ k) * 10))), (21, .int (nI (ql_dw S (zv_nf S - k) k)))]) hX dL_isStruck_1353 (Nat.le_of_ble_eq_true rfl) rfl ?_
              refine zz_iload hX dL_isStruck_1355 21 rfl ?_
              refine zz_bipush (v := nI 10) hX dL_isStruck_1357 rfl ?_
              refine zz_idiv (z := nI ((ql_dw S (zv_nf S - k) k) / 10)) hX dL_isStruck_1359 (by decide) (pk_div (by omega) (by decide) (by decide)) ?_
              refine zz_istore (ls' := [(0, .ref 2), (1, .ref 100), (2, .ref 101), (3, .ref 102), (4, .ref 103), (5, .ref 104), (6, .ref 105), (7, .ref 106), (8, .ref 107), (9, .ref 108), (10, .ref 109), (11, .int (nI 10)), (12, .int (nI one)), (13, .int (nI two)), (14, .int (nI q)), (15, .int (nI 1)), (16, .int (nI (zv_fr S q))), (17, .int (nI (zv_sk S q))), (18, .int (nI f)), (19, .int (zp_cut S (nI q))), (20, .int (nI ((10 ^ k) * 10))), (21, .int (nI ((ql_dw S (zv_nf S - k) k) / 10)))]) hX dL_isStruck_1360 (Nat.le_of_ble_eq_true rfl) rfl ?_
              refine zz_goto hX 1324 dL_isStruck_1362 (by decide) ?_
              refine zz_lcl (ls' := [(0, .ref 2), (1, .ref 100), (2, .ref 101), (3, .ref 102), (4, .ref 103), (5, .ref 104), (6, .ref 105), (7, .ref 106), (8, .ref 107), (9, .ref 108), (10, .ref 109), (11, .int (nI 10)), (12, .int (nI one)), (13, .int (nI two)), (14, .int (nI q)), (15, .int (nI 1)), (16, .int (nI (zv_fr S q))), (17, .int (nI (zv_sk S q))), (18, .int (nI f)), (19, .int (zp_cut S (nI q))), (20, .int (nI (10 ^ (k + 1)))), (21, .int (nI (ql_dw S (zv_nf S - (k + 1)) (k + 1))))]) (by rw [show 10 ^ (k + 1) = 10 ^ k * 10 from Nat.pow_succ .., show ql_dw S (zv_nf S - (k + 1)) (k + 1) = ql_dw S (zv_nf S - k) k / 10 by omega]) ?_
              exact ih1324 (k + 1) (by omega) (by omega) (hq.trans (zs_fst_step (g := (fun k => S 29 k = nI q)) (v := nI) (c := zv_nf S) hk8 (fun h => c1345 (by have h2 : S 29 k = nI q := h; rw [hf9.2.2, nI_eq (by omega) (by omega)] at h2; omega))))
      exact L1324 ((zv_nf S - 0 + 1)) 0 (by omega) (Nat.zero_le _) rfl
    refine zz_iload hX dL_isStruck_63 12 rfl ?_
    refine zz_iconst (v := nI 4) hX dL_isStruck_65 rfl ?_
    refine zz_idiv (z := nI (one / 4)) hX dL_isStruck_66 (by decide) (pk_div (by omega) (by decide) (by decide)) ?_
    refine zz_bipush (v := nI 9) hX dL_isStruck_67 rfl ?_
    refine zz_irem (z := nI ((one / 4) % 9)) hX dL_isStruck_69 (by decide) (pk_rem (by omega) (by decide) (by decide)) ?_
    refine zz_bipush (v := nI 8) hX dL_isStruck_70 rfl ?_
    refine zz_icmp_neN hX (by omega) (by decide) 80 dL_isStruck_72 (by decide) (fun c72 => ?_) (fun c72 => ?_)
    · skip
      refine zz_iload hX dL_isStruck_80 16 rfl ?_
      refine zz_if_neN hX (by omega) 89 dL_isStruck_82 (by decide) (fun c82 => ?_) (fun c82 => absurd c82 (by omega))
      refine zz_iload hX dL_isStruck_89 12 rfl ?_
      refine zz_iconst (v := nI 4) hX dL_isStruck_91 rfl ?_
      refine zz_idiv (z := nI (one / 4)) hX dL_isStruck_92 (by decide) (pk_div (by omega) (by decide) (by decide)) ?_
      refine zz_iload hX dL_isStruck_93 16 rfl ?_
      refine zz_irem (z := nI ((one / 4) % (zv_fr S q))) hX dL_isStruck_95 (nI_ne0 (by omega) (by omega)) (pk_rem (by omega) (by omega) (by omega)) ?_
      exact K96 ((one / 4) % (zv_fr S q)) (by first | omega | exact Nat.le_of_lt (Nat.mod_lt _ (by omega)))
    · skip
      refine zz_iload hX dL_isStruck_75 16 rfl ?_
      refine zz_goto hX 96 dL_isStruck_77 (by decide) ?_
      exact K96 (zv_fr S q) (by first | omega | exact Nat.le_of_lt (Nat.mod_lt _ (by omega)))
  · skip
    refine zz_iload hX dL_isStruck_11 14 rfl ?_
    refine zz_aload hX dL_isStruck_13 10 rfl ?_
    refine zz_iconst (v := nI 2) hX dL_isStruck_15 rfl ?_
    refine zz_iald (x := nI (zv_ns S)) hX (ql_s109 hI) 2 rfl (by decide) (by decide) ((ql_g2 hI)) dL_isStruck_16 ?_
    refine zz_icmp_geN hX (by omega) (by omega) 24 dL_isStruck_17 (by decide) (fun c17 => ?_) (fun c17 => absurd c17 (by omega))
    refine zz_iconst (v := nI 0) hX dL_isStruck_24 rfl ?_
    refine zz_istore (ls' := [(0, .ref 2), (1, .ref 100), (2, .ref 101), (3, .ref 102), (4, .ref 103), (5, .ref 104), (6, .ref 105), (7, .ref 106), (8, .ref 107), (9, .ref 108), (10, .ref 109), (11, .int (nI 10)), (12, .int (nI one)), (13, .int (nI two)), (14, .int (nI q)), (15, .int (nI 0))]) hX dL_isStruck_25 (Nat.le_of_ble_eq_true rfl) rfl ?_
    refine zz_iload hX dL_isStruck_27 15 rfl ?_
    refine zz_if_eq hX 42 dL_isStruck_29 (by decide) (fun _ => ?_) (fun c => absurd c (by decide))
    refine zz_iconst (v := nI 0) hX dL_isStruck_42 rfl ?_
    refine zz_istore (ls' := [(0, .ref 2), (1, .ref 100), (2, .ref 101), (3, .ref 102), (4, .ref 103), (5, .ref 104), (6, .ref 105), (7, .ref 106), (8, .ref 107), (9, .ref 108), (10, .ref 109), (11, .int (nI 10)), (12, .int (nI one)), (13, .int (nI two)), (14, .int (nI q)), (15, .int (nI 0)), (16, .int (nI 0))]) hX dL_isStruck_43 (Nat.le_of_ble_eq_true rfl) rfl ?_
    refine zz_iload hX dL_isStruck_45 15 rfl ?_
    refine zz_if_eq hX 60 dL_isStruck_47 (by decide) (fun _ => ?_) (fun c => absurd c (by decide))
    refine zz_iconst (v := nI 0) hX dL_isStruck_60 rfl ?_
    refine zz_istore (ls' := [(0, .ref 2), (1, .ref 100), (2, .ref 101), (3, .ref 102), (4, .ref 103), (5, .ref 104), (6, .ref 105), (7, .ref 106), (8, .ref 107), (9, .ref 108), (10, .ref 109), (11, .int (nI 10)), (12, .int (nI one)), (13, .int (nI two)), (14, .int (nI q)), (15, .int (nI 0)), (16, .int (nI 0)), (17, .int (nI 0))]) hX dL_isStruck_61 (Nat.le_of_ble_eq_true rfl) rfl ?_
    have K96 : zz Γ (D, E, 24, ad, sh) (zz_End Γ (D, E, 24, ad, sh) (ql_T n) zz_none 10 60) 0 0 sh mi mr 96 [(0, .ref 2), (1, .ref 100), (2, .ref 101), (3, .ref 102), (4, .ref 103), (5, .ref 104), (6, .ref 105), (7, .ref 106), (8, .ref 107), (9, .ref 108), (10, .ref 109), (11, .int (nI 10)), (12, .int (nI one)), (13, .int (nI two)), (14, .int (nI q)), (15, .int (nI 0)), (16, .int (nI 0)), (17, .int (nI 0))] [.int (nI 0)] := by
      refine zz_istore (ls' := [(0, .ref 2), (1, .ref 100), (2, .ref 101), (3, .ref 102), (4, .ref 103), (5, .ref 104), (6, .ref 105), (7, .ref 106), (8, .ref 107), (9, .ref 108), (10, .ref 109), (11, .int (nI 10)), (12, .int (nI one)), (13, .int (nI two)), (14, .int (nI q)), (15, .int (nI 0)), (16, .int (nI 0)), (17, .int (nI 0)), (18, .int (nI 0))]) hX dL_isStruck_96 (Nat.le_of_ble_eq_true rfl) rfl ?_
      refine zz_iload hX dL_isStruck_98 11 rfl ?_
      refine zz_if_ne hX 362 dL_isStruck_100 (by decide) (fun _ => ?_) (fun c => absurd c (by decide))
      refine zz_iload hX dL_isStruck_362 11 rfl ?_
      refine zz_iconst (v := nI 1) hX dL_isStruck_364 rfl ?_
      refine zz_icmp_ne hX 573 dL_isStruck_365 (by decide) (fun _ => ?_) (fun c => absurd c (by decide))
      refine zz_iload hX dL_isStruck_573 11 rfl ?_
      refine zz_iconst (v := nI 2) hX dL_isStruck_575 rfl ?_
      refine zz_icmp_ne hX 644 dL_isStruck_576 (by decide) (fun _ => ?_) (fun c => absurd c (by decide))
      refine zz_iload hX dL_isStruck_644 11 rfl ?_
      refine zz_iconst (v := nI 3) hX dL_isStruck_646 rfl ?_
      refine zz_icmp_ne hX 751 dL_isStruck_647 (by decide) (fun _ => ?_) (fun c => absurd c (by decide))
      refine zz_iload hX dL_isStruck_751 11 rfl ?_
      refine zz_iconst (v := nI 4) hX dL_isStruck_753 rfl ?_
      refine zz_icmp_ne hX 916 dL_isStruck_754 (by decide) (fun _ => ?_) (fun c => absurd c (by decide))
      refine zz_iload hX dL_isStruck_916 11 rfl ?_
      refine zz_iconst (v := nI 5) hX dL_isStruck_918 rfl ?_
      refine zz_icmp_ne hX 992 dL_isStruck_919 (by decide) (fun _ => ?_) (fun c => absurd c (by decide))
      refine zz_iload hX dL_isStruck_992 11 rfl ?_
      refine zz_bipush (v := nI 6) hX dL_isStruck_994 rfl ?_
      refine zz_icmp_ne hX 1128 dL_isStruck_996 (by decide) (fun _ => ?_) (fun c => absurd c (by decide))
      refine zz_iload hX dL_isStruck_1128 11 rfl ?_
      refine zz_bipush (v := nI 7) hX dL_isStruck_1130 rfl ?_
      refine zz_icmp_ne hX 1262 dL_isStruck_1132 (by decide) (fun _ => ?_) (fun c => absurd c (by decide))
      refine zz_iload hX dL_isStruck_1262 11 rfl ?_
      refine zz_bipush (v := nI 8) hX dL_isStruck_1264 rfl ?_
      refine zz_icmp_ne hX 1296 dL_isStruck_1266 (by decide) (fun _ => ?_) (fun c => absurd c (by decide))
      refine zz_iload hX dL_isStruck_1296 15 rfl ?_
      refine zz_if_eq hX 1311 dL_isStruck_1298 (by decide) (fun _ => ?_) (fun c => absurd c (by decide))
      refine zz_iconst (v := (-1)) hX dL_isStruck_1311 rfl ?_
      refine zz_istore (ls' := [(0, .ref 2), (1, .ref 100), (2, .ref 101), (3, .ref 102), (4, .ref 103), (5, .ref 104), (6, .ref 105), (7, .ref 106), (8, .ref 107), (9, .ref 108), (10, .ref 109), (11, .int (nI 10)), (12, .int (nI one)), (13, .int (nI two)), (14, .int (nI q)), (15, .int (nI 0)), (16, .int (nI 0)), (17, .int (nI 0)), (18, .int (nI 0)), (19, .int (-1))]) hX dL_isStruck_1312 (Nat.le_of_ble_eq_true rfl) rfl ?_
      refine zz_iconst (v := nI 1) hX dL_isStruck_1314 rfl ?_
      refine zz_istore (ls' := [(0, .ref 2), (1, .ref 100), (2, .ref 101), (3, .ref 102), (4, .ref 103), (5, .ref 104), (6, .ref 105), (7, .ref 106), (8, .ref 107), (9, .ref 108), (10, .ref 109), (11, .int (nI 10)), (12, .int (nI one)), (13, .int (nI two)), (14, .int (nI q)), (15, .int (nI 0)), (16, .int (nI 0)), (17, .int (nI 0)), (18, .int (nI 0)), (19, .int (-1)), (20, .int (nI 1))]) hX dL_isStruck_1315 (Nat.le_of_ble_eq_true rfl) rfl ?_
      refine zz_aload hX dL_isStruck_1317 10 rfl ?_
      refine zz_bipush (v := nI 6) hX dL_isStruck_1319 rfl ?_
      refine zz_iald (x := nI (ql_dw S (zv_nf S) 0)) hX (ql_s109 hI) 6 rfl (by decide) (by decide) ((ql_g6 hI)) dL_isStruck_1321 ?_
      refine zz_istore (ls' := [(0, .ref 2), (1, .ref 100), (2, .ref 101), (3, .ref 102), (4, .ref 103), (5, .ref 104), (6, .ref 105), (7, .ref 106), (8, .ref 107), (9, .ref 108), (10, .ref 109), (11, .int (nI 10)), (12, .int (nI one)), (13, .int (nI two)), (14, .int (nI q)), (15, .int (nI 0)), (16, .int (nI 0)), (17, .int (nI 0)), (18, .int (nI 0)), (19, .int (-1)), (20, .int (nI 1)), (21, .int (nI (ql_dw S (zv_nf S) 0)))]) hX dL_isStruck_1322 (Nat.le_of_ble_eq_true rfl) rfl ?_
      refine zz_lcl (ls' := [(0, .ref 2), (1, .ref 100), (2, .ref 101), (3, .ref 102), (4, .ref 103), (5, .ref 104), (6, .ref 105), (7, .ref 106), (8, .ref 107), (9, .ref 108), (10, .ref 109), (11, .int (nI 10)), (12, .int (nI one)), (13, .int (nI two)), (14, .int (nI q)), (15, .int (nI 0)), (16, .int (nI 0)), (17, .int (nI 0)), (18, .int (nI 0)), (19, .int (-1)), (20, .int (nI (10 ^ 0))), (21, .int (nI (ql_dw S (zv_nf S - 0) 0)))]) rfl ?_
      have L1324 : ∀ (k1324 : Nat) (k : Nat), zv_nf S - k < k1324 → (k ≤ zv_nf S) → zz Γ (D, E, 24, ad, sh) (zz_End Γ (D, E, 24, ad, sh) (ql_T n) zz_none 10 60) 0 0 sh mi mr 1324 [(0, .ref 2), (1, .ref 100), (2, .ref 101), (3, .ref 102), (4, .ref 103), (5, .ref 104), (6, .ref 105), (7, .ref 106), (8, .ref 107), (9, .ref 108), (10, .ref 109), (11, .int (nI 10)), (12, .int (nI one)), (13, .int (nI two)), (14, .int (nI q)), (15, .int (nI 0)), (16, .int (nI 0)), (17, .int (nI 0)), (18, .int (nI 0)), (19, .int (-1)), (20, .int (nI (10 ^ k))), (21, .int (nI (ql_dw S (zv_nf S - k) k)))] [] := by
        intro k1324
        induction k1324 with
        | zero => intro k hk1324; exact absurd hk1324 (Nat.not_lt_zero _)
        | succ k1324 ih1324 =>
          intro k hk1324 hk9
          have hnm := ql_num hI
          have hb9 := ql_dwb hI k hk9
          have hz9 := ql_dw0 (S := S) hk9
          have hp9 : 10 ^ k ≤ 100000000 := Nat.le_trans (Nat.pow_le_pow_right (by decide) (show k ≤ 8 by omega)) (Nat.le_of_ble_eq_true rfl)
          have hp0 : 0 < 10 ^ k := Nat.pow_pos (by decide)
          refine zz_iload hX dL_isStruck_1324 21 rfl ?_
          refine zz_if_leN hX (by omega) 1365 dL_isStruck_1326 (by decide) (fun c1326 => ?_) (fun c1326 => ?_)
          · skip
            refine zz_iload hX dL_isStruck_1365 11 rfl ?_
            refine zz_bipush (v := nI 9) hX dL_isStruck_1367 rfl ?_
            refine zz_icmp_ne hX 1467 dL_isStruck_1369 (by decide) (fun _ => ?_) (fun c => absurd c (by decide))
            refine zz_aload hX dL_isStruck_1467 10 rfl ?_
            refine zz_bipush (v := nI 6) hX dL_isStruck_1469 rfl ?_
            refine zz_iload hX dL_isStruck_1471 19 rfl ?_
            refine zz_if_ge hX 1484 dL_isStruck_1473 (by decide) (fun c => absurd c (by decide)) (fun _ => ?_)
            refine zz_aload hX dL_isStruck_1476 10 rfl ?_
            refine zz_bipush (v := nI 6) hX dL_isStruck_1478 rfl ?_
            refine zz_iald (x := nI (ql_dw S (zv_nf S) 0)) hX (ql_s109 hI) 6 rfl (by decide) (by decide) ((ql_g6 hI)) dL_isStruck_1480 ?_
            refine zz_goto hX 1507 dL_isStruck_1481 (by decide) ?_
            refine zz_iast hX (ql_s109 hI) 6 rfl (by decide) (by decide) dL_isStruck_1507 ?_
            refine zz_aload_n hX dL_isStruck_1508 0 rfl rfl ?_
            refine zz_bipush (v := nI 17) hX dL_isStruck_1509 rfl ?_
            refine zz_iload hX dL_isStruck_1511 14 rfl ?_
            refine zz_iconst (v := nI 0) hX dL_isStruck_1513 rfl ?_
            refine zz_iconst (v := nI 0) hX dL_isStruck_1514 rfl ?_
            refine zz_iconst (v := nI 0) hX dL_isStruck_1515 rfl ?_
            refine zz_callSH hX zf_M_L_161 (As := [.ref 2, .int (nI 17), .int (nI q), .int (nI 0), .int (nI 0), .int (nI 0)]) (st := []) (D_cutOut S sh (zm_u2 mi 109 6 (nI (ql_dw S (zv_nf S) 0))) mr (ql_W hI) (ql_R_f (ql_W hI) hR (M := (zm_u2 mi 109 6 (nI (ql_dw S (zv_nf S) 0)))) (fun l hl => zm_u2r (by omega))) (nI q) (nI 0) (nI 0) (nI 0)) rfl rfl (by decide) (Nat.le_of_ble_eq_true rfl) (Nat.le_of_ble_eq_true rfl) (Nat.le_of_ble_eq_true rfl) dL_isStruck_1516 ?_ (fun _ _ _ _ h _ => h.elim)
            rintro v9 s9 i9 m9 ⟨k9, rfl, hk9, hS9⟩ -
            obtain ⟨e9, hR9⟩ := zq_d2 hk9 (fun h => g0 (zs_ixl h (by omega)))
            obtain rfl := e9.symm
            refine zz_iload hX dL_isStruck_1519 15 rfl ?_
            refine zz_if_ne hX 1529 dL_isStruck_1521 (by decide) (fun c => absurd c (by decide)) (fun _ => ?_)
            refine zz_ldc (v := -3000000) hX zw_con_L_84 dL_isStruck_1524 ?_
            refine zz_goto hX 1546 dL_isStruck_1526 (by decide) ?_
            refine zz_icmp_ne hX 1553 dL_isStruck_1546 (by decide) (fun c => absurd c (by decide)) (fun _ => ?_)
            refine zz_iconst (v := nI 1) hX dL_isStruck_1549 rfl ?_
            refine zz_goto hX 1554 dL_isStruck_1550 (by decide) ?_
            refine zz_iret hX hr rfl (Nat.le_of_ble_eq_true rfl) (Nat.le_of_ble_eq_true rfl) dL_isStruck_1554 ?_
            exact ⟨rfl, ⟨_, ql_J_end hn (ql_W hI) (ql_B_mono (ql_BB hI) (by omega)) (by rw [zm_u2_id (ql_g6 hI)]; exact hI.2.2.2) hR9 hS9⟩, ql_10 h10 hS9⟩
          · skip
            have hk8 : k < zv_nf S := by omega
            have hs9 := ql_dw_s hk8
            have hf9 := ql_film hI hk8
            have hb8 := ql_dwb hI (k + 1) (by omega)
            refine zz_iload hX dL_isStruck_1329 11 rfl ?_
            refine zz_bipush (v := nI 9) hX dL_isStruck_1331 rfl ?_
            refine zz_icmp_eq hX 1348 dL_isStruck_1333 (by decide) (fun c => absurd c (by decide)) (fun _ => ?_)
            refine zz_iload hX dL_isStruck_1336 21 rfl ?_
            refine zz_bipush (v := nI 10) hX dL_isStruck_1338 rfl ?_
            refine zz_irem (z := nI ((ql_dw S (zv_nf S - k) k) % 10)) hX dL_isStruck_1340 (by decide) (pk_rem (by omega) (by decide) (by decide)) ?_
            refine zz_iload hX dL_isStruck_1341 14 rfl ?_
            refine zz_iconst (v := nI 1) hX dL_isStruck_1343 rfl ?_
            refine zz_iadd (z := nI (q + 1)) hX dL_isStruck_1344 (nI_add _ _) ?_
            refine zz_icmp_eqN hX (by omega) (by omega) 1365 dL_isStruck_1345 (by decide) (fun c1345 => ?_) (fun c1345 => ?_)
            · skip
              refine zz_iload hX dL_isStruck_1365 11 rfl ?_
              refine zz_bipush (v := nI 9) hX dL_isStruck_1367 rfl ?_
              refine zz_icmp_ne hX 1467 dL_isStruck_1369 (by decide) (fun _ => ?_) (fun c => absurd c (by decide))
              refine zz_aload hX dL_isStruck_1467 10 rfl ?_
              refine zz_bipush (v := nI 6) hX dL_isStruck_1469 rfl ?_
              refine zz_iload hX dL_isStruck_1471 19 rfl ?_
              refine zz_if_ge hX 1484 dL_isStruck_1473 (by decide) (fun c => absurd c (by decide)) (fun _ => ?_)
              refine zz_aload hX dL_isStruck_1476 10 rfl ?_
              refine zz_bipush (v := nI 6) hX dL_isStruck_1478 rfl ?_
              refine zz_iald (x := nI (ql_dw S (zv_nf S) 0)) hX (ql_s109 hI) 6 rfl (by decide) (by decide) ((ql_g6 hI)) dL_isStruck_1480 ?_
              refine zz_goto hX 1507 dL_isStruck_1481 (by decide) ?_
              refine zz_iast hX (ql_s109 hI) 6 rfl (by decide) (by decide) dL_isStruck_1507 ?_
              refine zz_aload_n hX dL_isStruck_1508 0 rfl rfl ?_
              refine zz_bipush (v := nI 17) hX dL_isStruck_1509 rfl ?_
              refine zz_iload hX dL_isStruck_1511 14 rfl ?_
              refine zz_iconst (v := nI 0) hX dL_isStruck_1513 rfl ?_
              refine zz_iconst (v := nI 0) hX dL_isStruck_1514 rfl ?_
              refine zz_iconst (v := nI 0) hX dL_isStruck_1515 rfl ?_
              refine zz_callSH hX zf_M_L_161 (As := [.ref 2, .int (nI 17), .int (nI q), .int (nI 0), .int (nI 0), .int (nI 0)]) (st := []) (D_cutOut S sh (zm_u2 mi 109 6 (nI (ql_dw S (zv_nf S) 0))) mr (ql_W hI) (ql_R_f (ql_W hI) hR (M := (zm_u2 mi 109 6 (nI (ql_dw S (zv_nf S) 0)))) (fun l hl => zm_u2r (by omega))) (nI q) (nI 0) (nI 0) (nI 0)) rfl rfl (by decide) (Nat.le_of_ble_eq_true rfl) (Nat.le_of_ble_eq_true rfl) (Nat.le_of_ble_eq_true rfl) dL_isStruck_1516 ?_ (fun _ _ _ _ h _ => h.elim)
              rintro v9 s9 i9 m9 ⟨k9, rfl, hk9, hS9⟩ -
              obtain ⟨e9, hR9⟩ := zq_d2 hk9 (fun h => g0 (zs_ixl h (by omega)))
              obtain rfl := e9.symm
              refine zz_iload hX dL_isStruck_1519 15 rfl ?_
              refine zz_if_ne hX 1529 dL_isStruck_1521 (by decide) (fun c => absurd c (by decide)) (fun _ => ?_)
              refine zz_ldc (v := -3000000) hX zw_con_L_84 dL_isStruck_1524 ?_
              refine zz_goto hX 1546 dL_isStruck_1526 (by decide) ?_
              refine zz_icmp_ne hX 1553 dL_isStruck_1546 (by decide) (fun c => absurd c (by decide)) (fun _ => ?_)
              refine zz_iconst (v := nI 1) hX dL_isStruck_1549 rfl ?_
              refine zz_goto hX 1554 dL_isStruck_1550 (by decide) ?_
              refine zz_iret hX hr rfl (Nat.le_of_ble_eq_true rfl) (Nat.le_of_ble_eq_true rfl) dL_isStruck_1554 ?_
              exact ⟨rfl, ⟨_, ql_J_end hn (ql_W hI) (ql_B_mono (ql_BB hI) (by omega)) (by rw [zm_u2_id (ql_g6 hI)]; exact hI.2.2.2) hR9 hS9⟩, ql_10 h10 hS9⟩
            · skip
              refine zz_iload hX dL_isStruck_1348 20 rfl ?_
              refine zz_bipush (v := nI 10) hX dL_isStruck_1350 rfl ?_
              refine zz_imul (z := nI ((10 ^ k) * 10)) hX dL_isStruck_1352 (pk_mul _ _) ?_
              refine zz_istore (ls' := [(0, .ref 2), (1, .ref 100), (2, .ref 101), (3, .ref 102), (4, .ref 103), (5, .ref 104), (6, .ref 105), (7, .ref 106), (8, .ref 107), (9, .ref 108), (10, .ref 109), (11, .int (nI 10)), (12, .int (nI one)), (13, .int (nI two)), (14, .int (nI q)), (15, .int (nI 0)), (16, .int (nI 0)), (17, .int (nI 0)), (18, .int (nI 0)), (19, .int (-1)), (20, .int (nI ((10 ^ k) * 10))), (21, .int (nI (ql_dw S (zv_nf S - k) k)))]) hX dL_isStruck_1353 (Nat.le_of_ble_eq_true rfl) rfl ?_
              refine zz_iload hX dL_isStruck_1355 21 rfl ?_
              refine zz_bipush (v := nI 10) hX dL_isStruck_1357 rfl ?_
              refine zz_idiv (z := nI ((ql_dw S (zv_nf S - k) k) / 10)) hX dL_isStruck_1359 (by decide) (pk_div (by omega) (by decide) (by decide)) ?_
              refine zz_istore (ls' := [(0, .ref 2), (1, .ref 100), (2, .ref 101), (3, .ref 102), (4, .ref 103), (5, .ref 104), (6, .ref 105), (7, .ref 106), (8, .ref 107), (9, .ref 108), (10, .ref 109), (11, .int (nI 10)), (12, .int (nI one)), (13, .int (nI two)), (14, .int (nI q)), (15, .int (nI 0)), (16, .int (nI 0)), (17, .int (nI 0)), (18, .int (nI 0)), (19, .int (-1)), (20, .int (nI ((10 ^ k) * 10))), (21, .int (nI ((ql_dw S (zv_nf S - k) k) / 10)))]) hX dL_isStruck_1360 (Nat.le_of_ble_eq_true rfl) rfl ?_
              refine zz_goto hX 1324 dL_isStruck_1362 (by decide) ?_
              refine zz_lcl (ls' := [(0, .ref 2), (1, .ref 100), (2, .ref 101), (3, .ref 102), (4, .ref 103), (5, .ref 104), (6, .ref 105), (7, .ref 106), (8, .ref 107), (9, .ref 108), (10, .ref 109), (11, .int (nI 10)), (12, .int (nI one)), (13, .int (nI two)), (14, .int (nI q)), (15, .int (nI 0)), (16, .int (nI 0)), (17, .int (nI 0)), (18, .int (nI 0)), (19, .int (-1)), (20, .int (nI (10 ^ (k + 1)))), (21, .int (nI (ql_dw S (zv_nf S - (k + 1)) (k + 1))))]) (by rw [show 10 ^ (k + 1) = 10 ^ k * 10 from Nat.pow_succ .., show ql_dw S (zv_nf S - (k + 1)) (k + 1) = ql_dw S (zv_nf S - k) k / 10 by omega]) ?_
              exact ih1324 (k + 1) (by omega) (by omega)
      exact L1324 ((zv_nf S - 0 + 1)) 0 (by omega) (Nat.zero_le _)
    refine zz_iload hX dL_isStruck_63 12 rfl ?_
    refine zz_iconst (v := nI 4) hX dL_isStruck_65 rfl ?_
    refine zz_idiv (z := nI (one / 4)) hX dL_isStruck_66 (by decide) (pk_div (by omega) (by decide) (by decide)) ?_
    refine zz_bipush (v := nI 9) hX dL_isStruck_67 rfl ?_
    refine zz_irem (z := nI ((one / 4) % 9)) hX dL_isStruck_69 (by decide) (pk_rem (by omega) (by decide) (by decide)) ?_
    refine zz_bipush (v := nI 8) hX dL_isStruck_70 rfl ?_
    refine zz_icmp_neN hX (by omega) (by decide) 80 dL_isStruck_72 (by decide) (fun c72 => ?_) (fun c72 => ?_)
    · skip
      refine zz_iload hX dL_isStruck_80 16 rfl ?_
      refine zz_if_ne hX 89 dL_isStruck_82 (by decide) (fun c => absurd c (by decide)) (fun _ => ?_)
      refine zz_iconst (v := nI 0) hX dL_isStruck_85 rfl ?_
      refine zz_goto hX 96 dL_isStruck_86 (by decide) ?_
      exact zz_top (rfl) K96
    · skip
      refine zz_iload hX dL_isStruck_75 16 rfl ?_
      refine zz_goto hX 96 dL_isStruck_77 (by decide) ?_
      exact zz_top (rfl) K96

