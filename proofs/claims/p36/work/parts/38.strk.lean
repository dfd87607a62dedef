/-! ===== a frame is struck: the walk ===== -/
theorem zs_ge_le {a b : Int32} (h1 : a ≤ b) (h2 : b ≤ a) : a = b := by rw [zs_le] at h1 h2; rw [zs_eq]; omega
theorem ql_cd_le {a b : Nat} {c : Int32 × Int32} (h : ql_cd a b c) : a ≤ 2 := by
  obtain ⟨h1, -⟩ := h
  omega
theorem zp_mouth_c {S T : zS} {i f : Nat} (e6 : T 6 = S 6) (e7 : T 7 = S 7) (e8 : T 8 = S 8) (e12 : T 12 = S 12) (e13 : T 13 = S 13) : zp_mouth T i f = zp_mouth S i f := by
  unfold zp_mouth zv_st zv_sc
  rw [e6, e7, e8, e12, e13]
set_option maxRecDepth 20000 in
theorem K_tail {Γ : zz_C} {D : zz_D} {E : zz_E} {ad : Nat → Nat} {n : Nat} {S : zS} {sh : zm_Sh} {mi : zm_Mi} {mr : zm_Mr} (hI : ql_I n S sh mi) {i f p : Nat} (hi : i < zv_ns S) (hk : zv_sk S i < zv_fr S i) (hf : f = zv_sk S i) {a : Int32} (ha : S 23 (48 * i + zv_sk S i) = a) (ha9 : zv_in a (-1) 9) (ho : ∀ j, j < zv_jn S (zv_pu S i) → mi 107 (18 * i + 6 * j + zv_sk S i) = S 22 (48 * (6 * i + j) + zv_sk S i)) (h21 : (S 21 0).toInt ≤ n - 1) {Qr : Option Value → zm_Sh → zm_Mi → zm_Mr → Prop} (hq : ∀ mi', ql_N (zt_keep S i) sh mi' → ql_B n (zt_keep S i) → (∀ l, ¬ (100 ≤ l ∧ l < 110) → mi' l = mi l) → Qr none sh mi' mr) (hX : zz_X Γ (D, E, 21, ad, sh) RL cL_strikes 3 0 0) (hr : (zz_h Γ).sig.returnType = none) : zz Γ (D, E, 21, ad, sh) (zz_End Γ (D, E, 21, ad, sh) Qr zz_none 0 0) 0 0 sh mi mr 245 [(0, .ref 100), (1, .ref 101), (2, .ref 102), (3, .ref 103), (4, .ref 104), (5, .ref 105), (6, .ref 106), (7, .ref 107), (8, .ref 108), (9, .ref 109), (10, .int (nI i)), (11, .int (nI f)), (12, .int (nI (6 * i + f))), (13, .int (nI p)), (16, .int (a + nI 1))] [] := by
  subst hf
  obtain ⟨q1, q2, q3, q4, q5, q6, q7, q8, q9, q10, q11, q12⟩ := ql_shot hI hi
  have hw9 := ql_hw_lt hI hi
  refine zz_aload hX dL_strikes_245 8 rfl ?_
  refine zz_bipush (v := nI 36) hX dL_strikes_247 rfl ?_
  refine zz_iload hX dL_strikes_249 12 rfl ?_
  refine zz_iadd (z := nI (36 + (6 * i + zv_sk S i))) hX dL_strikes_251 (nI_add _ _) ?_
  refine zz_aload hX dL_strikes_252 6 rfl ?_
  refine zz_iload hX dL_strikes_254 10 rfl ?_
  refine zz_iload hX dL_strikes_256 11 rfl ?_
  refine zz_sI (x := zp_place S i (zv_sk S i)) hX zf_M_L_127 (As := [.ref 106, .int (nI i), .int (nI (zv_sk S i))]) (st := [.int (nI (36 + (6 * i + zv_sk S i))), .ref 108]) (Q_place n S sh mi mr hI i (by omega) (zv_sk S i) (by omega)) rfl rfl (by decide) (Nat.le_of_ble_eq_true rfl) (Nat.le_of_ble_eq_true rfl) (Nat.le_of_ble_eq_true rfl) dL_strikes_258 ?_
  refine zz_iast hX (ql_s108 hI) (36 + (6 * i + zv_sk S i)) rfl (by omega) (by decide) dL_strikes_261 ?_
  have hI1 : ql_I n S sh (zm_u2 mi 108 (36 + (6 * i + zv_sk S i)) (zp_place S i (zv_sk S i))) := ql_I_fm hI hi hk (Or.inr ⟨rfl, Or.inr (Or.inr rfl)⟩)
  obtain ⟨O, hO0⟩ : ∃ O : Nat → Int32, O = fun k => zm_u2 S 24 (48 * i + zv_sk S i) (zp_place S i (zv_sk S i)) 24 (48 * i + k) := ⟨_, rfl⟩
  have hO : ∀ q, q ≤ zv_sk S i → (zm_u2 mi 108 (36 + (6 * i + zv_sk S i)) (zp_place S i (zv_sk S i))) 108 (36 + (6 * i + q)) = O q := fun q hq9 => by
    rw [hO0]
    by_cases e : q = zv_sk S i
    · rw [e, zm_u2s]; exact zm_u2s.symm
    · rw [zm_u2k (by omega)]; exact (((ql_Ne hI).1 i q hi (by omega)).2.2).trans (zm_u2k (by omega)).symm
  refine zz_iconst (v := nI 0) hX dL_strikes_262 rfl ?_
  refine zz_istore (ls' := [(0, .ref 100), (1, .ref 101), (2, .ref 102), (3, .ref 103), (4, .ref 104), (5, .ref 105), (6, .ref 106), (7, .ref 107), (8, .ref 108), (9, .ref 109), (10, .int (nI i)), (11, .int (nI (zv_sk S i))), (12, .int (nI (6 * i + zv_sk S i))), (13, .int (nI p)), (16, .int (a + nI 1)), (17, .int (nI 0))]) hX dL_strikes_263 (Nat.le_of_ble_eq_true rfl) rfl ?_
  refine zz_iconst (v := nI 0) hX dL_strikes_265 rfl ?_
  refine zz_istore (ls' := [(0, .ref 100), (1, .ref 101), (2, .ref 102), (3, .ref 103), (4, .ref 104), (5, .ref 105), (6, .ref 106), (7, .ref 107), (8, .ref 108), (9, .ref 109), (10, .int (nI i)), (11, .int (nI (zv_sk S i))), (12, .int (nI (6 * i + zv_sk S i))), (13, .int (nI p)), (16, .int (a + nI 1)), (17, .int (nI 0)), (18, .int (nI 0))]) hX dL_strikes_266 (Nat.le_of_ble_eq_true rfl) rfl ?_
  refine zz_bipush (v := nI 6) hX dL_strikes_268 rfl ?_
  refine zz_iload hX dL_strikes_270 10 rfl ?_
  refine zz_imul (z := nI (6 * i)) hX dL_strikes_272 (pk_mul _ _) ?_
  refine zz_iconst (v := nI 1) hX dL_strikes_273 rfl ?_
  refine zz_iadd (z := nI (6 * i + 1)) hX dL_strikes_274 (nI_add _ _) ?_
  refine zz_istore (ls' := [(0, .ref 100), (1, .ref 101), (2, .ref 102), (3, .ref 103), (4, .ref 104), (5, .ref 105), (6, .ref 106), (7, .ref 107), (8, .ref 108), (9, .ref 109), (10, .int (nI i)), (11, .int (nI (zv_sk S i))), (12, .int (nI (6 * i + zv_sk S i))), (13, .int (nI p)), (16, .int (a + nI 1)), (17, .int (nI 0)), (18, .int (nI 0)), (19, .int (nI (6 * i + 1)))]) hX dL_strikes_275 (Nat.le_of_ble_eq_true rfl) rfl ?_
  refine zz_lcl (ls' := [(0, .ref 100), (1, .ref 101), (2, .ref 102), (3, .ref 103), (4, .ref 104), (5, .ref 105), (6, .ref 106), (7, .ref 107), (8, .ref 108), (9, .ref 109), (10, .int (nI i)), (11, .int (nI (zv_sk S i))), (12, .int (nI (6 * i + zv_sk S i))), (13, .int (nI p)), (16, .int (a + nI 1)), (17, .int (nI 0)), (18, .int (nI 0)), (19, .int (nI (6 * i + (0 + 1))))]) rfl ?_
  have L277 : ∀ (k277 : Nat) (q : Nat) (aa : Nat) (bb : Nat), zv_sk S i - q < k277 → (q ≤ zv_sk S i) → (ql_cd aa bb (zs_cs O q)) → (bb ≤ q) → zz Γ (D, E, 21, ad, sh) (zz_End Γ (D, E, 21, ad, sh) Qr zz_none 0 0) 0 0 sh (zm_u2 mi 108 (36 + (6 * i + zv_sk S i)) (zp_place S i (zv_sk S i))) mr 277 [(0, .ref 100), (1, .ref 101), (2, .ref 102), (3, .ref 103), (4, .ref 104), (5, .ref 105), (6, .ref 106), (7, .ref 107), (8, .ref 108), (9, .ref 109), (10, .int (nI i)), (11, .int (nI (zv_sk S i))), (12, .int (nI (6 * i + zv_sk S i))), (13, .int (nI p)), (16, .int (a + nI 1)), (17, .int (nI aa)), (18, .int (nI bb)), (19, .int (nI (6 * i + (q + 1))))] [] := by
    intro k277
    induction k277 with
    | zero => intro q aa bb hk277; exact absurd hk277 (Nat.not_lt_zero _)
    | succ k277 ih277 =>
      intro q aa bb hk277 hq9 hcd hbq
      have haa := ql_cd_le hcd
      refine zz_iload hX dL_strikes_277 17 rfl ?_
      refine zz_iload hX dL_strikes_279 12 rfl ?_
      refine zz_icmp_gtN hX (by omega) (by omega) 366 dL_strikes_281 (by decide) (fun c281 => ?_) (fun c281 => ?_)
      · skip
        obtain rfl : q = zv_sk S i := by omega
        have K402 : zz Γ (D, E, 21, ad, sh) (zz_End Γ (D, E, 21, ad, sh) Qr zz_none 0 0) 0 0 sh (zm_u2 mi 108 (36 + (6 * i + zv_sk S i)) (zp_place S i (zv_sk S i))) mr 402 [(0, .ref 100), (1, .ref 101), (2, .ref 102), (3, .ref 103), (4, .ref 104), (5, .ref 105), (6, .ref 106), (7, .ref 107), (8, .ref 108), (9, .ref 109), (10, .int (nI i)), (11, .int (nI (zv_sk S i))), (12, .int (nI (6 * i + zv_sk S i))), (13, .int (nI p)), (16, .int (a + nI 1)), (17, .int (nI aa)), (18, .int (nI bb)), (19, .int (nI (6 * i + (zv_sk S i + 1))))] [.int (zs_cam O (zv_sk S i) (S 20 0))] := by
          refine zz_istore (ls' := [(0, .ref 100), (1, .ref 101), (2, .ref 102), (3, .ref 103), (4, .ref 104), (5, .ref 105), (6, .ref 106), (7, .ref 107), (8, .ref 108), (9, .ref 109), (10, .int (nI i)), (11, .int (nI (zv_sk S i))), (12, .int (nI (6 * i + zv_sk S i))), (13, .int (nI p)), (16, .int (a + nI 1)), (17, .int (nI aa)), (18, .int (nI bb)), (19, .int (zs_cam O (zv_sk S i) (S 20 0)))]) hX dL_strikes_402 (Nat.le_of_ble_eq_true rfl) rfl ?_
          refine zz_aload hX dL_strikes_404 8 rfl ?_
          refine zz_iload hX dL_strikes_406 12 rfl ?_
          refine zz_iload hX dL_strikes_408 14 rfl ?_
          refine zz_bipush (v := nI 16) hX dL_strikes_410 rfl ?_
          refine zz_iload hX dL_strikes_412 17 rfl ?_
          refine zz_sipush (v := nI 2000) hX dL_strikes_414 rfl ?_
          refine zz_iadd (z := (zs_cam O (zv_sk S i) (S 20 0)) + (nI 2000)) hX dL_strikes_417 rfl ?_
          refine zz_imul (z := (nI 16) * ((zs_cam O (zv_sk S i) (S 20 0)) + (nI 2000))) hX dL_strikes_418 rfl ?_
          refine zz_iadd (z := (a + nI 1) + ((nI 16) * ((zs_cam O (zv_sk S i) (S 20 0)) + (nI 2000)))) hX dL_strikes_419 rfl ?_
          refine zz_ldc (v := 65536) hX zw_con_L_131 dL_strikes_420 ?_
          refine zz_aload hX dL_strikes_422 9 rfl ?_
          refine zz_sI (x := zp_light S) hX zf_M_L_132 (As := [.ref 109]) (st := [.int 65536, .int ((a + nI 1) + ((nI 16) * ((zs_cam O (zv_sk S i) (S 20 0)) + (nI 2000)))), .int (nI (6 * i + zv_sk S i)), .ref 108]) (Q_light n S sh (zm_u2 mi 108 (36 + (6 * i + zv_sk S i)) (zp_place S i (zv_sk S i))) mr hI1) rfl rfl (by decide) (Nat.le_of_ble_eq_true rfl) (Nat.le_of_ble_eq_true rfl) (Nat.le_of_ble_eq_true rfl) dL_strikes_424 ?_
          refine zz_imul (z := 65536 * (zp_light S)) hX dL_strikes_427 rfl ?_
          refine zz_iadd (z := ((a + nI 1) + ((nI 16) * ((zs_cam O (zv_sk S i) (S 20 0)) + (nI 2000)))) + (65536 * (zp_light S))) hX dL_strikes_428 rfl ?_
          refine zz_top (show ((a + nI 1) + ((nI 16) * ((zs_cam O (zv_sk S i) (S 20 0)) + (nI 2000)))) + (65536 * (zp_light S)) = ql_ew a (zs_cam O (zv_sk S i) (S 20 0)) (zp_light S) from rfl) ?_
          refine zz_iast hX (ql_s108 hI) (6 * i + zv_sk S i) rfl (by omega) (by decide) dL_strikes_429 ?_
          refine zz_aload hX dL_strikes_430 8 rfl ?_
          refine zz_bipush (v := nI 18) hX dL_strikes_432 rfl ?_
          refine zz_iload hX dL_strikes_434 12 rfl ?_
          refine zz_iadd (z := nI (18 + (6 * i + zv_sk S i))) hX dL_strikes_436 (nI_add _ _) ?_
          refine zz_aload hX dL_strikes_437 8 rfl ?_
          refine zz_bipush (v := nI 54) hX dL_strikes_439 rfl ?_
          refine zz_iload hX dL_strikes_441 10 rfl ?_
          refine zz_iadd (z := nI (54 + i)) hX dL_strikes_443 (nI_add _ _) ?_
          refine zz_iald (x := S 16 i) hX (ql_s108 hI) (54 + i) rfl (by omega) (by decide) (((zm_u2k (by omega))).trans (((zm_u2k (by omega))).trans (((ql_Ne hI).2 i (by omega))))) dL_strikes_444 ?_
          refine zz_iast hX (ql_s108 hI) (18 + (6 * i + zv_sk S i)) rfl (by omega) (by decide) dL_strikes_445 ?_
          refine zz_aload hX dL_strikes_446 9 rfl ?_
          refine zz_iconst (v := nI 4) hX dL_strikes_448 rfl ?_
          refine zz_dup2 hX dL_strikes_449 rfl rfl ?_
          refine zz_iald (x := S 21 0) hX (ql_s109 hI) 4 rfl (by decide) (by decide) (((zm_u2l (by decide))).trans (((zm_u2l (by decide))).trans (((zm_u2l (by decide))).trans ((ql_g4 hI))))) dL_strikes_450 ?_
          refine zz_iconst (v := nI 1) hX dL_strikes_451 rfl ?_
          refine zz_iadd (z := (S 21 0) + (nI 1)) hX dL_strikes_452 rfl ?_
          refine zz_iast hX (ql_s109 hI) 4 rfl (by decide) (by decide) dL_strikes_453 ?_
          refine zz_aload hX dL_strikes_454 4 rfl ?_
          refine zz_iload hX dL_strikes_456 10 rfl ?_
          refine zz_dup2 hX dL_strikes_458 rfl rfl ?_
          refine zz_iald (x := nI (ql_hw S i)) hX (ql_s104 hI) i rfl (by omega) (by decide) (((zm_u2l (by decide))).trans (((zm_u2l (by decide))).trans (((zm_u2l (by decide))).trans (((zm_u2l (by decide))).trans ((ql_rd_h hI hi)))))) dL_strikes_459 ?_
          refine zz_sipush (v := nI 8192) hX dL_strikes_460 rfl ?_
          refine zz_iadd (z := nI (ql_hw S i + 8192)) hX dL_strikes_463 (nI_add _ _) ?_
          refine zz_iast hX (ql_s104 hI) i rfl (by omega) (by decide) dL_strikes_464 ?_
          refine zz_vret hX hr (Nat.le_of_ble_eq_true rfl) (Nat.le_of_ble_eq_true rfl) dL_strikes_465 ?_
          exact hq _ (ql_keep hI hi hk ha ho (by rw [hO0])) (ql_keep_B hI hi hk (by rw [ha]; exact ha9) h21) (fun l hl => (zm_u2r (by omega)).trans ((zm_u2r (by omega)).trans ((zm_u2r (by omega)).trans ((zm_u2r (by omega)).trans (zm_u2r (by omega))))))
        refine zz_aload hX dL_strikes_366 8 rfl ?_
        refine zz_bipush (v := nI 36) hX dL_strikes_368 rfl ?_
        refine zz_iload hX dL_strikes_370 12 rfl ?_
        refine zz_iadd (z := nI (36 + (6 * i + zv_sk S i))) hX dL_strikes_372 (nI_add _ _) ?_
        refine zz_iald (x := O (zv_sk S i)) hX (ql_s108 hI) (36 + (6 * i + zv_sk S i)) rfl (by omega) (by decide) (hO (zv_sk S i) (by omega)) dL_strikes_373 ?_
        refine zz_iload hX dL_strikes_374 16 rfl ?_
        refine zz_if_neN hX (by omega) 383 dL_strikes_376 (by decide) (fun c376 => ?_) (fun c376 => ?_)
        · skip
          refine zz_iload hX dL_strikes_383 15 rfl ?_
          refine zz_iconst (v := nI 1) hX dL_strikes_385 rfl ?_
          refine zz_icmp_neN hX (by omega) (by decide) 397 dL_strikes_386 (by decide) (fun c386 => ?_) (fun c386 => ?_)
          · skip
            refine zz_aload hX dL_strikes_397 9 rfl ?_
            refine zz_iconst (v := nI 3) hX dL_strikes_399 rfl ?_
            refine zz_iald (x := S 20 0) hX (ql_s109 hI) 3 rfl (by decide) (by decide) (((zm_u2l (by decide))).trans ((ql_g3 hI))) dL_strikes_400 ?_
            refine zz_iadd (z := (O (zv_sk S i)) + (S 20 0)) hX dL_strikes_401 rfl ?_
            exact zz_top (((ql_cam hcd).trans ((if_neg c376).trans (if_neg c386))).symm) K402
          · skip
            refine zz_aload hX dL_strikes_389 9 rfl ?_
            refine zz_iconst (v := nI 3) hX dL_strikes_391 rfl ?_
            refine zz_iald (x := S 20 0) hX (ql_s109 hI) 3 rfl (by decide) (by decide) (((zm_u2l (by decide))).trans ((ql_g3 hI))) dL_strikes_392 ?_
            refine zz_ineg (z := -(S 20 0)) hX dL_strikes_393 rfl ?_
            refine zz_goto hX 401 dL_strikes_394 (by decide) ?_
            refine zz_iadd (z := (O (zv_sk S i)) + (-(S 20 0))) hX dL_strikes_401 rfl ?_
            exact zz_top (((ql_cam hcd).trans ((if_neg c376).trans (if_pos c386))).symm) K402
        · skip
          refine zz_iconst (v := nI 0) hX dL_strikes_379 rfl ?_
          refine zz_goto hX 401 dL_strikes_380 (by decide) ?_
          refine zz_iadd (z := (O (zv_sk S i)) + (nI 0)) hX dL_strikes_401 rfl ?_
          exact zz_top (((ql_cam hcd).trans (if_pos c376)).symm) K402
      · skip
        have K332 : ∀ a2 : Nat, (O q < O (q + 1) ∧ a2 = 1) ∨ (O (q + 1) < O q ∧ a2 = 2) ∨ (O (q + 1) = O q ∧ a2 = aa) → zz Γ (D, E, 21, ad, sh) (zz_End Γ (D, E, 21, ad, sh) Qr zz_none 0 0) 0 0 sh (zm_u2 mi 108 (36 + (6 * i + zv_sk S i)) (zp_place S i (zv_sk S i))) mr 332 [(0, .ref 100), (1, .ref 101), (2, .ref 102), (3, .ref 103), (4, .ref 104), (5, .ref 105), (6, .ref 106), (7, .ref 107), (8, .ref 108), (9, .ref 109), (10, .int (nI i)), (11, .int (nI (zv_sk S i))), (12, .int (nI (6 * i + zv_sk S i))), (13, .int (nI p)), (16, .int (a + nI 1)), (17, .int (nI aa)), (18, .int (nI bb)), (19, .int (nI (6 * i + (q + 1))))] [.int (nI a2)] := by
          intro a2 ha2
          refine zz_istore (ls' := [(0, .ref 100), (1, .ref 101), (2, .ref 102), (3, .ref 103), (4, .ref 104), (5, .ref 105), (6, .ref 106), (7, .ref 107), (8, .ref 108), (9, .ref 109), (10, .int (nI i)), (11, .int (nI (zv_sk S i))), (12, .int (nI (6 * i + zv_sk S i))), (13, .int (nI p)), (16, .int (a + nI 1)), (17, .int (nI aa)), (18, .int (nI bb)), (19, .int (nI (6 * i + (q + 1)))), (20, .int (nI a2))]) hX dL_strikes_332 (Nat.le_of_ble_eq_true rfl) rfl ?_
          refine zz_iload hX dL_strikes_334 16 rfl ?_
          have K353 : ∀ t9 : Nat, (0 < aa ∧ ¬ a2 = aa ∧ t9 = 1) ∨ ((aa = 0 ∨ a2 = aa) ∧ t9 = 0) → zz Γ (D, E, 21, ad, sh) (zz_End Γ (D, E, 21, ad, sh) Qr zz_none 0 0) 0 0 sh (zm_u2 mi 108 (36 + (6 * i + zv_sk S i)) (zp_place S i (zv_sk S i))) mr 353 [(0, .ref 100), (1, .ref 101), (2, .ref 102), (3, .ref 103), (4, .ref 104), (5, .ref 105), (6, .ref 106), (7, .ref 107), (8, .ref 108), (9, .ref 109), (10, .int (nI i)), (11, .int (nI (zv_sk S i))), (12, .int (nI (6 * i + zv_sk S i))), (13, .int (nI p)), (16, .int (a + nI 1)), (17, .int (nI aa)), (18, .int (nI bb)), (19, .int (nI (6 * i + (q + 1)))), (20, .int (nI a2))] [.int (nI t9), .int (nI bb)] := by
            intro t9 ht9
            refine zz_iadd (z := nI (bb + t9)) hX dL_strikes_353 (nI_add _ _) ?_
            refine zz_istore (ls' := [(0, .ref 100), (1, .ref 101), (2, .ref 102), (3, .ref 103), (4, .ref 104), (5, .ref 105), (6, .ref 106), (7, .ref 107), (8, .ref 108), (9, .ref 109), (10, .int (nI i)), (11, .int (nI (zv_sk S i))), (12, .int (nI (6 * i + zv_sk S i))), (13, .int (nI p)), (16, .int (a + nI 1)), (17, .int (nI aa)), (18, .int (nI (bb + t9))), (19, .int (nI (6 * i + (q + 1)))), (20, .int (nI a2))]) hX dL_strikes_354 (Nat.le_of_ble_eq_true rfl) rfl ?_
            refine zz_iload hX dL_strikes_356 18 rfl ?_
            refine zz_istore (ls' := [(0, .ref 100), (1, .ref 101), (2, .ref 102), (3, .ref 103), (4, .ref 104), (5, .ref 105), (6, .ref 106), (7, .ref 107), (8, .ref 108), (9, .ref 109), (10, .int (nI i)), (11, .int (nI (zv_sk S i))), (12, .int (nI (6 * i + zv_sk S i))), (13, .int (nI p)), (16, .int (a + nI 1)), (17, .int (nI a2)), (18, .int (nI (bb + t9))), (19, .int (nI (6 * i + (q + 1)))), (20, .int (nI a2))]) hX dL_strikes_358 (Nat.le_of_ble_eq_true rfl) rfl ?_
            refine zz_iinc (v := nI (6 * i + (q + 1) + 1)) (ls' := [(0, .ref 100), (1, .ref 101), (2, .ref 102), (3, .ref 103), (4, .ref 104), (5, .ref 105), (6, .ref 106), (7, .ref 107), (8, .ref 108), (9, .ref 109), (10, .int (nI i)), (11, .int (nI (zv_sk S i))), (12, .int (nI (6 * i + zv_sk S i))), (13, .int (nI p)), (16, .int (a + nI 1)), (17, .int (nI a2)), (18, .int (nI (bb + t9))), (19, .int (nI (6 * i + (q + 1) + 1))), (20, .int (nI a2))]) hX dL_strikes_360 17 rfl (nI_1 _) (Nat.le_of_ble_eq_true rfl) rfl ?_
            refine zz_goto hX 277 dL_strikes_363 (by decide) ?_
            refine zz_pick (ls' := [(0, .ref 100), (1, .ref 101), (2, .ref 102), (3, .ref 103), (4, .ref 104), (5, .ref 105), (6, .ref 106), (7, .ref 107), (8, .ref 108), (9, .ref 109), (10, .int (nI i)), (11, .int (nI (zv_sk S i))), (12, .int (nI (6 * i + zv_sk S i))), (13, .int (nI p)), (16, .int (a + nI 1)), (17, .int (nI a2)), (18, .int (nI (bb + t9))), (19, .int (nI (6 * i + (q + 1) + 1)))]) [0, 1, 2, 3, 4, 5, 6, 7, 8, 9, 10, 11, 12, 13, 14, 15, 16, 17] rfl ?_
            refine zz_lcl (ls' := [(0, .ref 100), (1, .ref 101), (2, .ref 102), (3, .ref 103), (4, .ref 104), (5, .ref 105), (6, .ref 106), (7, .ref 107), (8, .ref 108), (9, .ref 109), (10, .int (nI i)), (11, .int (nI (zv_sk S i))), (12, .int (nI (6 * i + zv_sk S i))), (13, .int (nI p)), (16, .int (a + nI 1)), (17, .int (nI a2)), (18, .int (nI (bb + t9))), (19, .int (nI (6 * i + ((q + 1) + 1))))]) (congrArg (fun z => [((0 : Nat), Value.ref 100), (1, Value.ref 101), (2, Value.ref 102), (3, Value.ref 103), (4, Value.ref 104), (5, Value.ref 105), (6, Value.ref 106), (7, Value.ref 107), (8, Value.ref 108), (9, Value.ref 109), (10, Value.int (nI i)), (11, Value.int (nI (zv_sk S i))), (12, Value.int (nI (6 * i + zv_sk S i))), (13, Value.int (nI p)), (16, Value.int (a + nI 1)), (17, Value.int (nI a2)), (18, Value.int (nI (bb + t9))), (19, Value.int (nI z))]) (show 6 * i + (q + 1) + 1 = 6 * i + ((q + 1) + 1) by omega)) ?_
            exact ih277 (q + 1) a2 (bb + t9) (by omega) (by omega) (ql_cd_s hcd (by omega) ha2 (by omega)) (by omega)
          refine zz_iload hX dL_strikes_336 15 rfl ?_
          refine zz_if_leN hX (by omega) 352 dL_strikes_338 (by decide) (fun c338 => ?_) (fun c338 => ?_)
          · skip
            refine zz_iconst (v := nI 0) hX dL_strikes_352 rfl ?_
            exact K353 0 (by omega)
          · skip
            refine zz_iload hX dL_strikes_341 18 rfl ?_
            refine zz_iload hX dL_strikes_343 15 rfl ?_
            refine zz_icmp_eqN hX (by omega) (by omega) 352 dL_strikes_345 (by decide) (fun c345 => ?_) (fun c345 => ?_)
            · skip
              refine zz_iconst (v := nI 0) hX dL_strikes_352 rfl ?_
              exact K353 0 (by omega)
            · skip
              refine zz_iconst (v := nI 1) hX dL_strikes_348 rfl ?_
              refine zz_goto hX 353 dL_strikes_349 (by decide) ?_
              exact K353 1 (by omega)
        refine zz_aload hX dL_strikes_284 8 rfl ?_
        refine zz_bipush (v := nI 36) hX dL_strikes_286 rfl ?_
        refine zz_iload hX dL_strikes_288 17 rfl ?_
        refine zz_iadd (z := nI (36 + (6 * i + (q + 1)))) hX dL_strikes_290 (nI_add _ _) ?_
        refine zz_iald (x := O (q + 1)) hX (ql_s108 hI) (36 + (6 * i + (q + 1))) rfl (by omega) (by decide) (hO (q + 1) (by omega)) dL_strikes_291 ?_
        refine zz_aload hX dL_strikes_292 8 rfl ?_
        refine zz_bipush (v := nI 35) hX dL_strikes_294 rfl ?_
        refine zz_iload hX dL_strikes_296 17 rfl ?_
        refine zz_iadd (z := nI (35 + (6 * i + (q + 1)))) hX dL_strikes_298 (nI_add _ _) ?_
        refine zz_iald (x := O q) hX (ql_s108 hI) (35 + (6 * i + (q + 1))) rfl (by omega) (by decide) ((congrArg ((zm_u2 mi 108 (36 + (6 * i + zv_sk S i)) (zp_place S i (zv_sk S i))) 108) (show 35 + (6 * i + (q + 1)) = 36 + (6 * i + q) by omega)).trans (hO q (by omega))) dL_strikes_299 ?_
        refine zz_icmp_le hX 307 dL_strikes_300 (by decide) (fun c300 => ?_) (fun c300 => ?_)
        · skip
          refine zz_aload hX dL_strikes_307 8 rfl ?_
          refine zz_bipush (v := nI 36) hX dL_strikes_309 rfl ?_
          refine zz_iload hX dL_strikes_311 17 rfl ?_
          refine zz_iadd (z := nI (36 + (6 * i + (q + 1)))) hX dL_strikes_313 (nI_add _ _) ?_
          refine zz_iald (x := O (q + 1)) hX (ql_s108 hI) (36 + (6 * i + (q + 1))) rfl (by omega) (by decide) (hO (q + 1) (by omega)) dL_strikes_314 ?_
          refine zz_aload hX dL_strikes_315 8 rfl ?_
          refine zz_bipush (v := nI 35) hX dL_strikes_317 rfl ?_
          refine zz_iload hX dL_strikes_319 17 rfl ?_
          refine zz_iadd (z := nI (35 + (6 * i + (q + 1)))) hX dL_strikes_321 (nI_add _ _) ?_
          refine zz_iald (x := O q) hX (ql_s108 hI) (35 + (6 * i + (q + 1))) rfl (by omega) (by decide) ((congrArg ((zm_u2 mi 108 (36 + (6 * i + zv_sk S i)) (zp_place S i (zv_sk S i))) 108) (show 35 + (6 * i + (q + 1)) = 36 + (6 * i + q) by omega)).trans (hO q (by omega))) dL_strikes_322 ?_
          refine zz_icmp_ge hX 330 dL_strikes_323 (by decide) (fun c323 => ?_) (fun c323 => ?_)
          · skip
            refine zz_iload hX dL_strikes_330 15 rfl ?_
            exact K332 aa (Or.inr (Or.inr ⟨zs_ge_le c300 c323, rfl⟩))
          · skip
            refine zz_iconst (v := nI 2) hX dL_strikes_326 rfl ?_
            refine zz_goto hX 332 dL_strikes_327 (by decide) ?_
            exact K332 2 (Or.inr (Or.inl ⟨zs_nle9 c323, rfl⟩))
        · skip
          refine zz_iconst (v := nI 1) hX dL_strikes_303 rfl ?_
          refine zz_goto hX 332 dL_strikes_304 (by decide) ?_
          exact K332 1 (Or.inl ⟨zs_nle9 c300, rfl⟩)
  exact L277 ((zv_sk S i - 0 + 1)) 0 0 0 (by omega) (Nat.zero_le _) (ql_cd0 O) (Nat.le_refl _)
set_option maxRecDepth 20000 in
theorem K_hold {Γ : zz_C} {D : zz_D} {E : zz_E} {ad : Nat → Nat} {n : Nat} {S : zS} {sh : zm_Sh} {mi : zm_Mi} {mr : zm_Mr} (hI : ql_I n S sh mi) {i f p : Nat} (hi : i < zv_ns S) (hk : zv_sk S i < zv_fr S i) (hh : zp_held S i (zv_sk S i)) (hf : f = zv_sk S i) (hp : p = zv_pu S i) (h21 : (S 21 0).toInt ≤ n - 1) {Qr : Option Value → zm_Sh → zm_Mi → zm_Mr → Prop} (hq : ∀ mi', ql_N (zt_keep (zt_hold S i) i) sh mi' → ql_B n (zt_keep (zt_hold S i) i) → (∀ l, ¬ (100 ≤ l ∧ l < 110) → mi' l = mi l) → Qr none sh mi' mr) (hX : zz_X Γ (D, E, 21, ad, sh) RL cL_strikes 3 0 0) (hr : (zz_h Γ).sig.returnType = none) : zz Γ (D, E, 21, ad, sh) (zz_End Γ (D, E, 21, ad, sh) Qr zz_none 0 0) 0 0 sh mi mr 84 [(0, .ref 100), (1, .ref 101), (2, .ref 102), (3, .ref 103), (4, .ref 104), (5, .ref 105), (6, .ref 106), (7, .ref 107), (8, .ref 108), (9, .ref 109), (10, .int (nI i)), (11, .int (nI f)), (12, .int (nI (6 * i + f))), (13, .int (nI p)), (14, .int (nI 1))] [] := by
  obtain ⟨q1, q2, q3, q4, q5, q6, q7, q8, q9, q10, q11, q12⟩ := ql_shot hI hi
  have hw9 := ql_hw_lt hI hi
  have h0 := zs_pf_held0 hh
  have hjp : zv_jn S p = zv_jn S (zv_pu S i) := by rw [hp]
  refine zz_iload hX dL_strikes_84 14 rfl ?_
  refine zz_if_eq hX 102 dL_strikes_86 (by decide) (fun c => absurd c (by decide)) (fun _ => ?_)
  refine zz_aload hX dL_strikes_89 8 rfl ?_
  refine zz_iload hX dL_strikes_91 12 rfl ?_
  refine zz_iconst (v := nI 1) hX dL_strikes_93 rfl ?_
  refine zz_isub (z := nI (6 * i + f - 1)) hX dL_strikes_94 (pk_sub (by omega)) ?_
  refine zz_iald (x := ql_ew (S 23 (48 * i + (f - 1))) (S 25 (48 * i + (f - 1))) (S 26 (48 * i + (f - 1)))) hX (ql_s108 hI) (6 * i + f - 1) rfl (by omega) (by decide) (((congrArg (mi 108) (show 6 * i + f - 1 = 6 * i + (f - 1) by omega)).trans ((ql_Ne hI).1 i (f - 1) hi (by omega)).1)) dL_strikes_95 ?_
  refine zz_bipush (v := nI 16) hX dL_strikes_96 rfl ?_
  refine zz_irem (z := S 23 (48 * i + (f - 1)) + nI 1) hX dL_strikes_98 (by decide) (ql_ew16 ((ql_BB hI).2.2.2.2.2.2 i (f - 1) hi (by omega)).1 ((ql_BB hI).2.2.2.2.2.2 i (f - 1) hi (by omega)).2.1 ((ql_BB hI).2.2.2.2.2.2 i (f - 1) hi (by omega)).2.2) ?_
  refine zz_goto hX 114 dL_strikes_99 (by decide) ?_
  refine zz_istore (ls' := [(0, .ref 100), (1, .ref 101), (2, .ref 102), (3, .ref 103), (4, .ref 104), (5, .ref 105), (6, .ref 106), (7, .ref 107), (8, .ref 108), (9, .ref 109), (10, .int (nI i)), (11, .int (nI f)), (12, .int (nI (6 * i + f))), (13, .int (nI p)), (14, .int (nI 1)), (16, .int (S 23 (48 * i + (f - 1)) + nI 1))]) hX dL_strikes_114 (Nat.le_of_ble_eq_true rfl) rfl ?_
  refine zz_iconst (v := nI 0) hX dL_strikes_116 rfl ?_
  refine zz_istore (ls' := [(0, .ref 100), (1, .ref 101), (2, .ref 102), (3, .ref 103), (4, .ref 104), (5, .ref 105), (6, .ref 106), (7, .ref 107), (8, .ref 108), (9, .ref 109), (10, .int (nI i)), (11, .int (nI f)), (12, .int (nI (6 * i + f))), (13, .int (nI p)), (14, .int (nI 1)), (16, .int (S 23 (48 * i + (f - 1)) + nI 1)), (17, .int (nI 0))]) hX dL_strikes_117 (Nat.le_of_ble_eq_true rfl) rfl ?_
  have L119 : ∀ (k119 : Nat) (j : Nat) (mj : zm_Mi), zv_jn S p - j < k119 → (j ≤ zv_jn S p) → (ql_I n S sh mj) → (∀ q, q < j → mj 107 (18 * i + 6 * q + f) = S 22 (48 * (6 * i + q) + (f - 1))) → ((∀ l, ¬ (100 ≤ l ∧ l < 110) → mj l = mi l)) → zz Γ (D, E, 21, ad, sh) (zz_End Γ (D, E, 21, ad, sh) Qr zz_none 0 0) 0 0 sh mj mr 119 [(0, .ref 100), (1, .ref 101), (2, .ref 102), (3, .ref 103), (4, .ref 104), (5, .ref 105), (6, .ref 106), (7, .ref 107), (8, .ref 108), (9, .ref 109), (10, .int (nI i)), (11, .int (nI f)), (12, .int (nI (6 * i + f))), (13, .int (nI p)), (14, .int (nI 1)), (16, .int (S 23 (48 * i + (f - 1)) + nI 1)), (17, .int (nI j))] [] := by
    intro k119
    induction k119 with
    | zero => intro j mj hk119; exact absurd hk119 (Nat.not_lt_zero _)
    | succ k119 ih119 =>
      intro j mj hk119 hj9 hIj hoj hfr
      refine zz_iload hX dL_strikes_119 16 rfl ?_
      refine zz_aload_n hX dL_strikes_121 0 rfl rfl ?_
      refine zz_iload hX dL_strikes_122 13 rfl ?_
      refine zz_iald (x := nI (zv_jn S p)) hX (ql_s100 hI) p rfl (by omega) (by decide) ((ql_g100 hIj (by omega))) dL_strikes_124 ?_
      refine zz_icmp_geN hX (by omega) (by omega) 245 dL_strikes_125 (by decide) (fun c125 => ?_) (fun c125 => ?_)
      · skip
        obtain ⟨g1, g2, g3, g4, g5, -⟩ := zv_same (S := S) (T := zt_hold S i) (i := i) (zt_hold_r (by decide) (by decide)) (zt_hold_r (by decide) (by decide)) (zt_hold_r (by decide) (by decide)) (zt_hold_r (by decide) (by decide)) (zt_hold_r (by decide) (by decide)) (zt_hold_r (by decide) (by decide))
        refine zz_pick (ls' := [(0, .ref 100), (1, .ref 101), (2, .ref 102), (3, .ref 103), (4, .ref 104), (5, .ref 105), (6, .ref 106), (7, .ref 107), (8, .ref 108), (9, .ref 109), (10, .int (nI i)), (11, .int (nI f)), (12, .int (nI (6 * i + f))), (13, .int (nI p)), (16, .int (S 23 (48 * i + (f - 1)) + nI 1))]) [0, 1, 2, 3, 4, 5, 6, 7, 8, 9, 10, 11, 12, 13, 15] rfl ?_
        refine K_tail (S := zt_hold S i) (mi := mj) (ql_I_hj hIj hi hk rfl _ (by omega)) (by rw [g1]; exact hi) (by rw [g2, g3]; exact hk) (by rw [g2]; exact hf) (a := S 23 (48 * i + (f - 1))) (by rw [g2, hf]; exact zt_hj_23 _) ((ql_BB hI).2.2.2.2.2.2 i (f - 1) hi (by omega)).1 (fun b hb => ?_) (by rw [zt_hold_r (by decide) (by decide)]; exact h21) (fun mi' k1 k2 k3 => hq mi' k1 k2 (fun l hl => (k3 l hl).trans (hfr l hl))) hX hr
        rw [g4, g5, ← hp] at hb
        rw [g2, ← hf]
        refine (hoj b (by omega)).trans ?_
        have z := (zt_hj_22 (S := S) (i := i) (f := f) (by omega) (by omega) (zv_jn S p) (k := b) (by omega) (by omega)).2 hb
        rw [← z]; unfold zt_hold; rw [← hf, ← hp]
      · skip
        refine zz_iload hX dL_strikes_128 14 rfl ?_
        refine zz_if_eq hX 155 dL_strikes_130 (by decide) (fun c => absurd c (by decide)) (fun _ => ?_)
        refine zz_aload hX dL_strikes_133 7 rfl ?_
        refine zz_bipush (v := nI 18) hX dL_strikes_135 rfl ?_
        refine zz_iload hX dL_strikes_137 10 rfl ?_
        refine zz_imul (z := nI (18 * i)) hX dL_strikes_139 (pk_mul _ _) ?_
        refine zz_bipush (v := nI 6) hX dL_strikes_140 rfl ?_
        refine zz_iload hX dL_strikes_142 16 rfl ?_
        refine zz_imul (z := nI (6 * j)) hX dL_strikes_144 (pk_mul _ _) ?_
        refine zz_iadd (z := nI (18 * i + 6 * j)) hX dL_strikes_145 (nI_add _ _) ?_
        refine zz_iload hX dL_strikes_146 11 rfl ?_
        refine zz_iadd (z := nI (18 * i + 6 * j + f)) hX dL_strikes_148 (nI_add _ _) ?_
        refine zz_iconst (v := nI 1) hX dL_strikes_149 rfl ?_
        refine zz_isub (z := nI (18 * i + 6 * j + f - 1)) hX dL_strikes_150 (pk_sub (by omega)) ?_
        refine zz_iald (x := S 22 (48 * (6 * i + j) + (f - 1))) hX (ql_s107 hI) (18 * i + 6 * j + f - 1) rfl (by omega) (by decide) (((congrArg (mj 107) (show 18 * i + 6 * j + f - 1 = 18 * i + 6 * j + (f - 1) by omega)).trans (ql_No hIj i j (f - 1) hi (by omega) (by omega)))) dL_strikes_151 ?_
        refine zz_goto hX 168 dL_strikes_152 (by decide) ?_
        refine zz_istore (ls' := [(0, .ref 100), (1, .ref 101), (2, .ref 102), (3, .ref 103), (4, .ref 104), (5, .ref 105), (6, .ref 106), (7, .ref 107), (8, .ref 108), (9, .ref 109), (10, .int (nI i)), (11, .int (nI f)), (12, .int (nI (6 * i + f))), (13, .int (nI p)), (14, .int (nI 1)), (16, .int (S 23 (48 * i + (f - 1)) + nI 1)), (17, .int (nI j)), (18, .int (S 22 (48 * (6 * i + j) + (f - 1))))]) hX dL_strikes_168 (Nat.le_of_ble_eq_true rfl) rfl ?_
        refine zz_iconst (v := nI 3) hX dL_strikes_170 rfl ?_
        refine zz_iload hX dL_strikes_171 13 rfl ?_
        refine zz_imul (z := nI (3 * p)) hX dL_strikes_173 (pk_mul _ _) ?_
        refine zz_iload hX dL_strikes_174 16 rfl ?_
        refine zz_iadd (z := nI (3 * p + j)) hX dL_strikes_176 (nI_add _ _) ?_
        refine zz_istore (ls' := [(0, .ref 100), (1, .ref 101), (2, .ref 102), (3, .ref 103), (4, .ref 104), (5, .ref 105), (6, .ref 106), (7, .ref 107), (8, .ref 108), (9, .ref 109), (10, .int (nI i)), (11, .int (nI f)), (12, .int (nI (6 * i + f))), (13, .int (nI p)), (14, .int (nI 1)), (16, .int (S 23 (48 * i + (f - 1)) + nI 1)), (17, .int (nI j)), (18, .int (S 22 (48 * (6 * i + j) + (f - 1)))), (19, .int (nI (3 * p + j)))]) hX dL_strikes_177 (Nat.le_of_ble_eq_true rfl) rfl ?_
        refine zz_aload hX dL_strikes_179 7 rfl ?_
        refine zz_bipush (v := nI 18) hX dL_strikes_181 rfl ?_
        refine zz_iload hX dL_strikes_183 10 rfl ?_
        refine zz_imul (z := nI (18 * i)) hX dL_strikes_185 (pk_mul _ _) ?_
        refine zz_bipush (v := nI 6) hX dL_strikes_186 rfl ?_
        refine zz_iload hX dL_strikes_188 16 rfl ?_
        refine zz_imul (z := nI (6 * j)) hX dL_strikes_190 (pk_mul _ _) ?_
        refine zz_iadd (z := nI (18 * i + 6 * j)) hX dL_strikes_191 (nI_add _ _) ?_
        refine zz_iload hX dL_strikes_192 11 rfl ?_
        refine zz_iadd (z := nI (18 * i + 6 * j + f)) hX dL_strikes_194 (nI_add _ _) ?_
        refine zz_iload hX dL_strikes_195 17 rfl ?_
        refine zz_iast hX (ql_s107 hI) (18 * i + 6 * j + f) rfl (by omega) (by decide) dL_strikes_197 ?_
        refine zz_iload hX dL_strikes_198 14 rfl ?_
        refine zz_if_ne hX 239 dL_strikes_200 (by decide) (fun _ => ?_) (fun c => absurd c (by decide))
        refine zz_iinc (v := nI (j + 1)) (ls' := [(0, .ref 100), (1, .ref 101), (2, .ref 102), (3, .ref 103), (4, .ref 104), (5, .ref 105), (6, .ref 106), (7, .ref 107), (8, .ref 108), (9, .ref 109), (10, .int (nI i)), (11, .int (nI f)), (12, .int (nI (6 * i + f))), (13, .int (nI p)), (14, .int (nI 1)), (16, .int (S 23 (48 * i + (f - 1)) + nI 1)), (17, .int (nI (j + 1))), (18, .int (S 22 (48 * (6 * i + j) + (f - 1)))), (19, .int (nI (3 * p + j)))]) hX dL_strikes_239 16 rfl (nI_1 _) (Nat.le_of_ble_eq_true rfl) rfl ?_
        refine zz_goto hX 119 dL_strikes_242 (by decide) ?_
        refine zz_pick (ls' := [(0, .ref 100), (1, .ref 101), (2, .ref 102), (3, .ref 103), (4, .ref 104), (5, .ref 105), (6, .ref 106), (7, .ref 107), (8, .ref 108), (9, .ref 109), (10, .int (nI i)), (11, .int (nI f)), (12, .int (nI (6 * i + f))), (13, .int (nI p)), (14, .int (nI 1)), (16, .int (S 23 (48 * i + (f - 1)) + nI 1)), (17, .int (nI (j + 1)))]) [0, 1, 2, 3, 4, 5, 6, 7, 8, 9, 10, 11, 12, 13, 14, 15, 16] rfl ?_
        refine ih119 (j + 1) _ (by omega) (by omega) (ql_I_fm hIj hi hk (Or.inl ⟨rfl, j, by omega, by rw [hf]⟩)) (fun q hq9 => ?_) (fun l hl => (zm_u2r (by omega)).trans (hfr l hl))
        by_cases e : q = j
        · rw [e]; exact zm_u2s
        · rw [zm_u2k (by omega)]; exact hoj q (by omega)
  exact L119 ((zv_jn S p - 0) + 1) 0 mi (by omega) (Nat.zero_le _) (hI) (fun q h9 => absurd h9 (Nat.not_lt_zero _)) (fun l _ => rfl)
theorem hmo {x : Int32} (h : x = -1 ∨ zs_ix x 10) : zv_in x (-1) 9 := by
  unfold zv_in
  rcases h with e | e
  · rw [e]; exact ⟨by decide, by decide⟩
  · unfold zs_ix at e; omega
set_option maxRecDepth 20000 in
theorem K_pose {Γ : zz_C} {D : zz_D} {E : zz_E} {ad : Nat → Nat} {n : Nat} {S : zS} {sh : zm_Sh} {mi : zm_Mi} {mr : zm_Mr} (hI : ql_I n S sh mi) {i f p : Nat} (hi : i < zv_ns S) (hk : zv_sk S i < zv_fr S i) (hf : f = zv_sk S i) (hp : p = zv_pu S i) (hm : S 23 (48 * i + f) = zp_mouth S i f) (h3 : ∀ c, (S 3 c).toInt ≤ 180 * n - 180) (h21 : (S 21 0).toInt ≤ n - 1) {Qr : Option Value → zm_Sh → zm_Mi → zm_Mr → Prop} (hq : ∀ mi', ql_N (zt_keep (zt_pose S p i f (zv_jn S p)) i) sh mi' → ql_B n (zt_keep (zt_pose S p i f (zv_jn S p)) i) → (∀ l, ¬ (100 ≤ l ∧ l < 110) → mi' l = mi l) → Qr none sh mi' mr) (hX : zz_X Γ (D, E, 21, ad, sh) RL cL_strikes 3 0 0) (hr : (zz_h Γ).sig.returnType = none) : zz Γ (D, E, 21, ad, sh) (zz_End Γ (D, E, 21, ad, sh) Qr zz_none 0 0) 0 0 sh mi mr 84 [(0, .ref 100), (1, .ref 101), (2, .ref 102), (3, .ref 103), (4, .ref 104), (5, .ref 105), (6, .ref 106), (7, .ref 107), (8, .ref 108), (9, .ref 109), (10, .int (nI i)), (11, .int (nI f)), (12, .int (nI (6 * i + f))), (13, .int (nI p)), (14, .int (nI 0))] [] := by
  obtain ⟨q1, q2, q3, q4, q5, q6, q7, q8, q9, q10, q11, q12⟩ := ql_shot hI hi
  have hw9 := ql_hw_lt hI hi
  have hjp : zv_jn S p = zv_jn S (zv_pu S i) := by rw [hp]
  refine zz_iload hX dL_strikes_84 14 rfl ?_
  refine zz_if_eq hX 102 dL_strikes_86 (by decide) (fun _ => ?_) (fun c => absurd c (by decide))
  refine zz_aload hX dL_strikes_102 4 rfl ?_
  refine zz_aload_n hX dL_strikes_104 3 rfl rfl ?_
  refine zz_iload hX dL_strikes_105 10 rfl ?_
  refine zz_iload hX dL_strikes_107 11 rfl ?_
  refine zz_sI (x := zp_mouth S i f) hX zf_M_L_108 (As := [.ref 104, .ref 103, .int (nI i), .int (nI f)]) (st := []) (Q_mouth n S sh mi mr hI i (by omega) f (by omega)) rfl rfl (by decide) (Nat.le_of_ble_eq_true rfl) (Nat.le_of_ble_eq_true rfl) (Nat.le_of_ble_eq_true rfl) dL_strikes_109 ?_
  refine zz_iconst (v := nI 1) hX dL_strikes_112 rfl ?_
  refine zz_iadd (z := (zp_mouth S i f) + (nI 1)) hX dL_strikes_113 rfl ?_
  refine zz_istore (ls' := [(0, .ref 100), (1, .ref 101), (2, .ref 102), (3, .ref 103), (4, .ref 104), (5, .ref 105), (6, .ref 106), (7, .ref 107), (8, .ref 108), (9, .ref 109), (10, .int (nI i)), (11, .int (nI f)), (12, .int (nI (6 * i + f))), (13, .int (nI p)), (14, .int (nI 0)), (16, .int ((zp_mouth S i f) + (nI 1)))]) hX dL_strikes_114 (Nat.le_of_ble_eq_true rfl) rfl ?_
  refine zz_iconst (v := nI 0) hX dL_strikes_116 rfl ?_
  refine zz_istore (ls' := [(0, .ref 100), (1, .ref 101), (2, .ref 102), (3, .ref 103), (4, .ref 104), (5, .ref 105), (6, .ref 106), (7, .ref 107), (8, .ref 108), (9, .ref 109), (10, .int (nI i)), (11, .int (nI f)), (12, .int (nI (6 * i + f))), (13, .int (nI p)), (14, .int (nI 0)), (16, .int ((zp_mouth S i f) + (nI 1))), (17, .int (nI 0))]) hX dL_strikes_117 (Nat.le_of_ble_eq_true rfl) rfl ?_
  have L119 : ∀ (k119 : Nat) (j : Nat) (T : zS) (mj : zm_Mi), zv_jn S p - j < k119 → (j ≤ zv_jn S p) → (T = zt_pose S p i f j) → (ql_I n T sh mj) → (∀ q, q < j → mj 107 (18 * i + 6 * q + f) = zp_deg S i q f) → ((∀ l, ¬ (100 ≤ l ∧ l < 110) → mj l = mi l)) → zz Γ (D, E, 21, ad, sh) (zz_End Γ (D, E, 21, ad, sh) Qr zz_none 0 0) 0 0 sh mj mr 119 [(0, .ref 100), (1, .ref 101), (2, .ref 102), (3, .ref 103), (4, .ref 104), (5, .ref 105), (6, .ref 106), (7, .ref 107), (8, .ref 108), (9, .ref 109), (10, .int (nI i)), (11, .int (nI f)), (12, .int (nI (6 * i + f))), (13, .int (nI p)), (14, .int (nI 0)), (16, .int (zp_mouth S i f + nI 1)), (17, .int (nI j))] [] := by
    intro k119
    induction k119 with
    | zero => intro j T mj hk119; exact absurd hk119 (Nat.not_lt_zero _)
    | succ k119 ih119 =>
      intro j T mj hk119 hj9 hT hIj hoj hfr
      have ET : ∀ r, r ≠ 2 → r ≠ 3 → r ≠ 22 → T r = S r := fun r e2 e3 e22 => by rw [hT]; exact zt_pose_r S p i f e2 e3 e22 j
      obtain ⟨g1, g2, g3, g4, g5, -⟩ := zv_same (S := S) (T := T) (i := i) (ET 1 (by decide) (by decide) (by decide)) (ET 9 (by decide) (by decide) (by decide)) (ET 10 (by decide) (by decide) (by decide)) (ET 11 (by decide) (by decide) (by decide)) (ET 14 (by decide) (by decide) (by decide)) (ET 15 (by decide) (by decide) (by decide))
      have g5p := g5 p
      have gnp : zv_np T = zv_np S := by unfold zv_np; rw [ET 0 (by decide) (by decide) (by decide)]
      obtain ⟨d, hd⟩ : ∃ d, d = zp_deg S i j f := ⟨_, rfl⟩
      have hd9 : zv_in d 0 359 := by rw [hd]; exact zp_deg_in (ql_W hI) i j f (by omega)
      refine zz_iload hX dL_strikes_119 16 rfl ?_
      refine zz_aload_n hX dL_strikes_121 0 rfl rfl ?_
      refine zz_iload hX dL_strikes_122 13 rfl ?_
      refine zz_iald (x := nI (zv_jn T p)) hX (ql_s100 hI) p rfl (by omega) (by decide) ((ql_g100 hIj (by omega))) dL_strikes_124 ?_
      refine zz_icmp_geN hX (by omega) (by omega) 245 dL_strikes_125 (by decide) (fun c125 => ?_) (fun c125 => ?_)
      · skip
        obtain rfl : j = zv_jn S p := by omega
        refine zz_pick (ls' := [(0, .ref 100), (1, .ref 101), (2, .ref 102), (3, .ref 103), (4, .ref 104), (5, .ref 105), (6, .ref 106), (7, .ref 107), (8, .ref 108), (9, .ref 109), (10, .int (nI i)), (11, .int (nI f)), (12, .int (nI (6 * i + f))), (13, .int (nI p)), (16, .int (zp_mouth S i f + nI 1))]) [0, 1, 2, 3, 4, 5, 6, 7, 8, 9, 10, 11, 12, 13, 15] rfl ?_
        refine K_tail (S := T) (mi := mj) hIj (by omega) (by omega) (by omega) (a := zp_mouth S i f) (by rw [g2, ← hf, hT, zt_pose_23]; exact hm) (hmo (zp_mouth_in (ql_W hI) hi f)) (fun b hb => ?_) (by rw [ET 21 (by decide) (by decide) (by decide)]; exact h21) (fun mi' k1 k2 k3 => hq mi' (hT ▸ k1) (hT ▸ k2) (fun l hl => (k3 l hl).trans (hfr l hl))) hX hr
        rw [g4, g5, ← hp] at hb
        rw [g2, ← hf, hT]
        exact (hoj b hb).trans (zt_pose_22 (zv_jn S p) hb (by omega)).symm
      · skip
        refine zz_iload hX dL_strikes_128 14 rfl ?_
        refine zz_if_eq hX 155 dL_strikes_130 (by decide) (fun _ => ?_) (fun c => absurd c (by decide))
        refine zz_aload hX dL_strikes_155 4 rfl ?_
        refine zz_aload hX dL_strikes_157 5 rfl ?_
        refine zz_iload hX dL_strikes_159 10 rfl ?_
        refine zz_iload hX dL_strikes_161 16 rfl ?_
        refine zz_iload hX dL_strikes_163 11 rfl ?_
        refine zz_sI (x := zp_deg T i j f) hX zf_M_L_120 (As := [.ref 104, .ref 105, .int (nI i), .int (nI j), .int (nI f)]) (st := []) (Q_degree n T sh mj mr hIj i (by omega) j (by omega) f (by omega)) rfl rfl (by decide) (Nat.le_of_ble_eq_true rfl) (Nat.le_of_ble_eq_true rfl) (Nat.le_of_ble_eq_true rfl) dL_strikes_165 ?_
        refine zz_top (show zp_deg T i j f = d by rw [hd]; exact zp_deg_c (ET 12 (by decide) (by decide) (by decide)) (ET 18 (by decide) (by decide) (by decide))) ?_
        refine zz_istore (ls' := [(0, .ref 100), (1, .ref 101), (2, .ref 102), (3, .ref 103), (4, .ref 104), (5, .ref 105), (6, .ref 106), (7, .ref 107), (8, .ref 108), (9, .ref 109), (10, .int (nI i)), (11, .int (nI f)), (12, .int (nI (6 * i + f))), (13, .int (nI p)), (14, .int (nI 0)), (16, .int (zp_mouth S i f + nI 1)), (17, .int (nI j)), (18, .int d)]) hX dL_strikes_168 (Nat.le_of_ble_eq_true rfl) rfl ?_
        refine zz_iconst (v := nI 3) hX dL_strikes_170 rfl ?_
        refine zz_iload hX dL_strikes_171 13 rfl ?_
        refine zz_imul (z := nI (3 * p)) hX dL_strikes_173 (pk_mul _ _) ?_
        refine zz_iload hX dL_strikes_174 16 rfl ?_
        refine zz_iadd (z := nI (3 * p + j)) hX dL_strikes_176 (nI_add _ _) ?_
        refine zz_istore (ls' := [(0, .ref 100), (1, .ref 101), (2, .ref 102), (3, .ref 103), (4, .ref 104), (5, .ref 105), (6, .ref 106), (7, .ref 107), (8, .ref 108), (9, .ref 109), (10, .int (nI i)), (11, .int (nI f)), (12, .int (nI (6 * i + f))), (13, .int (nI p)), (14, .int (nI 0)), (16, .int (zp_mouth S i f + nI 1)), (17, .int (nI j)), (18, .int d), (19, .int (nI (3 * p + j)))]) hX dL_strikes_177 (Nat.le_of_ble_eq_true rfl) rfl ?_
        refine zz_aload hX dL_strikes_179 7 rfl ?_
        refine zz_bipush (v := nI 18) hX dL_strikes_181 rfl ?_
        refine zz_iload hX dL_strikes_183 10 rfl ?_
        refine zz_imul (z := nI (18 * i)) hX dL_strikes_185 (pk_mul _ _) ?_
        refine zz_bipush (v := nI 6) hX dL_strikes_186 rfl ?_
        refine zz_iload hX dL_strikes_188 16 rfl ?_
        refine zz_imul (z := nI (6 * j)) hX dL_strikes_190 (pk_mul _ _) ?_
        refine zz_iadd (z := nI (18 * i + 6 * j)) hX dL_strikes_191 (nI_add _ _) ?_
        refine zz_iload hX dL_strikes_192 11 rfl ?_
        refine zz_iadd (z := nI (18 * i + 6 * j + f)) hX dL_strikes_194 (nI_add _ _) ?_
        refine zz_iload hX dL_strikes_195 17 rfl ?_
        refine zz_iast hX (ql_s107 hI) (18 * i + 6 * j + f) rfl (by omega) (by decide) dL_strikes_197 ?_
        refine zz_iload hX dL_strikes_198 14 rfl ?_
        refine zz_if_ne hX 239 dL_strikes_200 (by decide) (fun c => absurd c (by decide)) (fun _ => ?_)
        refine zz_aload_n hX dL_strikes_203 1 rfl rfl ?_
        refine zz_iload hX dL_strikes_204 18 rfl ?_
        refine zz_dup2 hX dL_strikes_206 rfl rfl ?_
        refine zz_iald (x := T 3 (6 * p + j) * nI 360 + T 2 (6 * p + j)) hX (ql_s101 hI) (3 * p + j) rfl (by omega) (by decide) (((zm_u2l (by decide))).trans ((ql_Nj hIj p j (by omega) (by omega)))) dL_strikes_207 ?_
        refine zz_sipush (v := nI 360) hX dL_strikes_208 rfl ?_
        refine zz_aload_n hX dL_strikes_211 1 rfl rfl ?_
        refine zz_iload hX dL_strikes_212 18 rfl ?_
        refine zz_iald (x := T 3 (6 * p + j) * nI 360 + T 2 (6 * p + j)) hX (ql_s101 hI) (3 * p + j) rfl (by omega) (by decide) (((zm_u2l (by decide))).trans ((ql_Nj hIj p j (by omega) (by omega)))) dL_strikes_214 ?_
        refine zz_sipush (v := nI 360) hX dL_strikes_215 rfl ?_
        refine zz_irem (z := T 2 (6 * p + j)) hX dL_strikes_218 (by decide) (zs_remJ (ql_Jd hIj _) (ql_S2 hIj _)) ?_
        refine zz_iload hX dL_strikes_219 17 rfl ?_
        refine zz_sI (x := zs_abs (zs_sw (T 2 (6 * p + j)) d)) hX zf_M_L_124 (As := [.int (T 2 (6 * p + j)), .int d]) (st := [.int (nI 360), .int (T 3 (6 * p + j) * nI 360 + T 2 (6 * p + j)), .int (nI (3 * p + j)), .ref 101]) (Q_way (T 2 (6 * p + j)) d (ql_S2 hIj _) hd9 sh (zm_u2 mj 107 (18 * i + 6 * j + f) d) mr) rfl rfl (by decide) (Nat.le_of_ble_eq_true rfl) (Nat.le_of_ble_eq_true rfl) (Nat.le_of_ble_eq_true rfl) dL_strikes_221 ?_
        refine zz_imul (z := (nI 360) * (zs_abs (zs_sw (T 2 (6 * p + j)) d))) hX dL_strikes_224 rfl ?_
        refine zz_iload hX dL_strikes_225 17 rfl ?_
        refine zz_iadd (z := ((nI 360) * (zs_abs (zs_sw (T 2 (6 * p + j)) d))) + d) hX dL_strikes_227 rfl ?_
        refine zz_aload_n hX dL_strikes_228 1 rfl rfl ?_
        refine zz_iload hX dL_strikes_229 18 rfl ?_
        refine zz_iald (x := T 3 (6 * p + j) * nI 360 + T 2 (6 * p + j)) hX (ql_s101 hI) (3 * p + j) rfl (by omega) (by decide) (((zm_u2l (by decide))).trans ((ql_Nj hIj p j (by omega) (by omega)))) dL_strikes_231 ?_
        refine zz_sipush (v := nI 360) hX dL_strikes_232 rfl ?_
        refine zz_irem (z := T 2 (6 * p + j)) hX dL_strikes_235 (by decide) (zs_remJ (ql_Jd hIj _) (ql_S2 hIj _)) ?_
        refine zz_isub (z := (((nI 360) * (zs_abs (zs_sw (T 2 (6 * p + j)) d))) + d) - (T 2 (6 * p + j))) hX dL_strikes_236 rfl ?_
        refine zz_iadd (z := (T 3 (6 * p + j) * nI 360 + T 2 (6 * p + j)) + ((((nI 360) * (zs_abs (zs_sw (T 2 (6 * p + j)) d))) + d) - (T 2 (6 * p + j)))) hX dL_strikes_237 rfl ?_
        refine zz_top (show (T 3 (6 * p + j) * nI 360 + T 2 (6 * p + j)) + ((((nI 360) * (zs_abs (zs_sw (T 2 (6 * p + j)) d))) + d) - (T 2 (6 * p + j))) = (T 3 (6 * p + j) + zs_abs (zs_sw (T 2 (6 * p + j)) d)) * nI 360 + d from ql_jw (ql_Jd hIj _) (ql_S2 hIj _) hd9 (zs_abs_sw (ql_S2 hIj _) hd9)) ?_
        refine zz_iast hX (ql_s101 hI) (3 * p + j) rfl (by omega) (by decide) dL_strikes_238 ?_
        refine zz_iinc (v := nI (j + 1)) (ls' := [(0, .ref 100), (1, .ref 101), (2, .ref 102), (3, .ref 103), (4, .ref 104), (5, .ref 105), (6, .ref 106), (7, .ref 107), (8, .ref 108), (9, .ref 109), (10, .int (nI i)), (11, .int (nI f)), (12, .int (nI (6 * i + f))), (13, .int (nI p)), (14, .int (nI 0)), (16, .int (zp_mouth S i f + nI 1)), (17, .int (nI (j + 1))), (18, .int d), (19, .int (nI (3 * p + j)))]) hX dL_strikes_239 16 rfl (nI_1 _) (Nat.le_of_ble_eq_true rfl) rfl ?_
        refine zz_goto hX 119 dL_strikes_242 (by decide) ?_
        refine zz_pick (ls' := [(0, .ref 100), (1, .ref 101), (2, .ref 102), (3, .ref 103), (4, .ref 104), (5, .ref 105), (6, .ref 106), (7, .ref 107), (8, .ref 108), (9, .ref 109), (10, .int (nI i)), (11, .int (nI f)), (12, .int (nI (6 * i + f))), (13, .int (nI p)), (14, .int (nI 0)), (16, .int (zp_mouth S i f + nI 1)), (17, .int (nI (j + 1)))]) [0, 1, 2, 3, 4, 5, 6, 7, 8, 9, 10, 11, 12, 13, 14, 15, 16] rfl ?_
        refine ih119 (j + 1) (zt_pj T p i j f d) _ (by omega) (by omega) (by rw [hT, hd]; rfl) (ql_I_pj hIj (by omega) (by omega) (by omega) (by omega) (by omega) hd9 (by rw [hT, (zt_pose_hi j (Nat.le_refl _)).1]; exact h3 _)) (fun q hq9 => ?_) (fun l hl => (zm_u2r (by omega)).trans ((zm_u2r (by omega)).trans (hfr l hl)))
        rw [zm_u2l (by decide)]
        by_cases e : q = j
        · rw [e, zm_u2s]; exact hd
        · rw [zm_u2k (by omega)]; exact hoj q (by omega)
  exact L119 ((zv_jn S p - 0) + 1) 0 S mi (by omega) (Nat.zero_le _) (rfl) (hI) (fun q h9 => absurd h9 (Nat.not_lt_zero _)) (fun l _ => rfl)
theorem K_pz {Γ : zz_C} {D : zz_D} {E : zz_E} {ad : Nat → Nat} {n : Nat} {S : zS} {sh : zm_Sh} {mi : zm_Mi} {mr : zm_Mr} (hI : ql_I n S sh mi) (hn : n + 1 ≤ 64) {i f p : Nat} (hi : i < zv_ns S) (hk : zv_sk S i < zv_fr S i) (hf : f = zv_sk S i) (hp : p = zv_pu S i) {Qr : Option Value → zm_Sh → zm_Mi → zm_Mr → Prop} (hq : ∀ mi', ql_N (zt_keep (zt_pz S i) i) sh mi' → ql_B (n + 1) (zt_keep (zt_pz S i) i) → (∀ l, ¬ (100 ≤ l ∧ l < 110) → mi' l = mi l) → Qr none sh mi' mr) (hX : zz_X Γ (D, E, 21, ad, sh) RL cL_strikes 3 0 0) (hr : (zz_h Γ).sig.returnType = none) : zz Γ (D, E, 21, ad, sh) (zz_End Γ (D, E, 21, ad, sh) Qr zz_none 0 0) 0 0 sh mi mr 84 [(0, .ref 100), (1, .ref 101), (2, .ref 102), (3, .ref 103), (4, .ref 104), (5, .ref 105), (6, .ref 106), (7, .ref 107), (8, .ref 108), (9, .ref 109), (10, .int (nI i)), (11, .int (nI f)), (12, .int (nI (6 * i + f))), (13, .int (nI p)), (14, .int (nI 0))] [] := by
  obtain ⟨q1, q2, q3, q4, q5, q6, q7, q8, q9, q10, q11, q12⟩ := ql_shot hI hi
  have ES : ∀ r, r ≠ 23 → zm_u2 S 23 (48 * i + zv_sk S i) (zp_mouth S i (zv_sk S i)) r = S r := fun r hr9 => zm_u2r hr9
  obtain ⟨g1, g2, g3, g4, g5, -⟩ := zv_same (S := S) (T := zm_u2 S 23 (48 * i + zv_sk S i) (zp_mouth S i (zv_sk S i))) (i := i) (ES 1 (by decide)) (ES 9 (by decide)) (ES 10 (by decide)) (ES 11 (by decide)) (ES 14 (by decide)) (ES 15 (by decide))
  have hI1 : ql_I (n + 1) (zm_u2 S 23 (48 * i + zv_sk S i) (zp_mouth S i (zv_sk S i))) sh mi := ql_I_mono (ql_I_f hI hi hk (Or.inl ⟨by decide, by decide, rfl⟩) (zW_nf (ql_W hI) hi hk (by omega))) (by omega) hn
  have b5 := (ql_BB hI).2.2.2.2.1
  have b4 := (ql_BB hI).2.2.2.1.2
  unfold zv_in at b4
  refine K_pose hI1 (by rw [g1]; exact hi) (by rw [g2, g3]; exact hk) (by rw [g2]; exact hf) (by rw [g4]; exact hp) (by rw [hf, zm_u2s]; exact (zp_mouth_c (ES 6 (by decide)) (ES 7 (by decide)) (ES 8 (by decide)) (ES 12 (by decide)) (ES 13 (by decide))).symm) (fun c => by rw [ES 3 (by decide)]; have h9 := b5 c; unfold zv_in at h9; omega) (by rw [ES 21 (by decide)]; omega) (fun mi' k1 k2 k3 => ?_) hX hr
  rw [g5, hf, hp] at k1 k2
  exact hq mi' k1 k2 k3
theorem zp_bar_m {S : zS} {i : Nat} (hb : zp_bar S i = 0) (hh : ¬ zp_held S i (zv_sk S i)) : True ∧ (if zp_want S i (zv_sk S i) = -1 then 0 else if S 4 (10 * zv_pu S i + zn (zp_want S i (zv_sk S i))) = 0 then 6 else 0) = 0 := by
  refine ⟨trivial, ?_⟩
  unfold zp_bar at hb
  by_cases h1 : zv_fr S i ≤ zv_sk S i
  · rw [if_pos h1] at hb; cases hb
  rw [if_neg h1] at hb
  by_cases h2 : S 14 i = -1
  · rw [if_pos h2] at hb; cases hb
  rw [if_neg h2] at hb
  by_cases h3 : ¬ S 17 (zn (S 14 i)) = 0
  · rw [if_pos h3] at hb; cases hb
  rw [if_neg h3] at hb
  by_cases h4 : zp_busy S i
  · rw [if_pos h4] at hb; cases hb
  rw [if_neg h4] at hb
  by_cases h5 : zp_puse S i
  · rw [if_pos h5] at hb; cases hb
  rw [if_neg h5, if_neg hh] at hb
  unfold zp_pbar at hb
  by_cases h6 : zp_brk S (zv_pu S i)
  · rw [if_pos h6] at hb; cases hb
  rw [if_neg h6] at hb
  exact hb
set_option maxRecDepth 20000 in
theorem Q_strikes (n : Nat) (S : zS) (sh : zm_Sh) (mi : zm_Mi) (mr : zm_Mr) (hI : ql_I n S sh mi) (i : Nat) (hi : i < zv_ns S) (hn : n + 1 ≤ 64) (hb : zp_bar S i = 0) : zz_Con yL_strikes (.code yL_strikes cL_strikes 21 none) 3 0 0 [.ref 100, .ref 101, .ref 102, .ref 103, .ref 104, .ref 105, .ref 106, .ref 107, .ref 108, .ref 109, .int (nI i)] sh mi mr (fun v s i' r => v = none ∧ s = sh ∧ r = mr ∧ ql_N (zt_strike S i) sh i' ∧ ql_B (n + 1) (zt_strike S i) ∧ ∀ l, ¬ (100 ≤ l ∧ l < 110) → i' l = mi l) zz_none := by
  refine zz_begin RL [(0, .ref 100), (1, .ref 101), (2, .ref 102), (3, .ref 103), (4, .ref 104), (5, .ref 105), (6, .ref 106), (7, .ref 107), (8, .ref 108), (9, .ref 109), (10, .int (nI i))] (by decide) rfl rfl (Nat.le_of_ble_eq_true rfl) rfl ?_
  intro Γ D E ad hX hr hN hT
  have hw9 := ql_hw_lt hI hi
  obtain ⟨q1, q2, q3, q4, q5, q6, q7, q8, q9, q10, q11, q12⟩ := ql_shot hI hi
  have hk := (zp_bar_0 (congrArg nI hb)).2.1
  refine zz_aload hX dL_strikes_0 4 rfl ?_
  refine zz_iload hX dL_strikes_2 10 rfl ?_
  refine zz_sI (x := nI (zv_sk S i)) hX zf_M_L_101 (As := [.ref 104, .int (nI i)]) (st := []) (Q_struck n S sh mi mr hI i (by omega)) rfl rfl (by decide) (Nat.le_of_ble_eq_true rfl) (Nat.le_of_ble_eq_true rfl) (Nat.le_of_ble_eq_true rfl) dL_strikes_4 ?_
  refine zz_istore (ls' := [(0, .ref 100), (1, .ref 101), (2, .ref 102), (3, .ref 103), (4, .ref 104), (5, .ref 105), (6, .ref 106), (7, .ref 107), (8, .ref 108), (9, .ref 109), (10, .int (nI i)), (11, .int (nI (zv_sk S i)))]) hX dL_strikes_7 (Nat.le_of_ble_eq_true rfl) rfl ?_
  refine zz_bipush (v := nI 6) hX dL_strikes_9 rfl ?_
  refine zz_iload hX dL_strikes_11 10 rfl ?_
  refine zz_imul (z := nI (6 * i)) hX dL_strikes_13 (pk_mul _ _) ?_
  refine zz_iload hX dL_strikes_14 11 rfl ?_
  refine zz_iadd (z := nI (6 * i + zv_sk S i)) hX dL_strikes_16 (nI_add _ _) ?_
  refine zz_istore (ls' := [(0, .ref 100), (1, .ref 101), (2, .ref 102), (3, .ref 103), (4, .ref 104), (5, .ref 105), (6, .ref 106), (7, .ref 107), (8, .ref 108), (9, .ref 109), (10, .int (nI i)), (11, .int (nI (zv_sk S i))), (12, .int (nI (6 * i + zv_sk S i)))]) hX dL_strikes_17 (Nat.le_of_ble_eq_true rfl) rfl ?_
  refine zz_aload hX dL_strikes_19 4 rfl ?_
  refine zz_iload hX dL_strikes_21 10 rfl ?_
  refine zz_iald (x := nI (ql_hw S i)) hX (ql_s104 hI) i rfl (by omega) (by decide) ((ql_rd_h hI (by omega))) dL_strikes_23 ?_
  refine zz_iconst (v := nI 4) hX dL_strikes_24 rfl ?_
  refine zz_irem (z := nI (zv_pu S i)) hX dL_strikes_25 (by decide) ((pk_rem (by omega) (by decide) (by decide)).trans (congrArg nI (ql_hw_pu hI (a := i) (by omega)))) ?_
  refine zz_istore (ls' := [(0, .ref 100), (1, .ref 101), (2, .ref 102), (3, .ref 103), (4, .ref 104), (5, .ref 105), (6, .ref 106), (7, .ref 107), (8, .ref 108), (9, .ref 109), (10, .int (nI i)), (11, .int (nI (zv_sk S i))), (12, .int (nI (6 * i + zv_sk S i))), (13, .int (nI (zv_pu S i)))]) hX dL_strikes_26 (Nat.le_of_ble_eq_true rfl) rfl ?_
  refine zz_aload hX dL_strikes_28 4 rfl ?_
  refine zz_iload hX dL_strikes_30 10 rfl ?_
  refine zz_iload hX dL_strikes_32 11 rfl ?_
  refine zz_sI (x := zz_bi (zp_held S i (zv_sk S i))) hX zf_M_L_91 (As := [.ref 104, .int (nI i), .int (nI (zv_sk S i))]) (st := []) (Q_isHeld n S sh mi mr hI i (by omega) (zv_sk S i) (by omega)) rfl rfl (by decide) (Nat.le_of_ble_eq_true rfl) (Nat.le_of_ble_eq_true rfl) (Nat.le_of_ble_eq_true rfl) dL_strikes_34 ?_
  refine zz_istore (ls' := [(0, .ref 100), (1, .ref 101), (2, .ref 102), (3, .ref 103), (4, .ref 104), (5, .ref 105), (6, .ref 106), (7, .ref 107), (8, .ref 108), (9, .ref 109), (10, .int (nI i)), (11, .int (nI (zv_sk S i))), (12, .int (nI (6 * i + zv_sk S i))), (13, .int (nI (zv_pu S i))), (14, .int (zz_bi (zp_held S i (zv_sk S i))))]) hX dL_strikes_37 (Nat.le_of_ble_eq_true rfl) rfl ?_
  by_cases hh : zp_held S i (zv_sk S i)
  · skip
    refine zz_lcl (ls' := [(0, .ref 100), (1, .ref 101), (2, .ref 102), (3, .ref 103), (4, .ref 104), (5, .ref 105), (6, .ref 106), (7, .ref 107), (8, .ref 108), (9, .ref 109), (10, .int (nI i)), (11, .int (nI (zv_sk S i))), (12, .int (nI (6 * i + zv_sk S i))), (13, .int (nI (zv_pu S i))), (14, .int (nI 1))]) (congrArg (fun z => [((0 : Nat), Value.ref 100), (1, Value.ref 101), (2, Value.ref 102), (3, Value.ref 103), (4, Value.ref 104), (5, Value.ref 105), (6, Value.ref 106), (7, Value.ref 107), (8, Value.ref 108), (9, Value.ref 109), (10, Value.int (nI i)), (11, Value.int (nI (zv_sk S i))), (12, Value.int (nI (6 * i + zv_sk S i))), (13, Value.int (nI (zv_pu S i))), (14, Value.int z)]) (zz_bi_T hh).symm) ?_
    refine zz_iload hX dL_strikes_39 14 rfl ?_
    refine zz_if_eq hX 48 dL_strikes_41 (by decide) (fun c => absurd c (by decide)) (fun _ => ?_)
    refine zz_iconst (v := (-1)) hX dL_strikes_44 rfl ?_
    refine zz_goto hX 58 dL_strikes_45 (by decide) ?_
    refine zz_istore (ls' := [(0, .ref 100), (1, .ref 101), (2, .ref 102), (3, .ref 103), (4, .ref 104), (5, .ref 105), (6, .ref 106), (7, .ref 107), (8, .ref 108), (9, .ref 109), (10, .int (nI i)), (11, .int (nI (zv_sk S i))), (12, .int (nI (6 * i + zv_sk S i))), (13, .int (nI (zv_pu S i))), (14, .int (nI 1)), (15, .int (-1))]) hX dL_strikes_58 (Nat.le_of_ble_eq_true rfl) rfl ?_
    refine zz_aload_n hX dL_strikes_60 2 rfl rfl ?_
    refine zz_iload hX dL_strikes_61 15 rfl ?_
    refine zz_if_ge hX 71 dL_strikes_63 (by decide) (fun c => absurd c (by decide)) (fun _ => ?_)
    refine zz_bipush (v := nI 20) hX dL_strikes_66 rfl ?_
    refine zz_goto hX 79 dL_strikes_68 (by decide) ?_
    refine zz_dup2 hX dL_strikes_79 rfl rfl ?_
    refine zz_iald (x := mi 102 20) hX (ql_s102 hI) 20 rfl (by decide) (by decide) rfl dL_strikes_80 ?_
    refine zz_iconst (v := nI 1) hX dL_strikes_81 rfl ?_
    refine zz_isub (z := (mi 102 20) - (nI 1)) hX dL_strikes_82 rfl ?_
    refine zz_iast hX (ql_s102 hI) 20 rfl (by decide) (by decide) dL_strikes_83 ?_
    refine zz_pick (ls' := [(0, .ref 100), (1, .ref 101), (2, .ref 102), (3, .ref 103), (4, .ref 104), (5, .ref 105), (6, .ref 106), (7, .ref 107), (8, .ref 108), (9, .ref 109), (10, .int (nI i)), (11, .int (nI (zv_sk S i))), (12, .int (nI (6 * i + zv_sk S i))), (13, .int (nI (zv_pu S i))), (14, .int (nI 1))]) [0, 1, 2, 3, 4, 5, 6, 7, 8, 9, 10, 11, 12, 13, 14] rfl ?_
    have b4 := (ql_BB hI).2.2.2.1.2
    unfold zv_in at b4
    exact K_hold (ql_I_mono (ql_I_g hI (Or.inl ⟨rfl, rfl⟩)) (by omega) hn) hi hk hh rfl rfl (by omega) (fun mi' k1 k2 k3 => ⟨rfl, rfl, rfl, by rw [show zt_strike S i = zt_keep (zt_hold S i) i from congrArg (fun z => zt_keep z i) (if_pos hh)]; exact k1, by rw [show zt_strike S i = zt_keep (zt_hold S i) i from congrArg (fun z => zt_keep z i) (if_pos hh)]; exact k2, fun l hl => (k3 l hl).trans (zm_u2r (by omega))⟩) hX hr
  · skip
    refine zz_lcl (ls' := [(0, .ref 100), (1, .ref 101), (2, .ref 102), (3, .ref 103), (4, .ref 104), (5, .ref 105), (6, .ref 106), (7, .ref 107), (8, .ref 108), (9, .ref 109), (10, .int (nI i)), (11, .int (nI (zv_sk S i))), (12, .int (nI (6 * i + zv_sk S i))), (13, .int (nI (zv_pu S i))), (14, .int (nI 0))]) (congrArg (fun z => [((0 : Nat), Value.ref 100), (1, Value.ref 101), (2, Value.ref 102), (3, Value.ref 103), (4, Value.ref 104), (5, Value.ref 105), (6, Value.ref 106), (7, Value.ref 107), (8, Value.ref 108), (9, Value.ref 109), (10, Value.int (nI i)), (11, Value.int (nI (zv_sk S i))), (12, Value.int (nI (6 * i + zv_sk S i))), (13, Value.int (nI (zv_pu S i))), (14, Value.int z)]) (zz_bi_F hh).symm) ?_
    refine zz_iload hX dL_strikes_39 14 rfl ?_
    refine zz_if_eq hX 48 dL_strikes_41 (by decide) (fun _ => ?_) (fun c => absurd c (by decide))
    refine zz_aload hX dL_strikes_48 4 rfl ?_
    refine zz_aload_n hX dL_strikes_50 3 rfl rfl ?_
    refine zz_aload hX dL_strikes_51 8 rfl ?_
    refine zz_iload hX dL_strikes_53 10 rfl ?_
    refine zz_sI (x := zp_want S i (zv_sk S i)) hX zf_M_L_116 (As := [.ref 104, .ref 103, .ref 108, .int (nI i)]) (st := []) (Q_wanted n S sh mi mr hI i (by omega) (by omega)) rfl rfl (by decide) (Nat.le_of_ble_eq_true rfl) (Nat.le_of_ble_eq_true rfl) (Nat.le_of_ble_eq_true rfl) dL_strikes_55 ?_
    rcases zp_want_in (ql_W hI) hi (zv_sk S i) with hwt | hwt
    · skip
      refine zz_top hwt ?_
      refine zz_istore (ls' := [(0, .ref 100), (1, .ref 101), (2, .ref 102), (3, .ref 103), (4, .ref 104), (5, .ref 105), (6, .ref 106), (7, .ref 107), (8, .ref 108), (9, .ref 109), (10, .int (nI i)), (11, .int (nI (zv_sk S i))), (12, .int (nI (6 * i + zv_sk S i))), (13, .int (nI (zv_pu S i))), (14, .int (nI 0)), (15, .int (-1))]) hX dL_strikes_58 (Nat.le_of_ble_eq_true rfl) rfl ?_
      refine zz_aload_n hX dL_strikes_60 2 rfl rfl ?_
      refine zz_iload hX dL_strikes_61 15 rfl ?_
      refine zz_if_ge hX 71 dL_strikes_63 (by decide) (fun c => absurd c (by decide)) (fun _ => ?_)
      refine zz_bipush (v := nI 20) hX dL_strikes_66 rfl ?_
      refine zz_goto hX 79 dL_strikes_68 (by decide) ?_
      refine zz_dup2 hX dL_strikes_79 rfl rfl ?_
      refine zz_iald (x := mi 102 20) hX (ql_s102 hI) 20 rfl (by decide) (by decide) rfl dL_strikes_80 ?_
      refine zz_iconst (v := nI 1) hX dL_strikes_81 rfl ?_
      refine zz_isub (z := (mi 102 20) - (nI 1)) hX dL_strikes_82 rfl ?_
      refine zz_iast hX (ql_s102 hI) 20 rfl (by decide) (by decide) dL_strikes_83 ?_
      refine zz_pick (ls' := [(0, .ref 100), (1, .ref 101), (2, .ref 102), (3, .ref 103), (4, .ref 104), (5, .ref 105), (6, .ref 106), (7, .ref 107), (8, .ref 108), (9, .ref 109), (10, .int (nI i)), (11, .int (nI (zv_sk S i))), (12, .int (nI (6 * i + zv_sk S i))), (13, .int (nI (zv_pu S i))), (14, .int (nI 0))]) [0, 1, 2, 3, 4, 5, 6, 7, 8, 9, 10, 11, 12, 13, 14] rfl ?_
      have hV : zt_want S i = S := if_pos hwt
      refine K_pz (S := zt_want S i) (by rw [hV]; exact ql_I_g hI (Or.inl ⟨rfl, rfl⟩)) hn (by rw [hV]; exact hi) (by rw [hV]; exact hk) (by rw [hV]) (by rw [hV]) (fun mi' k1 k2 k3 => ⟨rfl, rfl, rfl, by rw [show zt_strike S i = zt_keep (zt_pz (zt_want S i) i) i from congrArg (fun z => zt_keep z i) (if_neg hh)]; exact k1, by rw [show zt_strike S i = zt_keep (zt_pz (zt_want S i) i) i from congrArg (fun z => zt_keep z i) (if_neg hh)]; exact k2, fun l hl => (k3 l hl).trans (zm_u2r (by omega))⟩) hX hr
    · skip
      obtain ⟨z, hz9, hwz⟩ := zs_ix_of hwt (by omega)
      have z_z : zn (zp_want S i (zv_sk S i)) = z := by rw [hwz]; exact nI_clamp (n := z) (by omega)
      have hwn : ¬ zp_want S i (zv_sk S i) = -1 := fun q => by rw [q] at hwz; exact absurd hwz.symm (zs_nm1 (n := z) (by omega))
      refine zz_top hwz ?_
      refine zz_istore (ls' := [(0, .ref 100), (1, .ref 101), (2, .ref 102), (3, .ref 103), (4, .ref 104), (5, .ref 105), (6, .ref 106), (7, .ref 107), (8, .ref 108), (9, .ref 109), (10, .int (nI i)), (11, .int (nI (zv_sk S i))), (12, .int (nI (6 * i + zv_sk S i))), (13, .int (nI (zv_pu S i))), (14, .int (nI 0)), (15, .int (nI z))]) hX dL_strikes_58 (Nat.le_of_ble_eq_true rfl) rfl ?_
      refine zz_aload_n hX dL_strikes_60 2 rfl rfl ?_
      refine zz_iload hX dL_strikes_61 15 rfl ?_
      refine zz_if_ge hX 71 dL_strikes_63 (by decide) (fun c63 => ?_) (fun c63 => absurd (nI_pos' (by omega)) c63)
      refine zz_bipush (v := nI 10) hX dL_strikes_71 rfl ?_
      refine zz_iload hX dL_strikes_73 13 rfl ?_
      refine zz_imul (z := nI (10 * (zv_pu S i))) hX dL_strikes_75 (pk_mul _ _) ?_
      refine zz_iload hX dL_strikes_76 15 rfl ?_
      refine zz_iadd (z := nI (10 * (zv_pu S i) + z)) hX dL_strikes_78 (nI_add _ _) ?_
      refine zz_dup2 hX dL_strikes_79 rfl rfl ?_
      refine zz_iald (x := S 4 (10 * (zv_pu S i) + z)) hX (ql_s102 hI) (10 * (zv_pu S i) + z) rfl (by omega) (by decide) ((ql_Nm hI (zv_pu S i) z (by omega) (by omega))) dL_strikes_80 ?_
      refine zz_iconst (v := nI 1) hX dL_strikes_81 rfl ?_
      refine zz_isub (z := (S 4 (10 * (zv_pu S i) + z)) - (nI 1)) hX dL_strikes_82 rfl ?_
      refine zz_iast hX (ql_s102 hI) (10 * (zv_pu S i) + z) rfl (by omega) (by decide) dL_strikes_83 ?_
      refine zz_pick (ls' := [(0, .ref 100), (1, .ref 101), (2, .ref 102), (3, .ref 103), (4, .ref 104), (5, .ref 105), (6, .ref 106), (7, .ref 107), (8, .ref 108), (9, .ref 109), (10, .int (nI i)), (11, .int (nI (zv_sk S i))), (12, .int (nI (6 * i + zv_sk S i))), (13, .int (nI (zv_pu S i))), (14, .int (nI 0))]) [0, 1, 2, 3, 4, 5, 6, 7, 8, 9, 10, 11, 12, 13, 14] rfl ?_
      have hV : zt_want S i = zm_u2 S 4 (10 * zv_pu S i + z) (S 4 (10 * zv_pu S i + z) - nI 1) := (if_neg hwn).trans (by rw [z_z])
      have g := fun r (e : r ≠ 4) => zt_want_r (S := S) (i := i) e
      obtain ⟨g1, g2, g3, g4, g5, -⟩ := zv_same (S := S) (T := zt_want S i) (i := i) (g 1 (by decide)) (g 9 (by decide)) (g 10 (by decide)) (g 11 (by decide)) (g 14 (by decide)) (g 15 (by decide))
      have hIV : ql_I n (zt_want S i) sh (zm_u2 mi 102 (10 * zv_pu S i + z) (S 4 (10 * zv_pu S i + z) - nI 1)) := by
        have hWV := zt_want_w (ql_W hI) hi
        have hm4 := (ql_BB hI).2.2.2.2.2.1
        have hne : ¬ S 4 (10 * zv_pu S i + z) = 0 := fun q => by
          have h9 := zp_bar_m hb hh
          rw [if_neg hwn, z_z, if_pos q] at h9; exact absurd h9.2 (by decide)
        rw [hV] at hWV ⊢
        refine ⟨hI.1, hWV, ?_, ql_N_m hI.2.2.2 (by omega) (by omega)⟩
        obtain ⟨b1, b2, b3, b4, b5, b6, b7⟩ := ql_BB hI
        refine ⟨b1, b2, b3, b4, b5, fun c => ?_, b7⟩
        by_cases e : c = 10 * zv_pu S i + z
        · rw [e, zm_u2s]
          have h9 := b6 (10 * zv_pu S i + z)
          unfold zv_in at h9 ⊢
          have t1 : (nI 1).toInt = 1 := nI_toInt (by decide)
          have ne0 : ¬ (S 4 (10 * zv_pu S i + z)).toInt = 0 := fun q => hne (by rw [zs_eq, q]; rfl)
          rw [zs_smallS (by omega) (by omega), t1]; omega
        · rw [zm_u2k e]; exact b6 c
      exact K_pz (S := zt_want S i) hIV hn (by rw [g1]; exact hi) (by rw [g2, g3]; exact hk) (by rw [g2]) (by rw [g4]) (fun mi' k1 k2 k3 => ⟨rfl, rfl, rfl, by rw [show zt_strike S i = zt_keep (zt_pz (zt_want S i) i) i from congrArg (fun z => zt_keep z i) (if_neg hh)]; exact k1, by rw [show zt_strike S i = zt_keep (zt_pz (zt_want S i) i) i from congrArg (fun z => zt_keep z i) (if_neg hh)]; exact k2, fun l hl => (k3 l hl).trans (zm_u2r (by omega))⟩) hX hr

