/-! ===== the law ===== -/
set_option maxHeartbeats 1000000 in
set_option maxRecDepth 20000 in
theorem law_loop {Γ : zz_C} {D : zz_D} {E : zz_E} {ad : Nat → Nat} {sh0 : zm_Sh} {Q : State → Prop} (hX : zz_X Γ (D, E, 17, ad, sh0) RL cL_law 13 600104 7301313) (hend : ∀ (sh : zm_Sh) (mi : zm_Mi) (mr : zm_Mr) (c s n : Nat), c ≤ 600104 → s ≤ 7301313 → zz Γ (D, E, 17, ad, sh0) Q c s sh mi mr 494 [(0, .ref 10), (1, .ref 2), (2, .ref 100), (3, .ref 101), (4, .ref 102), (5, .ref 103), (6, .ref 104), (7, .ref 105), (8, .ref 106), (9, .ref 107), (10, .ref 108), (11, .ref 109), (12, .int (nI 1)), (13, .int (nI n))] []) : ∀ (f n : Nat), f + n = 65 → n ≤ 64 → ∀ (S : zS) (su : zm_Sh) (iu : zm_Mi) (mu : zm_Mr) (c sl : Nat), ql_J n S su iu mu → su 10 = some (9, 0) → c ≤ 1000 + 2560 * n → sl ≤ 10000 + 16460 * n → zz Γ (D, E, 17, ad, sh0) Q c sl su iu mu 156 [(0, .ref 10), (1, .ref 2), (2, .ref 100), (3, .ref 101), (4, .ref 102), (5, .ref 103), (6, .ref 104), (7, .ref 105), (8, .ref 106), (9, .ref 107), (10, .ref 108), (11, .ref 109), (12, .int (nI 1)), (13, .int (nI n))] [] := by
  intro f
  induction f with
  | zero => intro n h1 h2; omega
  | succ f ih =>
    intro n hf hn S su iu mu c sl hJ h10 hc hsl
    refine zz_iload hX dL_law_156 13 rfl ?_
    refine zz_bipush (v := nI 64) hX dL_law_158 rfl ?_
    refine zz_icmp_geN hX (by omega) (by decide) 494 dL_law_160 (by decide) (fun c160 => ?_) (fun c160 => ?_)
    · skip
      exact hend _ _ _ _ _ _ (by omega) (by omega)
    · skip
      refine zz_iload hX dL_law_163 12 rfl ?_
      refine zz_if_eq hX 494 dL_law_165 (by decide) (fun c => absurd c (by decide)) (fun _ => ?_)
      have K242 : ∀ w : Nat, w < 64 → zz Γ (D, E, 17, ad, sh0) Q c sl su iu mu 242 [(0, .ref 10), (1, .ref 2), (2, .ref 100), (3, .ref 101), (4, .ref 102), (5, .ref 103), (6, .ref 104), (7, .ref 105), (8, .ref 106), (9, .ref 107), (10, .ref 108), (11, .ref 109), (12, .int (nI 1)), (13, .int (nI n))] [.int (nI w)] := by
        intro w hw
        refine zz_istore (ls' := [(0, .ref 10), (1, .ref 2), (2, .ref 100), (3, .ref 101), (4, .ref 102), (5, .ref 103), (6, .ref 104), (7, .ref 105), (8, .ref 106), (9, .ref 107), (10, .ref 108), (11, .ref 109), (12, .int (nI 1)), (13, .int (nI n)), (14, .int (nI w))]) hX dL_law_242 (Nat.le_of_ble_eq_true rfl) rfl ?_
        refine zz_aload_n hX dL_law_244 0 rfl rfl ?_
        refine zz_iconst (v := nI 3) hX dL_law_245 rfl ?_
        refine zz_iload hX dL_law_246 13 rfl ?_
        refine zz_imul (z := nI (3 * n)) hX dL_law_248 (pk_mul _ _) ?_
        refine zz_iconst (v := nI 1) hX dL_law_249 rfl ?_
        refine zz_iadd (z := nI (3 * n + 1)) hX dL_law_250 (nI_add _ _) ?_
        refine zz_ldc (v := 60000) hX zw_con_L_186 dL_law_251 ?_
        refine zz_top (show (60000 : Int32) = nI 60000 from rfl) ?_
        refine zz_callS hX zf_M_L_183 (As := [.ref 10, .int (nI (3 * n + 1)), .int (nI 60000)]) (st := []) (Q_part (3 * n + 1) 60000 (by omega) (by omega) su iu mu h10) rfl rfl (by decide) (Nat.le_of_ble_eq_true rfl) (by omega) (by omega) dL_law_253 ?_ (fun _ _ _ _ h _ => h.elim)
        rintro v9 s9 i9 m9 ⟨t23, ht23, rfl, e2, e3, e4⟩ -
        obtain rfl := e2.symm
        obtain rfl := e3.symm
        obtain rfl := e4.symm
        refine zz_istore (ls' := [(0, .ref 10), (1, .ref 2), (2, .ref 100), (3, .ref 101), (4, .ref 102), (5, .ref 103), (6, .ref 104), (7, .ref 105), (8, .ref 106), (9, .ref 107), (10, .ref 108), (11, .ref 109), (12, .int (nI 1)), (13, .int (nI n)), (14, .int (nI w)), (15, .int (nI t23))]) hX dL_law_256 (Nat.le_of_ble_eq_true rfl) rfl ?_
        refine zz_aload_n hX dL_law_258 0 rfl rfl ?_
        refine zz_iconst (v := nI 3) hX dL_law_259 rfl ?_
        refine zz_iload hX dL_law_260 13 rfl ?_
        refine zz_imul (z := nI (3 * n)) hX dL_law_262 (pk_mul _ _) ?_
        refine zz_iconst (v := nI 2) hX dL_law_263 rfl ?_
        refine zz_iadd (z := nI (3 * n + 2)) hX dL_law_264 (nI_add _ _) ?_
        refine zz_ldc (v := 60000) hX zw_con_L_186 dL_law_265 ?_
        refine zz_top (show (60000 : Int32) = nI 60000 from rfl) ?_
        refine zz_callS hX zf_M_L_183 (As := [.ref 10, .int (nI (3 * n + 2)), .int (nI 60000)]) (st := []) (Q_part (3 * n + 2) 60000 (by omega) (by omega) su iu mu h10) rfl rfl (by decide) (Nat.le_of_ble_eq_true rfl) (by omega) (by omega) dL_law_267 ?_ (fun _ _ _ _ h _ => h.elim)
        rintro v9 s9 i9 m9 ⟨t24, ht24, rfl, e2, e3, e4⟩ -
        obtain rfl := e2.symm
        obtain rfl := e3.symm
        obtain rfl := e4.symm
        refine zz_istore (ls' := [(0, .ref 10), (1, .ref 2), (2, .ref 100), (3, .ref 101), (4, .ref 102), (5, .ref 103), (6, .ref 104), (7, .ref 105), (8, .ref 106), (9, .ref 107), (10, .ref 108), (11, .ref 109), (12, .int (nI 1)), (13, .int (nI n)), (14, .int (nI w)), (15, .int (nI t23)), (16, .int (nI t24))]) hX dL_law_270 (Nat.le_of_ble_eq_true rfl) rfl ?_
        have K447 : ∀ (S8 : zS) (s8 : zm_Sh) (i8 : zm_Mi) (m8 : zm_Mr) (c8 l8 : Nat), c8 ≤ c + 50 → l8 ≤ sl + 1400 → ql_J (n + 1) S8 s8 i8 m8 → s8 10 = some (9, 0) → zz Γ (D, E, 17, ad, sh0) Q c8 l8 s8 i8 m8 447 [(0, .ref 10), (1, .ref 2), (2, .ref 100), (3, .ref 101), (4, .ref 102), (5, .ref 103), (6, .ref 104), (7, .ref 105), (8, .ref 106), (9, .ref 107), (10, .ref 108), (11, .ref 109), (12, .int (nI 1)), (13, .int (nI n)), (15, .int (nI t23)), (16, .int (nI t24))] [] := by
          intro S8 s8 i8 m8 c8 l8 hc8 hl8 hJ8 h108
          refine zz_iload hX dL_law_447 12 rfl ?_
          refine zz_if_eq hX 485 dL_law_449 (by decide) (fun c => absurd c (by decide)) (fun _ => ?_)
          refine zz_aload_n hX dL_law_452 1 rfl rfl ?_
          refine zz_aload_n hX dL_law_453 2 rfl rfl ?_
          refine zz_aload_n hX dL_law_454 3 rfl rfl ?_
          refine zz_aload hX dL_law_455 4 rfl ?_
          refine zz_aload hX dL_law_457 5 rfl ?_
          refine zz_aload hX dL_law_459 6 rfl ?_
          refine zz_aload hX dL_law_461 7 rfl ?_
          refine zz_aload hX dL_law_463 8 rfl ?_
          refine zz_aload hX dL_law_465 9 rfl ?_
          refine zz_aload hX dL_law_467 10 rfl ?_
          refine zz_aload hX dL_law_469 11 rfl ?_
          refine zz_iload hX dL_law_471 14 rfl ?_
          refine zz_iload hX dL_law_473 15 rfl ?_
          refine zz_callSB hX zf_M_L_195 (As := [.ref 2, .ref 100, .ref 101, .ref 102, .ref 103, .ref 104, .ref 105, .ref 106, .ref 107, .ref 108, .ref 109, .int (nI t23), .int (nI t24)]) (st := []) (Q_isSo (n + 1) S8 s8 i8 m8 hJ8 h108 t23 t24 (by omega) (by omega)) rfl rfl (by decide) (by decide) (Nat.le_of_ble_eq_true rfl) (by omega) (by omega) dL_law_475 ?_ (fun _ _ _ _ h _ => h.elim)
          rintro v9 s25 i25 m25 ⟨rfl, hJ25, h1025⟩ -
          refine zz_if_eq hX 485 dL_law_478 (by decide) (fun c => absurd c (by decide)) (fun _ => ?_)
          refine zz_iconst (v := nI 1) hX dL_law_481 rfl ?_
          refine zz_goto hX 486 dL_law_482 (by decide) ?_
          refine zz_istore (ls' := [(0, .ref 10), (1, .ref 2), (2, .ref 100), (3, .ref 101), (4, .ref 102), (5, .ref 103), (6, .ref 104), (7, .ref 105), (8, .ref 106), (9, .ref 107), (10, .ref 108), (11, .ref 109), (12, .int (nI 1)), (13, .int (nI n)), (15, .int (nI t23)), (16, .int (nI t24))]) hX dL_law_486 (Nat.le_of_ble_eq_true rfl) rfl ?_
          refine zz_iinc (v := nI (n + 1)) (ls' := [(0, .ref 10), (1, .ref 2), (2, .ref 100), (3, .ref 101), (4, .ref 102), (5, .ref 103), (6, .ref 104), (7, .ref 105), (8, .ref 106), (9, .ref 107), (10, .ref 108), (11, .ref 109), (12, .int (nI 1)), (13, .int (nI (n + 1))), (15, .int (nI t23)), (16, .int (nI t24))]) hX dL_law_488 13 rfl (nI_1 _) (Nat.le_of_ble_eq_true rfl) rfl ?_
          refine zz_goto hX 156 dL_law_491 (by decide) ?_
          refine zz_pick (ls' := [(0, .ref 10), (1, .ref 2), (2, .ref 100), (3, .ref 101), (4, .ref 102), (5, .ref 103), (6, .ref 104), (7, .ref 105), (8, .ref 106), (9, .ref 107), (10, .ref 108), (11, .ref 109), (12, .int (nI 1)), (13, .int (nI (n + 1)))]) [0, 1, 2, 3, 4, 5, 6, 7, 8, 9, 10, 11, 12, 13] rfl ?_
          exact ih (n + 1) (by omega) (by omega) _ _ _ _ _ _ hJ25 h1025 (by omega) (by omega)
        refine zz_iload hX dL_law_272 14 rfl ?_
        refine zz_bipush (v := nI 8) hX dL_law_274 rfl ?_
        refine zz_icmp_geN hX (by omega) (by decide) 303 dL_law_276 (by decide) (fun c276 => ?_) (fun c276 => ?_)
        · skip
          refine zz_aload_n hX dL_law_303 1 rfl rfl ?_
          refine zz_aload_n hX dL_law_304 2 rfl rfl ?_
          refine zz_aload_n hX dL_law_305 3 rfl rfl ?_
          refine zz_aload hX dL_law_306 4 rfl ?_
          refine zz_aload hX dL_law_308 5 rfl ?_
          refine zz_aload hX dL_law_310 6 rfl ?_
          refine zz_aload hX dL_law_312 7 rfl ?_
          refine zz_aload hX dL_law_314 8 rfl ?_
          refine zz_aload hX dL_law_316 9 rfl ?_
          refine zz_aload hX dL_law_318 10 rfl ?_
          refine zz_aload hX dL_law_320 11 rfl ?_
          refine zz_iload hX dL_law_322 14 rfl ?_
          refine zz_bipush (v := nI 16) hX dL_law_324 rfl ?_
          refine zz_icmp_geN hX (by omega) (by decide) 333 dL_law_326 (by decide) (fun c326 => ?_) (fun c326 => ?_)
          · skip
            refine zz_iload hX dL_law_333 14 rfl ?_
            refine zz_bipush (v := nI 22) hX dL_law_335 rfl ?_
            refine zz_icmp_geN hX (by omega) (by decide) 344 dL_law_337 (by decide) (fun c337 => ?_) (fun c337 => ?_)
            · skip
              refine zz_iload hX dL_law_344 14 rfl ?_
              refine zz_bipush (v := nI 24) hX dL_law_346 rfl ?_
              refine zz_icmp_geN hX (by omega) (by decide) 355 dL_law_348 (by decide) (fun c348 => ?_) (fun c348 => ?_)
              · skip
                refine zz_iload hX dL_law_355 14 rfl ?_
                refine zz_bipush (v := nI 51) hX dL_law_357 rfl ?_
                refine zz_icmp_geN hX (by omega) (by decide) 366 dL_law_359 (by decide) (fun c359 => ?_) (fun c359 => ?_)
                · skip
                  refine zz_iload hX dL_law_366 14 rfl ?_
                  refine zz_bipush (v := nI 53) hX dL_law_368 rfl ?_
                  refine zz_icmp_geN hX (by omega) (by decide) 377 dL_law_370 (by decide) (fun c370 => ?_) (fun c370 => ?_)
                  · skip
                    refine zz_iload hX dL_law_377 14 rfl ?_
                    refine zz_bipush (v := nI 53) hX dL_law_379 rfl ?_
                    refine zz_icmp_neN hX (by omega) (by decide) 388 dL_law_381 (by decide) (fun c381 => ?_) (fun c381 => ?_)
                    · skip
                      refine zz_iload hX dL_law_388 14 rfl ?_
                      refine zz_bipush (v := nI 57) hX dL_law_390 rfl ?_
                      refine zz_icmp_geN hX (by omega) (by decide) 400 dL_law_392 (by decide) (fun c392 => ?_) (fun c392 => ?_)
                      · skip
                        refine zz_iload hX dL_law_400 14 rfl ?_
                        refine zz_bipush (v := nI 57) hX dL_law_402 rfl ?_
                        refine zz_icmp_neN hX (by omega) (by decide) 412 dL_law_404 (by decide) (fun c404 => ?_) (fun c404 => ?_)
                        · skip
                          refine zz_iload hX dL_law_412 14 rfl ?_
                          refine zz_bipush (v := nI 58) hX dL_law_414 rfl ?_
                          refine zz_icmp_neN hX (by omega) (by decide) 424 dL_law_416 (by decide) (fun c416 => ?_) (fun c416 => ?_)
                          · skip
                            refine zz_iload hX dL_law_424 14 rfl ?_
                            refine zz_bipush (v := nI 62) hX dL_law_426 rfl ?_
                            refine zz_icmp_geN hX (by omega) (by decide) 436 dL_law_428 (by decide) (fun c428 => ?_) (fun c428 => ?_)
                            · skip
                              refine zz_bipush (v := nI 10) hX dL_law_436 rfl ?_
                              refine zz_iload hX dL_law_438 15 rfl ?_
                              refine zz_iload hX dL_law_440 16 rfl ?_
                              refine zz_callSB hX zf_M_L_191 (As := [.ref 2, .ref 100, .ref 101, .ref 102, .ref 103, .ref 104, .ref 105, .ref 106, .ref 107, .ref 108, .ref 109, .int (nI 10), .int (nI t23), .int (nI t24)]) (st := []) (S_out n (by omega) S su iu mu hJ.1 hJ.2 h10 t23 t24 (by omega) (by omega)) rfl rfl (by decide) (by decide) (Nat.le_of_ble_eq_true rfl) (by omega) (by omega) dL_law_442 ?_ (fun _ _ _ _ h _ => h.elim)
                              rintro v9 s26 i26 m26 ⟨rfl, ⟨S26, hJ26⟩, h1026⟩ -
                              refine zz_istore (ls' := [(0, .ref 10), (1, .ref 2), (2, .ref 100), (3, .ref 101), (4, .ref 102), (5, .ref 103), (6, .ref 104), (7, .ref 105), (8, .ref 106), (9, .ref 107), (10, .ref 108), (11, .ref 109), (12, .int (nI 1)), (13, .int (nI n)), (14, .int (nI w)), (15, .int (nI t23)), (16, .int (nI t24))]) hX dL_law_445 (Nat.le_of_ble_eq_true rfl) rfl ?_
                              refine zz_pick (ls' := [(0, .ref 10), (1, .ref 2), (2, .ref 100), (3, .ref 101), (4, .ref 102), (5, .ref 103), (6, .ref 104), (7, .ref 105), (8, .ref 106), (9, .ref 107), (10, .ref 108), (11, .ref 109), (12, .int (nI 1)), (13, .int (nI n)), (15, .int (nI t23)), (16, .int (nI t24))]) [0, 1, 2, 3, 4, 5, 6, 7, 8, 9, 10, 11, 12, 13, 15, 16] rfl ?_
                              exact K447 _ _ _ _ _ _ (by omega) (by omega) hJ26 h1026
                            · skip
                              refine zz_bipush (v := nI 9) hX dL_law_431 rfl ?_
                              refine zz_goto hX 438 dL_law_433 (by decide) ?_
                              refine zz_iload hX dL_law_438 15 rfl ?_
                              refine zz_iload hX dL_law_440 16 rfl ?_
                              refine zz_callSB hX zf_M_L_191 (As := [.ref 2, .ref 100, .ref 101, .ref 102, .ref 103, .ref 104, .ref 105, .ref 106, .ref 107, .ref 108, .ref 109, .int (nI 9), .int (nI t23), .int (nI t24)]) (st := []) (S_cut n (by omega) S su iu mu hJ.1 hJ.2 h10 t23 t24 (by omega) (by omega)) rfl rfl (by decide) (by decide) (Nat.le_of_ble_eq_true rfl) (by omega) (by omega) dL_law_442 ?_ (fun _ _ _ _ h _ => h.elim)
                              rintro v9 s27 i27 m27 ⟨rfl, ⟨S27, hJ27⟩, h1027⟩ -
                              refine zz_istore (ls' := [(0, .ref 10), (1, .ref 2), (2, .ref 100), (3, .ref 101), (4, .ref 102), (5, .ref 103), (6, .ref 104), (7, .ref 105), (8, .ref 106), (9, .ref 107), (10, .ref 108), (11, .ref 109), (12, .int (nI 1)), (13, .int (nI n)), (14, .int (nI w)), (15, .int (nI t23)), (16, .int (nI t24))]) hX dL_law_445 (Nat.le_of_ble_eq_true rfl) rfl ?_
                              refine zz_pick (ls' := [(0, .ref 10), (1, .ref 2), (2, .ref 100), (3, .ref 101), (4, .ref 102), (5, .ref 103), (6, .ref 104), (7, .ref 105), (8, .ref 106), (9, .ref 107), (10, .ref 108), (11, .ref 109), (12, .int (nI 1)), (13, .int (nI n)), (15, .int (nI t23)), (16, .int (nI t24))]) [0, 1, 2, 3, 4, 5, 6, 7, 8, 9, 10, 11, 12, 13, 15, 16] rfl ?_
                              exact K447 _ _ _ _ _ _ (by omega) (by omega) hJ27 h1027
                          · skip
                            refine zz_bipush (v := nI 8) hX dL_law_419 rfl ?_
                            refine zz_goto hX 438 dL_law_421 (by decide) ?_
                            refine zz_iload hX dL_law_438 15 rfl ?_
                            refine zz_iload hX dL_law_440 16 rfl ?_
                            refine zz_callSB hX zf_M_L_191 (As := [.ref 2, .ref 100, .ref 101, .ref 102, .ref 103, .ref 104, .ref 105, .ref 106, .ref 107, .ref 108, .ref 109, .int (nI 8), .int (nI t23), .int (nI t24)]) (st := []) (S_lamp n (by omega) S su iu mu hJ.1 hJ.2 h10 t23 t24 (by omega) (by omega)) rfl rfl (by decide) (by decide) (Nat.le_of_ble_eq_true rfl) (by omega) (by omega) dL_law_442 ?_ (fun _ _ _ _ h _ => h.elim)
                            rintro v9 s28 i28 m28 ⟨rfl, ⟨S28, hJ28⟩, h1028⟩ -
                            refine zz_istore (ls' := [(0, .ref 10), (1, .ref 2), (2, .ref 100), (3, .ref 101), (4, .ref 102), (5, .ref 103), (6, .ref 104), (7, .ref 105), (8, .ref 106), (9, .ref 107), (10, .ref 108), (11, .ref 109), (12, .int (nI 1)), (13, .int (nI n)), (14, .int (nI w)), (15, .int (nI t23)), (16, .int (nI t24))]) hX dL_law_445 (Nat.le_of_ble_eq_true rfl) rfl ?_
                            refine zz_pick (ls' := [(0, .ref 10), (1, .ref 2), (2, .ref 100), (3, .ref 101), (4, .ref 102), (5, .ref 103), (6, .ref 104), (7, .ref 105), (8, .ref 106), (9, .ref 107), (10, .ref 108), (11, .ref 109), (12, .int (nI 1)), (13, .int (nI n)), (15, .int (nI t23)), (16, .int (nI t24))]) [0, 1, 2, 3, 4, 5, 6, 7, 8, 9, 10, 11, 12, 13, 15, 16] rfl ?_
                            exact K447 _ _ _ _ _ _ (by omega) (by omega) hJ28 h1028
                        · skip
                          refine zz_bipush (v := nI 7) hX dL_law_407 rfl ?_
                          refine zz_goto hX 438 dL_law_409 (by decide) ?_
                          refine zz_iload hX dL_law_438 15 rfl ?_
                          refine zz_iload hX dL_law_440 16 rfl ?_
                          refine zz_callSB hX zf_M_L_191 (As := [.ref 2, .ref 100, .ref 101, .ref 102, .ref 103, .ref 104, .ref 105, .ref 106, .ref 107, .ref 108, .ref 109, .int (nI 7), .int (nI t23), .int (nI t24)]) (st := []) (S_mend n (by omega) S su iu mu hJ.1 hJ.2 h10 t23 t24 (by omega) (by omega)) rfl rfl (by decide) (by decide) (Nat.le_of_ble_eq_true rfl) (by omega) (by omega) dL_law_442 ?_ (fun _ _ _ _ h _ => h.elim)
                          rintro v9 s29 i29 m29 ⟨rfl, ⟨S29, hJ29⟩, h1029⟩ -
                          refine zz_istore (ls' := [(0, .ref 10), (1, .ref 2), (2, .ref 100), (3, .ref 101), (4, .ref 102), (5, .ref 103), (6, .ref 104), (7, .ref 105), (8, .ref 106), (9, .ref 107), (10, .ref 108), (11, .ref 109), (12, .int (nI 1)), (13, .int (nI n)), (14, .int (nI w)), (15, .int (nI t23)), (16, .int (nI t24))]) hX dL_law_445 (Nat.le_of_ble_eq_true rfl) rfl ?_
                          refine zz_pick (ls' := [(0, .ref 10), (1, .ref 2), (2, .ref 100), (3, .ref 101), (4, .ref 102), (5, .ref 103), (6, .ref 104), (7, .ref 105), (8, .ref 106), (9, .ref 107), (10, .ref 108), (11, .ref 109), (12, .int (nI 1)), (13, .int (nI n)), (15, .int (nI t23)), (16, .int (nI t24))]) [0, 1, 2, 3, 4, 5, 6, 7, 8, 9, 10, 11, 12, 13, 15, 16] rfl ?_
                          exact K447 _ _ _ _ _ _ (by omega) (by omega) hJ29 h1029
                      · skip
                        refine zz_bipush (v := nI 6) hX dL_law_395 rfl ?_
                        refine zz_goto hX 438 dL_law_397 (by decide) ?_
                        refine zz_iload hX dL_law_438 15 rfl ?_
                        refine zz_iload hX dL_law_440 16 rfl ?_
                        refine zz_callSB hX zf_M_L_191 (As := [.ref 2, .ref 100, .ref 101, .ref 102, .ref 103, .ref 104, .ref 105, .ref 106, .ref 107, .ref 108, .ref 109, .int (nI 6), .int (nI t23), .int (nI t24)]) (st := []) (S_anew n (by omega) S su iu mu hJ.1 hJ.2 h10 t23 t24 (by omega) (by omega)) rfl rfl (by decide) (by decide) (Nat.le_of_ble_eq_true rfl) (by omega) (by omega) dL_law_442 ?_ (fun _ _ _ _ h _ => h.elim)
                        rintro v9 s30 i30 m30 ⟨rfl, ⟨S30, hJ30⟩, h1030⟩ -
                        refine zz_istore (ls' := [(0, .ref 10), (1, .ref 2), (2, .ref 100), (3, .ref 101), (4, .ref 102), (5, .ref 103), (6, .ref 104), (7, .ref 105), (8, .ref 106), (9, .ref 107), (10, .ref 108), (11, .ref 109), (12, .int (nI 1)), (13, .int (nI n)), (14, .int (nI w)), (15, .int (nI t23)), (16, .int (nI t24))]) hX dL_law_445 (Nat.le_of_ble_eq_true rfl) rfl ?_
                        refine zz_pick (ls' := [(0, .ref 10), (1, .ref 2), (2, .ref 100), (3, .ref 101), (4, .ref 102), (5, .ref 103), (6, .ref 104), (7, .ref 105), (8, .ref 106), (9, .ref 107), (10, .ref 108), (11, .ref 109), (12, .int (nI 1)), (13, .int (nI n)), (15, .int (nI t23)), (16, .int (nI t24))]) [0, 1, 2, 3, 4, 5, 6, 7, 8, 9, 10, 11, 12, 13, 15, 16] rfl ?_
                        exact K447 _ _ _ _ _ _ (by omega) (by omega) hJ30 h1030
                    · skip
                      refine zz_iconst (v := nI 5) hX dL_law_384 rfl ?_
                      refine zz_goto hX 438 dL_law_385 (by decide) ?_
                      refine zz_iload hX dL_law_438 15 rfl ?_
                      refine zz_iload hX dL_law_440 16 rfl ?_
                      refine zz_callSB hX zf_M_L_191 (As := [.ref 2, .ref 100, .ref 101, .ref 102, .ref 103, .ref 104, .ref 105, .ref 106, .ref 107, .ref 108, .ref 109, .int (nI 5), .int (nI t23), .int (nI t24)]) (st := []) (S_level n (by omega) S su iu mu hJ.1 hJ.2 h10 t23 t24 (by omega) (by omega)) rfl rfl (by decide) (by decide) (Nat.le_of_ble_eq_true rfl) (by omega) (by omega) dL_law_442 ?_ (fun _ _ _ _ h _ => h.elim)
                      rintro v9 s31 i31 m31 ⟨rfl, ⟨S31, hJ31⟩, h1031⟩ -
                      refine zz_istore (ls' := [(0, .ref 10), (1, .ref 2), (2, .ref 100), (3, .ref 101), (4, .ref 102), (5, .ref 103), (6, .ref 104), (7, .ref 105), (8, .ref 106), (9, .ref 107), (10, .ref 108), (11, .ref 109), (12, .int (nI 1)), (13, .int (nI n)), (14, .int (nI w)), (15, .int (nI t23)), (16, .int (nI t24))]) hX dL_law_445 (Nat.le_of_ble_eq_true rfl) rfl ?_
                      refine zz_pick (ls' := [(0, .ref 10), (1, .ref 2), (2, .ref 100), (3, .ref 101), (4, .ref 102), (5, .ref 103), (6, .ref 104), (7, .ref 105), (8, .ref 106), (9, .ref 107), (10, .ref 108), (11, .ref 109), (12, .int (nI 1)), (13, .int (nI n)), (15, .int (nI t23)), (16, .int (nI t24))]) [0, 1, 2, 3, 4, 5, 6, 7, 8, 9, 10, 11, 12, 13, 15, 16] rfl ?_
                      exact K447 _ _ _ _ _ _ (by omega) (by omega) hJ31 h1031
                  · skip
                    refine zz_iconst (v := nI 4) hX dL_law_373 rfl ?_
                    refine zz_goto hX 438 dL_law_374 (by decide) ?_
                    refine zz_iload hX dL_law_438 15 rfl ?_
                    refine zz_iload hX dL_law_440 16 rfl ?_
                    refine zz_callSB hX zf_M_L_191 (As := [.ref 2, .ref 100, .ref 101, .ref 102, .ref 103, .ref 104, .ref 105, .ref 106, .ref 107, .ref 108, .ref 109, .int (nI 4), .int (nI t23), .int (nI t24)]) (st := []) (S_bump n (by omega) S su iu mu hJ.1 hJ.2 h10 t23 t24 (by omega) (by omega)) rfl rfl (by decide) (by decide) (Nat.le_of_ble_eq_true rfl) (by omega) (by omega) dL_law_442 ?_ (fun _ _ _ _ h _ => h.elim)
                    rintro v9 s32 i32 m32 ⟨rfl, ⟨S32, hJ32⟩, h1032⟩ -
                    refine zz_istore (ls' := [(0, .ref 10), (1, .ref 2), (2, .ref 100), (3, .ref 101), (4, .ref 102), (5, .ref 103), (6, .ref 104), (7, .ref 105), (8, .ref 106), (9, .ref 107), (10, .ref 108), (11, .ref 109), (12, .int (nI 1)), (13, .int (nI n)), (14, .int (nI w)), (15, .int (nI t23)), (16, .int (nI t24))]) hX dL_law_445 (Nat.le_of_ble_eq_true rfl) rfl ?_
                    refine zz_pick (ls' := [(0, .ref 10), (1, .ref 2), (2, .ref 100), (3, .ref 101), (4, .ref 102), (5, .ref 103), (6, .ref 104), (7, .ref 105), (8, .ref 106), (9, .ref 107), (10, .ref 108), (11, .ref 109), (12, .int (nI 1)), (13, .int (nI n)), (15, .int (nI t23)), (16, .int (nI t24))]) [0, 1, 2, 3, 4, 5, 6, 7, 8, 9, 10, 11, 12, 13, 15, 16] rfl ?_
                    exact K447 _ _ _ _ _ _ (by omega) (by omega) hJ32 h1032
                · skip
                  refine zz_iconst (v := nI 3) hX dL_law_362 rfl ?_
                  refine zz_goto hX 438 dL_law_363 (by decide) ?_
                  refine zz_iload hX dL_law_438 15 rfl ?_
                  refine zz_iload hX dL_law_440 16 rfl ?_
                  refine zz_callSB hX zf_M_L_191 (As := [.ref 2, .ref 100, .ref 101, .ref 102, .ref 103, .ref 104, .ref 105, .ref 106, .ref 107, .ref 108, .ref 109, .int (nI 3), .int (nI t23), .int (nI t24)]) (st := []) (S_strike n (by omega) S su iu mu hJ.1 hJ.2 h10 t23 t24 (by omega) (by omega)) rfl rfl (by decide) (by decide) (Nat.le_of_ble_eq_true rfl) (by omega) (by omega) dL_law_442 ?_ (fun _ _ _ _ h _ => h.elim)
                  rintro v9 s33 i33 m33 ⟨rfl, ⟨S33, hJ33⟩, h1033⟩ -
                  refine zz_istore (ls' := [(0, .ref 10), (1, .ref 2), (2, .ref 100), (3, .ref 101), (4, .ref 102), (5, .ref 103), (6, .ref 104), (7, .ref 105), (8, .ref 106), (9, .ref 107), (10, .ref 108), (11, .ref 109), (12, .int (nI 1)), (13, .int (nI n)), (14, .int (nI w)), (15, .int (nI t23)), (16, .int (nI t24))]) hX dL_law_445 (Nat.le_of_ble_eq_true rfl) rfl ?_
                  refine zz_pick (ls' := [(0, .ref 10), (1, .ref 2), (2, .ref 100), (3, .ref 101), (4, .ref 102), (5, .ref 103), (6, .ref 104), (7, .ref 105), (8, .ref 106), (9, .ref 107), (10, .ref 108), (11, .ref 109), (12, .int (nI 1)), (13, .int (nI n)), (15, .int (nI t23)), (16, .int (nI t24))]) [0, 1, 2, 3, 4, 5, 6, 7, 8, 9, 10, 11, 12, 13, 15, 16] rfl ?_
                  exact K447 _ _ _ _ _ _ (by omega) (by omega) hJ33 h1033
              · skip
                refine zz_iconst (v := nI 2) hX dL_law_351 rfl ?_
                refine zz_goto hX 438 dL_law_352 (by decide) ?_
                refine zz_iload hX dL_law_438 15 rfl ?_
                refine zz_iload hX dL_law_440 16 rfl ?_
                refine zz_callSB hX zf_M_L_191 (As := [.ref 2, .ref 100, .ref 101, .ref 102, .ref 103, .ref 104, .ref 105, .ref 106, .ref 107, .ref 108, .ref 109, .int (nI 2), .int (nI t23), .int (nI t24)]) (st := []) (S_play n (by omega) S su iu mu hJ.1 hJ.2 h10 t23 t24 (by omega) (by omega)) rfl rfl (by decide) (by decide) (Nat.le_of_ble_eq_true rfl) (by omega) (by omega) dL_law_442 ?_ (fun _ _ _ _ h _ => h.elim)
                rintro v9 s34 i34 m34 ⟨rfl, ⟨S34, hJ34⟩, h1034⟩ -
                refine zz_istore (ls' := [(0, .ref 10), (1, .ref 2), (2, .ref 100), (3, .ref 101), (4, .ref 102), (5, .ref 103), (6, .ref 104), (7, .ref 105), (8, .ref 106), (9, .ref 107), (10, .ref 108), (11, .ref 109), (12, .int (nI 1)), (13, .int (nI n)), (14, .int (nI w)), (15, .int (nI t23)), (16, .int (nI t24))]) hX dL_law_445 (Nat.le_of_ble_eq_true rfl) rfl ?_
                refine zz_pick (ls' := [(0, .ref 10), (1, .ref 2), (2, .ref 100), (3, .ref 101), (4, .ref 102), (5, .ref 103), (6, .ref 104), (7, .ref 105), (8, .ref 106), (9, .ref 107), (10, .ref 108), (11, .ref 109), (12, .int (nI 1)), (13, .int (nI n)), (15, .int (nI t23)), (16, .int (nI t24))]) [0, 1, 2, 3, 4, 5, 6, 7, 8, 9, 10, 11, 12, 13, 15, 16] rfl ?_
                exact K447 _ _ _ _ _ _ (by omega) (by omega) hJ34 h1034
            · skip
              refine zz_iconst (v := nI 1) hX dL_law_340 rfl ?_
              refine zz_goto hX 438 dL_law_341 (by decide) ?_
              refine zz_iload hX dL_law_438 15 rfl ?_
              refine zz_iload hX dL_law_440 16 rfl ?_
              refine zz_callSB hX zf_M_L_191 (As := [.ref 2, .ref 100, .ref 101, .ref 102, .ref 103, .ref 104, .ref 105, .ref 106, .ref 107, .ref 108, .ref 109, .int (nI 1), .int (nI t23), .int (nI t24)]) (st := []) (S_camera n (by omega) S su iu mu hJ.1 hJ.2 h10 t23 t24 (by omega) (by omega)) rfl rfl (by decide) (by decide) (Nat.le_of_ble_eq_true rfl) (by omega) (by omega) dL_law_442 ?_ (fun _ _ _ _ h _ => h.elim)
              rintro v9 s35 i35 m35 ⟨rfl, ⟨S35, hJ35⟩, h1035⟩ -
              refine zz_istore (ls' := [(0, .ref 10), (1, .ref 2), (2, .ref 100), (3, .ref 101), (4, .ref 102), (5, .ref 103), (6, .ref 104), (7, .ref 105), (8, .ref 106), (9, .ref 107), (10, .ref 108), (11, .ref 109), (12, .int (nI 1)), (13, .int (nI n)), (14, .int (nI w)), (15, .int (nI t23)), (16, .int (nI t24))]) hX dL_law_445 (Nat.le_of_ble_eq_true rfl) rfl ?_
              refine zz_pick (ls' := [(0, .ref 10), (1, .ref 2), (2, .ref 100), (3, .ref 101), (4, .ref 102), (5, .ref 103), (6, .ref 104), (7, .ref 105), (8, .ref 106), (9, .ref 107), (10, .ref 108), (11, .ref 109), (12, .int (nI 1)), (13, .int (nI n)), (15, .int (nI t23)), (16, .int (nI t24))]) [0, 1, 2, 3, 4, 5, 6, 7, 8, 9, 10, 11, 12, 13, 15, 16] rfl ?_
              exact K447 _ _ _ _ _ _ (by omega) (by omega) hJ35 h1035
          · skip
            refine zz_iconst (v := nI 0) hX dL_law_329 rfl ?_
            refine zz_goto hX 438 dL_law_330 (by decide) ?_
            refine zz_iload hX dL_law_438 15 rfl ?_
            refine zz_iload hX dL_law_440 16 rfl ?_
            refine zz_callSB hX zf_M_L_191 (As := [.ref 2, .ref 100, .ref 101, .ref 102, .ref 103, .ref 104, .ref 105, .ref 106, .ref 107, .ref 108, .ref 109, .int (nI 0), .int (nI t23), .int (nI t24)]) (st := []) (S_key n (by omega) S su iu mu hJ.1 hJ.2 h10 t23 t24 (by omega) (by omega)) rfl rfl (by decide) (by decide) (Nat.le_of_ble_eq_true rfl) (by omega) (by omega) dL_law_442 ?_ (fun _ _ _ _ h _ => h.elim)
            rintro v9 s36 i36 m36 ⟨rfl, ⟨S36, hJ36⟩, h1036⟩ -
            refine zz_istore (ls' := [(0, .ref 10), (1, .ref 2), (2, .ref 100), (3, .ref 101), (4, .ref 102), (5, .ref 103), (6, .ref 104), (7, .ref 105), (8, .ref 106), (9, .ref 107), (10, .ref 108), (11, .ref 109), (12, .int (nI 1)), (13, .int (nI n)), (14, .int (nI w)), (15, .int (nI t23)), (16, .int (nI t24))]) hX dL_law_445 (Nat.le_of_ble_eq_true rfl) rfl ?_
            refine zz_pick (ls' := [(0, .ref 10), (1, .ref 2), (2, .ref 100), (3, .ref 101), (4, .ref 102), (5, .ref 103), (6, .ref 104), (7, .ref 105), (8, .ref 106), (9, .ref 107), (10, .ref 108), (11, .ref 109), (12, .int (nI 1)), (13, .int (nI n)), (15, .int (nI t23)), (16, .int (nI t24))]) [0, 1, 2, 3, 4, 5, 6, 7, 8, 9, 10, 11, 12, 13, 15, 16] rfl ?_
            exact K447 _ _ _ _ _ _ (by omega) (by omega) hJ36 h1036
        · skip
          rcases (by omega : w = 0 ∨ w = 1 ∨ w = 2 ∨ w = 3 ∨ w = 4 ∨ w = 5 ∨ w = 6 ∨ w = 7) with rfl | rfl | rfl | rfl | rfl | rfl | rfl | rfl
          · skip
            refine zz_aload_n hX dL_law_279 1 rfl rfl ?_
            refine zz_aload_n hX dL_law_280 2 rfl rfl ?_
            refine zz_aload hX dL_law_281 4 rfl ?_
            refine zz_aload hX dL_law_283 5 rfl ?_
            refine zz_aload hX dL_law_285 6 rfl ?_
            refine zz_aload hX dL_law_287 11 rfl ?_
            refine zz_iload hX dL_law_289 14 rfl ?_
            refine zz_iload hX dL_law_291 15 rfl ?_
            refine zz_iload hX dL_law_293 16 rfl ?_
            by_cases h2 : zv_np S < 2
            · skip
              refine zz_callS hX zf_M_L_187 (As := [.ref 2, .ref 100, .ref 102, .ref 103, .ref 104, .ref 109, .int (nI 0), .int (nI t23), .int (nI t24)]) (st := []) (T_puppet n (by omega) S su iu mu hJ.1 hJ.2 h10 t23 t24 (by omega) (by omega) h2) rfl rfl (by decide) (Nat.le_of_ble_eq_true rfl) (by omega) (by omega) dL_law_295 ?_ (fun _ _ _ _ h _ => h.elim)
              rintro v9 s37 i37 m37 ⟨rfl, ⟨S37, hJ37⟩, h1037⟩ -
              refine zz_istore (ls' := [(0, .ref 10), (1, .ref 2), (2, .ref 100), (3, .ref 101), (4, .ref 102), (5, .ref 103), (6, .ref 104), (7, .ref 105), (8, .ref 106), (9, .ref 107), (10, .ref 108), (11, .ref 109), (12, .int (nI 1)), (13, .int (nI n)), (14, .int (nI 0)), (15, .int (nI t23)), (16, .int (nI t24))]) hX dL_law_298 (Nat.le_of_ble_eq_true rfl) rfl ?_
              refine zz_goto hX 447 dL_law_300 (by decide) ?_
              refine zz_pick (ls' := [(0, .ref 10), (1, .ref 2), (2, .ref 100), (3, .ref 101), (4, .ref 102), (5, .ref 103), (6, .ref 104), (7, .ref 105), (8, .ref 106), (9, .ref 107), (10, .ref 108), (11, .ref 109), (12, .int (nI 1)), (13, .int (nI n)), (15, .int (nI t23)), (16, .int (nI t24))]) [0, 1, 2, 3, 4, 5, 6, 7, 8, 9, 10, 11, 12, 13, 15, 16] rfl ?_
              exact K447 _ _ _ _ _ _ (by omega) (by omega) hJ37 h1037
            · skip
              refine zz_callS hX zf_M_L_187 (As := [.ref 2, .ref 100, .ref 102, .ref 103, .ref 104, .ref 109, .int (nI 0), .int (nI t23), .int (nI t24)]) (st := []) (T_mouths0 n (by omega) S su iu mu hJ.1 hJ.2 h10 t23 t24 (by omega) (by omega) h2) rfl rfl (by decide) (Nat.le_of_ble_eq_true rfl) (by omega) (by omega) dL_law_295 ?_ (fun _ _ _ _ h _ => h.elim)
              rintro v9 s38 i38 m38 ⟨rfl, ⟨S38, hJ38⟩, h1038⟩ -
              refine zz_istore (ls' := [(0, .ref 10), (1, .ref 2), (2, .ref 100), (3, .ref 101), (4, .ref 102), (5, .ref 103), (6, .ref 104), (7, .ref 105), (8, .ref 106), (9, .ref 107), (10, .ref 108), (11, .ref 109), (12, .int (nI 1)), (13, .int (nI n)), (14, .int (nI 0)), (15, .int (nI t23)), (16, .int (nI t24))]) hX dL_law_298 (Nat.le_of_ble_eq_true rfl) rfl ?_
              refine zz_goto hX 447 dL_law_300 (by decide) ?_
              refine zz_pick (ls' := [(0, .ref 10), (1, .ref 2), (2, .ref 100), (3, .ref 101), (4, .ref 102), (5, .ref 103), (6, .ref 104), (7, .ref 105), (8, .ref 106), (9, .ref 107), (10, .ref 108), (11, .ref 109), (12, .int (nI 1)), (13, .int (nI n)), (15, .int (nI t23)), (16, .int (nI t24))]) [0, 1, 2, 3, 4, 5, 6, 7, 8, 9, 10, 11, 12, 13, 15, 16] rfl ?_
              exact K447 _ _ _ _ _ _ (by omega) (by omega) hJ38 h1038
          · skip
            refine zz_aload_n hX dL_law_279 1 rfl rfl ?_
            refine zz_aload_n hX dL_law_280 2 rfl rfl ?_
            refine zz_aload hX dL_law_281 4 rfl ?_
            refine zz_aload hX dL_law_283 5 rfl ?_
            refine zz_aload hX dL_law_285 6 rfl ?_
            refine zz_aload hX dL_law_287 11 rfl ?_
            refine zz_iload hX dL_law_289 14 rfl ?_
            refine zz_iload hX dL_law_291 15 rfl ?_
            refine zz_iload hX dL_law_293 16 rfl ?_
            refine zz_callS hX zf_M_L_187 (As := [.ref 2, .ref 100, .ref 102, .ref 103, .ref 104, .ref 109, .int (nI 1), .int (nI t23), .int (nI t24)]) (st := []) (T_mouths n (by omega) S su iu mu hJ.1 hJ.2 h10 t23 t24 (by omega) (by omega)) rfl rfl (by decide) (Nat.le_of_ble_eq_true rfl) (by omega) (by omega) dL_law_295 ?_ (fun _ _ _ _ h _ => h.elim)
            rintro v9 s39 i39 m39 ⟨rfl, ⟨S39, hJ39⟩, h1039⟩ -
            refine zz_istore (ls' := [(0, .ref 10), (1, .ref 2), (2, .ref 100), (3, .ref 101), (4, .ref 102), (5, .ref 103), (6, .ref 104), (7, .ref 105), (8, .ref 106), (9, .ref 107), (10, .ref 108), (11, .ref 109), (12, .int (nI 1)), (13, .int (nI n)), (14, .int (nI 1)), (15, .int (nI t23)), (16, .int (nI t24))]) hX dL_law_298 (Nat.le_of_ble_eq_true rfl) rfl ?_
            refine zz_goto hX 447 dL_law_300 (by decide) ?_
            refine zz_pick (ls' := [(0, .ref 10), (1, .ref 2), (2, .ref 100), (3, .ref 101), (4, .ref 102), (5, .ref 103), (6, .ref 104), (7, .ref 105), (8, .ref 106), (9, .ref 107), (10, .ref 108), (11, .ref 109), (12, .int (nI 1)), (13, .int (nI n)), (15, .int (nI t23)), (16, .int (nI t24))]) [0, 1, 2, 3, 4, 5, 6, 7, 8, 9, 10, 11, 12, 13, 15, 16] rfl ?_
            exact K447 _ _ _ _ _ _ (by omega) (by omega) hJ39 h1039
          · skip
            refine zz_aload_n hX dL_law_279 1 rfl rfl ?_
            refine zz_aload_n hX dL_law_280 2 rfl rfl ?_
            refine zz_aload hX dL_law_281 4 rfl ?_
            refine zz_aload hX dL_law_283 5 rfl ?_
            refine zz_aload hX dL_law_285 6 rfl ?_
            refine zz_aload hX dL_law_287 11 rfl ?_
            refine zz_iload hX dL_law_289 14 rfl ?_
            refine zz_iload hX dL_law_291 15 rfl ?_
            refine zz_iload hX dL_law_293 16 rfl ?_
            refine zz_callS hX zf_M_L_187 (As := [.ref 2, .ref 100, .ref 102, .ref 103, .ref 104, .ref 109, .int (nI 2), .int (nI t23), .int (nI t24)]) (st := []) (T_sound n (by omega) S su iu mu hJ.1 hJ.2 h10 t23 t24 (by omega) (by omega)) rfl rfl (by decide) (Nat.le_of_ble_eq_true rfl) (by omega) (by omega) dL_law_295 ?_ (fun _ _ _ _ h _ => h.elim)
            rintro v9 s40 i40 m40 ⟨rfl, ⟨S40, hJ40⟩, h1040⟩ -
            refine zz_istore (ls' := [(0, .ref 10), (1, .ref 2), (2, .ref 100), (3, .ref 101), (4, .ref 102), (5, .ref 103), (6, .ref 104), (7, .ref 105), (8, .ref 106), (9, .ref 107), (10, .ref 108), (11, .ref 109), (12, .int (nI 1)), (13, .int (nI n)), (14, .int (nI 2)), (15, .int (nI t23)), (16, .int (nI t24))]) hX dL_law_298 (Nat.le_of_ble_eq_true rfl) rfl ?_
            refine zz_goto hX 447 dL_law_300 (by decide) ?_
            refine zz_pick (ls' := [(0, .ref 10), (1, .ref 2), (2, .ref 100), (3, .ref 101), (4, .ref 102), (5, .ref 103), (6, .ref 104), (7, .ref 105), (8, .ref 106), (9, .ref 107), (10, .ref 108), (11, .ref 109), (12, .int (nI 1)), (13, .int (nI n)), (15, .int (nI t23)), (16, .int (nI t24))]) [0, 1, 2, 3, 4, 5, 6, 7, 8, 9, 10, 11, 12, 13, 15, 16] rfl ?_
            exact K447 _ _ _ _ _ _ (by omega) (by omega) hJ40 h1040
          · skip
            refine zz_aload_n hX dL_law_279 1 rfl rfl ?_
            refine zz_aload_n hX dL_law_280 2 rfl rfl ?_
            refine zz_aload hX dL_law_281 4 rfl ?_
            refine zz_aload hX dL_law_283 5 rfl ?_
            refine zz_aload hX dL_law_285 6 rfl ?_
            refine zz_aload hX dL_law_287 11 rfl ?_
            refine zz_iload hX dL_law_289 14 rfl ?_
            refine zz_iload hX dL_law_291 15 rfl ?_
            refine zz_iload hX dL_law_293 16 rfl ?_
            refine zz_callS hX zf_M_L_187 (As := [.ref 2, .ref 100, .ref 102, .ref 103, .ref 104, .ref 109, .int (nI 3), .int (nI t23), .int (nI t24)]) (st := []) (T_voice n (by omega) S su iu mu hJ.1 hJ.2 h10 t23 t24 (by omega) (by omega)) rfl rfl (by decide) (Nat.le_of_ble_eq_true rfl) (by omega) (by omega) dL_law_295 ?_ (fun _ _ _ _ h _ => h.elim)
            rintro v9 s41 i41 m41 ⟨rfl, ⟨S41, hJ41⟩, h1041⟩ -
            refine zz_istore (ls' := [(0, .ref 10), (1, .ref 2), (2, .ref 100), (3, .ref 101), (4, .ref 102), (5, .ref 103), (6, .ref 104), (7, .ref 105), (8, .ref 106), (9, .ref 107), (10, .ref 108), (11, .ref 109), (12, .int (nI 1)), (13, .int (nI n)), (14, .int (nI 3)), (15, .int (nI t23)), (16, .int (nI t24))]) hX dL_law_298 (Nat.le_of_ble_eq_true rfl) rfl ?_
            refine zz_goto hX 447 dL_law_300 (by decide) ?_
            refine zz_pick (ls' := [(0, .ref 10), (1, .ref 2), (2, .ref 100), (3, .ref 101), (4, .ref 102), (5, .ref 103), (6, .ref 104), (7, .ref 105), (8, .ref 106), (9, .ref 107), (10, .ref 108), (11, .ref 109), (12, .int (nI 1)), (13, .int (nI n)), (15, .int (nI t23)), (16, .int (nI t24))]) [0, 1, 2, 3, 4, 5, 6, 7, 8, 9, 10, 11, 12, 13, 15, 16] rfl ?_
            exact K447 _ _ _ _ _ _ (by omega) (by omega) hJ41 h1041
          · skip
            refine zz_aload_n hX dL_law_279 1 rfl rfl ?_
            refine zz_aload_n hX dL_law_280 2 rfl rfl ?_
            refine zz_aload hX dL_law_281 4 rfl ?_
            refine zz_aload hX dL_law_283 5 rfl ?_
            refine zz_aload hX dL_law_285 6 rfl ?_
            refine zz_aload hX dL_law_287 11 rfl ?_
            refine zz_iload hX dL_law_289 14 rfl ?_
            refine zz_iload hX dL_law_291 15 rfl ?_
            refine zz_iload hX dL_law_293 16 rfl ?_
            refine zz_callS hX zf_M_L_187 (As := [.ref 2, .ref 100, .ref 102, .ref 103, .ref 104, .ref 109, .int (nI 4), .int (nI t23), .int (nI t24)]) (st := []) (T_shot n (by omega) S su iu mu hJ.1 hJ.2 h10 t23 t24 (by omega) (by omega)) rfl rfl (by decide) (Nat.le_of_ble_eq_true rfl) (by omega) (by omega) dL_law_295 ?_ (fun _ _ _ _ h _ => h.elim)
            rintro v9 s42 i42 m42 ⟨rfl, ⟨S42, hJ42⟩, h1042⟩ -
            refine zz_istore (ls' := [(0, .ref 10), (1, .ref 2), (2, .ref 100), (3, .ref 101), (4, .ref 102), (5, .ref 103), (6, .ref 104), (7, .ref 105), (8, .ref 106), (9, .ref 107), (10, .ref 108), (11, .ref 109), (12, .int (nI 1)), (13, .int (nI n)), (14, .int (nI 4)), (15, .int (nI t23)), (16, .int (nI t24))]) hX dL_law_298 (Nat.le_of_ble_eq_true rfl) rfl ?_
            refine zz_goto hX 447 dL_law_300 (by decide) ?_
            refine zz_pick (ls' := [(0, .ref 10), (1, .ref 2), (2, .ref 100), (3, .ref 101), (4, .ref 102), (5, .ref 103), (6, .ref 104), (7, .ref 105), (8, .ref 106), (9, .ref 107), (10, .ref 108), (11, .ref 109), (12, .int (nI 1)), (13, .int (nI n)), (15, .int (nI t23)), (16, .int (nI t24))]) [0, 1, 2, 3, 4, 5, 6, 7, 8, 9, 10, 11, 12, 13, 15, 16] rfl ?_
            exact K447 _ _ _ _ _ _ (by omega) (by omega) hJ42 h1042
          · skip
            refine zz_aload_n hX dL_law_279 1 rfl rfl ?_
            refine zz_aload_n hX dL_law_280 2 rfl rfl ?_
            refine zz_aload hX dL_law_281 4 rfl ?_
            refine zz_aload hX dL_law_283 5 rfl ?_
            refine zz_aload hX dL_law_285 6 rfl ?_
            refine zz_aload hX dL_law_287 11 rfl ?_
            refine zz_iload hX dL_law_289 14 rfl ?_
            refine zz_iload hX dL_law_291 15 rfl ?_
            refine zz_iload hX dL_law_293 16 rfl ?_
            refine zz_callS hX zf_M_L_187 (As := [.ref 2, .ref 100, .ref 102, .ref 103, .ref 104, .ref 109, .int (nI 5), .int (nI t23), .int (nI t24)]) (st := []) (T_assign n (by omega) S su iu mu hJ.1 hJ.2 h10 t23 t24 (by omega) (by omega)) rfl rfl (by decide) (Nat.le_of_ble_eq_true rfl) (by omega) (by omega) dL_law_295 ?_ (fun _ _ _ _ h _ => h.elim)
            rintro v9 s43 i43 m43 ⟨rfl, ⟨S43, hJ43⟩, h1043⟩ -
            refine zz_istore (ls' := [(0, .ref 10), (1, .ref 2), (2, .ref 100), (3, .ref 101), (4, .ref 102), (5, .ref 103), (6, .ref 104), (7, .ref 105), (8, .ref 106), (9, .ref 107), (10, .ref 108), (11, .ref 109), (12, .int (nI 1)), (13, .int (nI n)), (14, .int (nI 5)), (15, .int (nI t23)), (16, .int (nI t24))]) hX dL_law_298 (Nat.le_of_ble_eq_true rfl) rfl ?_
            refine zz_goto hX 447 dL_law_300 (by decide) ?_
            refine zz_pick (ls' := [(0, .ref 10), (1, .ref 2), (2, .ref 100), (3, .ref 101), (4, .ref 102), (5, .ref 103), (6, .ref 104), (7, .ref 105), (8, .ref 106), (9, .ref 107), (10, .ref 108), (11, .ref 109), (12, .int (nI 1)), (13, .int (nI n)), (15, .int (nI t23)), (16, .int (nI t24))]) [0, 1, 2, 3, 4, 5, 6, 7, 8, 9, 10, 11, 12, 13, 15, 16] rfl ?_
            exact K447 _ _ _ _ _ _ (by omega) (by omega) hJ43 h1043
          · skip
            refine zz_aload_n hX dL_law_279 1 rfl rfl ?_
            refine zz_aload_n hX dL_law_280 2 rfl rfl ?_
            refine zz_aload hX dL_law_281 4 rfl ?_
            refine zz_aload hX dL_law_283 5 rfl ?_
            refine zz_aload hX dL_law_285 6 rfl ?_
            refine zz_aload hX dL_law_287 11 rfl ?_
            refine zz_iload hX dL_law_289 14 rfl ?_
            refine zz_iload hX dL_law_291 15 rfl ?_
            refine zz_iload hX dL_law_293 16 rfl ?_
            refine zz_callS hX zf_M_L_187 (As := [.ref 2, .ref 100, .ref 102, .ref 103, .ref 104, .ref 109, .int (nI 6), .int (nI t23), .int (nI t24)]) (st := []) (T_ill n (by omega) S su iu mu hJ.1 hJ.2 h10 t23 t24 (by omega) (by omega)) rfl rfl (by decide) (Nat.le_of_ble_eq_true rfl) (by omega) (by omega) dL_law_295 ?_ (fun _ _ _ _ h _ => h.elim)
            rintro v9 s44 i44 m44 ⟨rfl, ⟨S44, hJ44⟩, h1044⟩ -
            refine zz_istore (ls' := [(0, .ref 10), (1, .ref 2), (2, .ref 100), (3, .ref 101), (4, .ref 102), (5, .ref 103), (6, .ref 104), (7, .ref 105), (8, .ref 106), (9, .ref 107), (10, .ref 108), (11, .ref 109), (12, .int (nI 1)), (13, .int (nI n)), (14, .int (nI 6)), (15, .int (nI t23)), (16, .int (nI t24))]) hX dL_law_298 (Nat.le_of_ble_eq_true rfl) rfl ?_
            refine zz_goto hX 447 dL_law_300 (by decide) ?_
            refine zz_pick (ls' := [(0, .ref 10), (1, .ref 2), (2, .ref 100), (3, .ref 101), (4, .ref 102), (5, .ref 103), (6, .ref 104), (7, .ref 105), (8, .ref 106), (9, .ref 107), (10, .ref 108), (11, .ref 109), (12, .int (nI 1)), (13, .int (nI n)), (15, .int (nI t23)), (16, .int (nI t24))]) [0, 1, 2, 3, 4, 5, 6, 7, 8, 9, 10, 11, 12, 13, 15, 16] rfl ?_
            exact K447 _ _ _ _ _ _ (by omega) (by omega) hJ44 h1044
          · skip
            refine zz_aload_n hX dL_law_279 1 rfl rfl ?_
            refine zz_aload_n hX dL_law_280 2 rfl rfl ?_
            refine zz_aload hX dL_law_281 4 rfl ?_
            refine zz_aload hX dL_law_283 5 rfl ?_
            refine zz_aload hX dL_law_285 6 rfl ?_
            refine zz_aload hX dL_law_287 11 rfl ?_
            refine zz_iload hX dL_law_289 14 rfl ?_
            refine zz_iload hX dL_law_291 15 rfl ?_
            refine zz_iload hX dL_law_293 16 rfl ?_
            refine zz_callS hX zf_M_L_187 (As := [.ref 2, .ref 100, .ref 102, .ref 103, .ref 104, .ref 109, .int (nI 7), .int (nI t23), .int (nI t24)]) (st := []) (T_dub n (by omega) S su iu mu hJ.1 hJ.2 h10 t23 t24 (by omega) (by omega)) rfl rfl (by decide) (Nat.le_of_ble_eq_true rfl) (by omega) (by omega) dL_law_295 ?_ (fun _ _ _ _ h _ => h.elim)
            rintro v9 s45 i45 m45 ⟨rfl, ⟨S45, hJ45⟩, h1045⟩ -
            refine zz_istore (ls' := [(0, .ref 10), (1, .ref 2), (2, .ref 100), (3, .ref 101), (4, .ref 102), (5, .ref 103), (6, .ref 104), (7, .ref 105), (8, .ref 106), (9, .ref 107), (10, .ref 108), (11, .ref 109), (12, .int (nI 1)), (13, .int (nI n)), (14, .int (nI 7)), (15, .int (nI t23)), (16, .int (nI t24))]) hX dL_law_298 (Nat.le_of_ble_eq_true rfl) rfl ?_
            refine zz_goto hX 447 dL_law_300 (by decide) ?_
            refine zz_pick (ls' := [(0, .ref 10), (1, .ref 2), (2, .ref 100), (3, .ref 101), (4, .ref 102), (5, .ref 103), (6, .ref 104), (7, .ref 105), (8, .ref 106), (9, .ref 107), (10, .ref 108), (11, .ref 109), (12, .int (nI 1)), (13, .int (nI n)), (15, .int (nI t23)), (16, .int (nI t24))]) [0, 1, 2, 3, 4, 5, 6, 7, 8, 9, 10, 11, 12, 13, 15, 16] rfl ?_
            exact K447 _ _ _ _ _ _ (by omega) (by omega) hJ45 h1045
      refine zz_iload hX dL_law_168 13 rfl ?_
      refine zz_iconst (v := nI 2) hX dL_law_170 rfl ?_
      refine zz_icmp_geN hX (by omega) (by decide) 178 dL_law_171 (by decide) (fun c171 => ?_) (fun c171 => ?_)
      · skip
        refine zz_iload hX dL_law_178 13 rfl ?_
        refine zz_iconst (v := nI 4) hX dL_law_180 rfl ?_
        refine zz_icmp_geN hX (by omega) (by decide) 188 dL_law_181 (by decide) (fun c181 => ?_) (fun c181 => ?_)
        · skip
          refine zz_iload hX dL_law_188 13 rfl ?_
          refine zz_bipush (v := nI 6) hX dL_law_190 rfl ?_
          refine zz_icmp_geN hX (by omega) (by decide) 199 dL_law_192 (by decide) (fun c192 => ?_) (fun c192 => ?_)
          · skip
            refine zz_iload hX dL_law_199 13 rfl ?_
            refine zz_bipush (v := nI 7) hX dL_law_201 rfl ?_
            refine zz_icmp_geN hX (by omega) (by decide) 210 dL_law_203 (by decide) (fun c203 => ?_) (fun c203 => ?_)
            · skip
              refine zz_iload hX dL_law_210 13 rfl ?_
              refine zz_bipush (v := nI 9) hX dL_law_212 rfl ?_
              refine zz_icmp_geN hX (by omega) (by decide) 221 dL_law_214 (by decide) (fun c214 => ?_) (fun c214 => ?_)
              · skip
                refine zz_iload hX dL_law_221 13 rfl ?_
                refine zz_bipush (v := nI 11) hX dL_law_223 rfl ?_
                refine zz_icmp_geN hX (by omega) (by decide) 232 dL_law_225 (by decide) (fun c225 => ?_) (fun c225 => ?_)
                · skip
                  refine zz_aload_n hX dL_law_232 0 rfl rfl ?_
                  refine zz_iconst (v := nI 3) hX dL_law_233 rfl ?_
                  refine zz_iload hX dL_law_234 13 rfl ?_
                  refine zz_imul (z := nI (3 * n)) hX dL_law_236 (pk_mul _ _) ?_
                  refine zz_bipush (v := nI 64) hX dL_law_237 rfl ?_
                  refine zz_callS hX zf_M_L_183 (As := [.ref 10, .int (nI (3 * n)), .int (nI 64)]) (st := []) (Q_part (3 * n) 64 (by omega) (by omega) su iu mu h10) rfl rfl (by decide) (Nat.le_of_ble_eq_true rfl) (by omega) (by omega) dL_law_239 ?_ (fun _ _ _ _ h _ => h.elim)
                  rintro v9 s9 i9 m9 ⟨t46, ht46, rfl, e2, e3, e4⟩ -
                  obtain rfl := e2.symm
                  obtain rfl := e3.symm
                  obtain rfl := e4.symm
                  exact K242 t46 (by omega)
                · skip
                  refine zz_iconst (v := nI 5) hX dL_law_228 rfl ?_
                  refine zz_goto hX 242 dL_law_229 (by decide) ?_
                  exact K242 5 (by omega)
              · skip
                refine zz_iconst (v := nI 4) hX dL_law_217 rfl ?_
                refine zz_goto hX 242 dL_law_218 (by decide) ?_
                exact K242 4 (by omega)
            · skip
              refine zz_iconst (v := nI 3) hX dL_law_206 rfl ?_
              refine zz_goto hX 242 dL_law_207 (by decide) ?_
              exact K242 3 (by omega)
          · skip
            refine zz_iconst (v := nI 2) hX dL_law_195 rfl ?_
            refine zz_goto hX 242 dL_law_196 (by decide) ?_
            exact K242 2 (by omega)
        · skip
          refine zz_iconst (v := nI 1) hX dL_law_184 rfl ?_
          refine zz_goto hX 242 dL_law_185 (by decide) ?_
          exact K242 1 (by omega)
      · skip
        refine zz_iconst (v := nI 0) hX dL_law_174 rfl ?_
        refine zz_goto hX 242 dL_law_175 (by decide) ?_
        exact K242 0 (by omega)
section ZL0
theorem ql_B_0 : ql_B 0 zt_0 := by
  have z0 : zv_np zt_0 = 0 := by decide
  have z5 : zv_nv zt_0 = 0 := by decide
  have z9 : zv_ns zt_0 = 0 := by decide
  refine ⟨⟨by omega, fun p hp => by omega⟩, ⟨by omega, fun v _ => (show zn (0 : Int32) ≤ 6 by decide)⟩, ⟨by omega, fun p hp => by omega⟩, ⟨(show zv_in (0 : Int32) 0 20 from ⟨by decide, by decide⟩), (show zv_in (0 : Int32) 0 0 from ⟨by decide, by decide⟩)⟩, fun a => (show zv_in (0 : Int32) 0 (180 * 0) from ⟨by decide, by decide⟩), fun a => (show zv_in (0 : Int32) 0 9 from ⟨by decide, by decide⟩), fun i f hi => by omega⟩
theorem ql_N_0 {sh : zm_Sh} {mi : zm_Mi} (hs : ql_S sh) (h0 : ∀ l, 100 ≤ l → l < 110 → mi l = fun _ => 0) : ql_N zt_0 sh mi := by
  have z0 : zv_np zt_0 = 0 := by decide
  have z9 : zv_ns zt_0 = 0 := by decide
  have g : ∀ l, 100 ≤ l → l < 110 → ∀ k, mi l k = 0 := fun l h1 h2 k => by rw [h0 l h1 h2]
  refine ⟨hs, fun p hp => by omega, fun p j _ _ => (g _ (by decide) (by decide) _).trans (show (0 : Int32) = 0 * nI 360 + 0 by decide), fun p s _ _ => (g _ (by decide) (by decide) _).trans rfl, ⟨fun w _ => (g _ (by decide) (by decide) _).trans rfl, fun w q _ _ => (g _ (by decide) (by decide) _).trans (show (0 : Int32) = 0 + nI 16 * 0 by decide)⟩, fun i hi => by omega, fun i j f _ _ _ => (g _ (by decide) (by decide) _).trans (show (0 : Int32) = -1 + nI 1 by decide), fun i f _ _ => (g _ (by decide) (by decide) _).trans (show (0 : Int32) = ql_cw 100000 by decide), fun i j f hi => by omega, ⟨fun i f hi => by omega, fun i _ => (g _ (by decide) (by decide) _).trans rfl⟩, ?_⟩
  exact ⟨(g _ (by decide) (by decide) _).trans rfl, (g _ (by decide) (by decide) _).trans rfl, (g _ (by decide) (by decide) _).trans rfl, (g _ (by decide) (by decide) _).trans rfl, (g _ (by decide) (by decide) _).trans rfl, (g _ (by decide) (by decide) _).trans (show (0 : Int32) = nI (ql_iw zt_0) by decide), (g _ (by decide) (by decide) _).trans (show (0 : Int32) = nI (ql_dw zt_0 (zv_nf zt_0) 0) by decide)⟩
end ZL0
set_option maxHeartbeats 1000000 in
set_option maxRecDepth 20000 in
theorem law_entry {Γ : zz_C} {D : zz_D} {E : zz_E} {ad : Nat → Nat} {sh0 : zm_Sh} {Q : State → Prop} (hX : zz_X Γ (D, E, 17, ad, sh0) RL cL_law 13 600104 7301313) (hend : ∀ (sh : zm_Sh) (mi : zm_Mi) (mr : zm_Mr) (c s n : Nat), c ≤ 600104 → s ≤ 7301313 → zz Γ (D, E, 17, ad, sh0) Q c s sh mi mr 494 [(0, .ref 10), (1, .ref 2), (2, .ref 100), (3, .ref 101), (4, .ref 102), (5, .ref 103), (6, .ref 104), (7, .ref 105), (8, .ref 106), (9, .ref 107), (10, .ref 108), (11, .ref 109), (12, .int (nI 1)), (13, .int (nI n))] [])
    (sh : zm_Sh) (mi : zm_Mi) (mr : zm_Mr) (h10 : sh 10 = some (9, 0)) (hf : ∀ l, l ≠ 10 → sh l = none) : zz Γ (D, E, 17, ad, sh0) Q 0 0 sh mi mr 0 [(0, .ref 10)] [] := by
  refine zz_new hX 2 (hf 2 (by decide)) zf_CL5 zw_cl_L_9 zw_inst_X5 zw_init_X5 (by omega) (by omega) dL_law_0 ?_
  refine zz_dup hX dL_law_3 rfl ?_
  refine zz_callI hX zf_M_L_182 (As := []) (b := 2) (st := [.ref 2]) (k_init0 _ _ _ zm_u1s (fun l hl => (zm_u1n (by omega)).trans (hf l (by omega)))) rfl rfl (by decide) (by decide) (by omega) (by omega) dL_law_4 ?_ (fun _ _ _ _ h _ => h.elim)
  rintro v1 s1 i1 m1 ⟨rfl, hR1, hS1⟩ -
  have k10 : s1 10 = some (9, 0) := (hS1 10 (Or.inr ⟨by decide, by decide⟩)).1.trans ((zm_u1n (by decide)).trans h10)
  have k100 : ∀ l, 100 ≤ l ∧ l < 110 → s1 l = none := fun l hl => (hS1 l (Or.inr ⟨by omega, by omega⟩)).1.trans ((zm_u1n (by omega)).trans (hf l (by omega)))
  refine zz_astore_n (ls' := [(0, .ref 10), (1, .ref 2)]) hX dL_law_7 rfl (Nat.le_of_ble_eq_true rfl) rfl ?_
  refine zz_iconst (v := nI 2) hX dL_law_8 rfl ?_
  refine zz_newa hX 100 (k100 100 ⟨by decide, by decide⟩) (kd := 1) (n := 2) (Or.inl rfl) rfl zw_arr_int rfl (by decide) (by omega) (by omega) dL_law_9 ?_
  refine zz_astore_n (ls' := [(0, .ref 10), (1, .ref 2), (2, .ref 100)]) hX dL_law_11 rfl (Nat.le_of_ble_eq_true rfl) rfl ?_
  refine zz_bipush (v := nI 7) hX dL_law_12 rfl ?_
  refine zz_newa hX 101 ((zm_u1n (by decide)).trans (k100 101 ⟨by decide, by decide⟩)) (kd := 1) (n := 7) (Or.inl rfl) rfl zw_arr_int rfl (by decide) (by omega) (by omega) dL_law_14 ?_
  refine zz_astore_n (ls' := [(0, .ref 10), (1, .ref 2), (2, .ref 100), (3, .ref 101)]) hX dL_law_16 rfl (Nat.le_of_ble_eq_true rfl) rfl ?_
  refine zz_bipush (v := nI 21) hX dL_law_17 rfl ?_
  refine zz_newa hX 102 ((zm_u1n (by decide)).trans ((zm_u1n (by decide)).trans (k100 102 ⟨by decide, by decide⟩))) (kd := 1) (n := 21) (Or.inl rfl) rfl zw_arr_int rfl (by decide) (by omega) (by omega) dL_law_19 ?_
  refine zz_astore (ls' := [(0, .ref 10), (1, .ref 2), (2, .ref 100), (3, .ref 101), (4, .ref 102)]) hX dL_law_21 (Nat.le_of_ble_eq_true rfl) rfl ?_
  refine zz_bipush (v := nI 22) hX dL_law_23 rfl ?_
  refine zz_newa hX 103 ((zm_u1n (by decide)).trans ((zm_u1n (by decide)).trans ((zm_u1n (by decide)).trans (k100 103 ⟨by decide, by decide⟩)))) (kd := 1) (n := 22) (Or.inl rfl) rfl zw_arr_int rfl (by decide) (by omega) (by omega) dL_law_25 ?_
  refine zz_astore (ls' := [(0, .ref 10), (1, .ref 2), (2, .ref 100), (3, .ref 101), (4, .ref 102), (5, .ref 103)]) hX dL_law_27 (Nat.le_of_ble_eq_true rfl) rfl ?_
  refine zz_iconst (v := nI 4) hX dL_law_29 rfl ?_
  refine zz_newa hX 104 ((zm_u1n (by decide)).trans ((zm_u1n (by decide)).trans ((zm_u1n (by decide)).trans ((zm_u1n (by decide)).trans (k100 104 ⟨by decide, by decide⟩))))) (kd := 1) (n := 4) (Or.inl rfl) rfl zw_arr_int rfl (by decide) (by omega) (by omega) dL_law_30 ?_
  refine zz_astore (ls' := [(0, .ref 10), (1, .ref 2), (2, .ref 100), (3, .ref 101), (4, .ref 102), (5, .ref 103), (6, .ref 104)]) hX dL_law_32 (Nat.le_of_ble_eq_true rfl) rfl ?_
  refine zz_bipush (v := nI 55) hX dL_law_34 rfl ?_
  refine zz_newa hX 105 ((zm_u1n (by decide)).trans ((zm_u1n (by decide)).trans ((zm_u1n (by decide)).trans ((zm_u1n (by decide)).trans ((zm_u1n (by decide)).trans (k100 105 ⟨by decide, by decide⟩)))))) (kd := 1) (n := 55) (Or.inl rfl) rfl zw_arr_int rfl (by decide) (by omega) (by omega) dL_law_36 ?_
  refine zz_astore (ls' := [(0, .ref 10), (1, .ref 2), (2, .ref 100), (3, .ref 101), (4, .ref 102), (5, .ref 103), (6, .ref 104), (7, .ref 105)]) hX dL_law_38 (Nat.le_of_ble_eq_true rfl) rfl ?_
  refine zz_bipush (v := nI 19) hX dL_law_40 rfl ?_
  refine zz_newa hX 106 ((zm_u1n (by decide)).trans ((zm_u1n (by decide)).trans ((zm_u1n (by decide)).trans ((zm_u1n (by decide)).trans ((zm_u1n (by decide)).trans ((zm_u1n (by decide)).trans (k100 106 ⟨by decide, by decide⟩))))))) (kd := 1) (n := 19) (Or.inl rfl) rfl zw_arr_int rfl (by decide) (by omega) (by omega) dL_law_42 ?_
  refine zz_astore (ls' := [(0, .ref 10), (1, .ref 2), (2, .ref 100), (3, .ref 101), (4, .ref 102), (5, .ref 103), (6, .ref 104), (7, .ref 105), (8, .ref 106)]) hX dL_law_44 (Nat.le_of_ble_eq_true rfl) rfl ?_
  refine zz_bipush (v := nI 54) hX dL_law_46 rfl ?_
  refine zz_newa hX 107 ((zm_u1n (by decide)).trans ((zm_u1n (by decide)).trans ((zm_u1n (by decide)).trans ((zm_u1n (by decide)).trans ((zm_u1n (by decide)).trans ((zm_u1n (by decide)).trans ((zm_u1n (by decide)).trans (k100 107 ⟨by decide, by decide⟩)))))))) (kd := 1) (n := 54) (Or.inl rfl) rfl zw_arr_int rfl (by decide) (by omega) (by omega) dL_law_48 ?_
  refine zz_astore (ls' := [(0, .ref 10), (1, .ref 2), (2, .ref 100), (3, .ref 101), (4, .ref 102), (5, .ref 103), (6, .ref 104), (7, .ref 105), (8, .ref 106), (9, .ref 107)]) hX dL_law_50 (Nat.le_of_ble_eq_true rfl) rfl ?_
  refine zz_bipush (v := nI 58) hX dL_law_52 rfl ?_
  refine zz_newa hX 108 ((zm_u1n (by decide)).trans ((zm_u1n (by decide)).trans ((zm_u1n (by decide)).trans ((zm_u1n (by decide)).trans ((zm_u1n (by decide)).trans ((zm_u1n (by decide)).trans ((zm_u1n (by decide)).trans ((zm_u1n (by decide)).trans (k100 108 ⟨by decide, by decide⟩))))))))) (kd := 1) (n := 58) (Or.inl rfl) rfl zw_arr_int rfl (by decide) (by omega) (by omega) dL_law_54 ?_
  refine zz_astore (ls' := [(0, .ref 10), (1, .ref 2), (2, .ref 100), (3, .ref 101), (4, .ref 102), (5, .ref 103), (6, .ref 104), (7, .ref 105), (8, .ref 106), (9, .ref 107), (10, .ref 108)]) hX dL_law_56 (Nat.le_of_ble_eq_true rfl) rfl ?_
  refine zz_bipush (v := nI 7) hX dL_law_58 rfl ?_
  refine zz_newa hX 109 ((zm_u1n (by decide)).trans ((zm_u1n (by decide)).trans ((zm_u1n (by decide)).trans ((zm_u1n (by decide)).trans ((zm_u1n (by decide)).trans ((zm_u1n (by decide)).trans ((zm_u1n (by decide)).trans ((zm_u1n (by decide)).trans ((zm_u1n (by decide)).trans (k100 109 ⟨by decide, by decide⟩)))))))))) (kd := 1) (n := 7) (Or.inl rfl) rfl zw_arr_int rfl (by decide) (by omega) (by omega) dL_law_60 ?_
  refine zz_astore (ls' := [(0, .ref 10), (1, .ref 2), (2, .ref 100), (3, .ref 101), (4, .ref 102), (5, .ref 103), (6, .ref 104), (7, .ref 105), (8, .ref 106), (9, .ref 107), (10, .ref 108), (11, .ref 109)]) hX dL_law_62 (Nat.le_of_ble_eq_true rfl) rfl ?_
  have hJ0 : ql_J 0 zt_0 (zm_u1 (zm_u1 (zm_u1 (zm_u1 (zm_u1 (zm_u1 (zm_u1 (zm_u1 (zm_u1 (zm_u1 s1 100 (some (1, 2))) 101 (some (1, 7))) 102 (some (1, 21))) 103 (some (1, 22))) 104 (some (1, 4))) 105 (some (1, 55))) 106 (some (1, 19))) 107 (some (1, 54))) 108 (some (1, 58))) 109 (some (1, 7))) (zm_u1 (zm_u1 (zm_u1 (zm_u1 (zm_u1 (zm_u1 (zm_u1 (zm_u1 (zm_u1 (zm_u1 i1 100 (fun _ => 0)) 101 (fun _ => 0)) 102 (fun _ => 0)) 103 (fun _ => 0)) 104 (fun _ => 0)) 105 (fun _ => 0)) 106 (fun _ => 0)) 107 (fun _ => 0)) 108 (fun _ => 0)) 109 (fun _ => 0)) (zm_u1 (zm_u1 (zm_u1 (zm_u1 (zm_u1 (zm_u1 (zm_u1 (zm_u1 (zm_u1 (zm_u1 m1 100 (fun _ => none)) 101 (fun _ => none)) 102 (fun _ => none)) 103 (fun _ => none)) 104 (fun _ => none)) 105 (fun _ => none)) 106 (fun _ => none)) 107 (fun _ => none)) 108 (fun _ => none)) 109 (fun _ => none)) := by
    refine ⟨⟨by decide, zW_0, ql_B_0, ql_N_0 ?_ ?_⟩, zR_same zW_0 hR1 (fun l hl => ?_)⟩
    · exact ⟨(zm_u1n (by decide)).trans ((zm_u1n (by decide)).trans ((zm_u1n (by decide)).trans ((zm_u1n (by decide)).trans ((zm_u1n (by decide)).trans ((zm_u1n (by decide)).trans ((zm_u1n (by decide)).trans ((zm_u1n (by decide)).trans ((zm_u1n (by decide)).trans (zm_u1s))))))))), (zm_u1n (by decide)).trans ((zm_u1n (by decide)).trans ((zm_u1n (by decide)).trans ((zm_u1n (by decide)).trans ((zm_u1n (by decide)).trans ((zm_u1n (by decide)).trans ((zm_u1n (by decide)).trans ((zm_u1n (by decide)).trans (zm_u1s)))))))), (zm_u1n (by decide)).trans ((zm_u1n (by decide)).trans ((zm_u1n (by decide)).trans ((zm_u1n (by decide)).trans ((zm_u1n (by decide)).trans ((zm_u1n (by decide)).trans ((zm_u1n (by decide)).trans (zm_u1s))))))), (zm_u1n (by decide)).trans ((zm_u1n (by decide)).trans ((zm_u1n (by decide)).trans ((zm_u1n (by decide)).trans ((zm_u1n (by decide)).trans ((zm_u1n (by decide)).trans (zm_u1s)))))), (zm_u1n (by decide)).trans ((zm_u1n (by decide)).trans ((zm_u1n (by decide)).trans ((zm_u1n (by decide)).trans ((zm_u1n (by decide)).trans (zm_u1s))))), (zm_u1n (by decide)).trans ((zm_u1n (by decide)).trans ((zm_u1n (by decide)).trans ((zm_u1n (by decide)).trans (zm_u1s)))), (zm_u1n (by decide)).trans ((zm_u1n (by decide)).trans ((zm_u1n (by decide)).trans (zm_u1s))), (zm_u1n (by decide)).trans ((zm_u1n (by decide)).trans (zm_u1s)), (zm_u1n (by decide)).trans (zm_u1s), zm_u1s⟩
    · intro l h1 h2
      rcases (by omega : l = 100 ∨ l = 101 ∨ l = 102 ∨ l = 103 ∨ l = 104 ∨ l = 105 ∨ l = 106 ∨ l = 107 ∨ l = 108 ∨ l = 109) with rfl | rfl | rfl | rfl | rfl | rfl | rfl | rfl | rfl | rfl
      · exact (zm_u1n (by decide)).trans ((zm_u1n (by decide)).trans ((zm_u1n (by decide)).trans ((zm_u1n (by decide)).trans ((zm_u1n (by decide)).trans ((zm_u1n (by decide)).trans ((zm_u1n (by decide)).trans ((zm_u1n (by decide)).trans ((zm_u1n (by decide)).trans (zm_u1s)))))))))
      · exact (zm_u1n (by decide)).trans ((zm_u1n (by decide)).trans ((zm_u1n (by decide)).trans ((zm_u1n (by decide)).trans ((zm_u1n (by decide)).trans ((zm_u1n (by decide)).trans ((zm_u1n (by decide)).trans ((zm_u1n (by decide)).trans (zm_u1s))))))))
      · exact (zm_u1n (by decide)).trans ((zm_u1n (by decide)).trans ((zm_u1n (by decide)).trans ((zm_u1n (by decide)).trans ((zm_u1n (by decide)).trans ((zm_u1n (by decide)).trans ((zm_u1n (by decide)).trans (zm_u1s)))))))
      · exact (zm_u1n (by decide)).trans ((zm_u1n (by decide)).trans ((zm_u1n (by decide)).trans ((zm_u1n (by decide)).trans ((zm_u1n (by decide)).trans ((zm_u1n (by decide)).trans (zm_u1s))))))
      · exact (zm_u1n (by decide)).trans ((zm_u1n (by decide)).trans ((zm_u1n (by decide)).trans ((zm_u1n (by decide)).trans ((zm_u1n (by decide)).trans (zm_u1s)))))
      · exact (zm_u1n (by decide)).trans ((zm_u1n (by decide)).trans ((zm_u1n (by decide)).trans ((zm_u1n (by decide)).trans (zm_u1s))))
      · exact (zm_u1n (by decide)).trans ((zm_u1n (by decide)).trans ((zm_u1n (by decide)).trans (zm_u1s)))
      · exact (zm_u1n (by decide)).trans ((zm_u1n (by decide)).trans (zm_u1s))
      · exact (zm_u1n (by decide)).trans (zm_u1s)
      · exact zm_u1s
    · have hl2 : (2 ≤ l ∧ l ≤ 7) ∨ 200 ≤ l := hl
      exact ⟨((zm_u1n (by omega)).trans ((zm_u1n (by omega)).trans ((zm_u1n (by omega)).trans ((zm_u1n (by omega)).trans ((zm_u1n (by omega)).trans ((zm_u1n (by omega)).trans ((zm_u1n (by omega)).trans ((zm_u1n (by omega)).trans ((zm_u1n (by omega)).trans ((zm_u1n (by omega)).trans (rfl))))))))))), ((zm_u1n (by omega)).trans ((zm_u1n (by omega)).trans ((zm_u1n (by omega)).trans ((zm_u1n (by omega)).trans ((zm_u1n (by omega)).trans ((zm_u1n (by omega)).trans ((zm_u1n (by omega)).trans ((zm_u1n (by omega)).trans ((zm_u1n (by omega)).trans ((zm_u1n (by omega)).trans (rfl))))))))))), ((zm_u1n (by omega)).trans ((zm_u1n (by omega)).trans ((zm_u1n (by omega)).trans ((zm_u1n (by omega)).trans ((zm_u1n (by omega)).trans ((zm_u1n (by omega)).trans ((zm_u1n (by omega)).trans ((zm_u1n (by omega)).trans ((zm_u1n (by omega)).trans ((zm_u1n (by omega)).trans (rfl)))))))))))⟩
  have h100 : (zm_u1 (zm_u1 (zm_u1 (zm_u1 (zm_u1 (zm_u1 (zm_u1 (zm_u1 (zm_u1 (zm_u1 s1 100 (some (1, 2))) 101 (some (1, 7))) 102 (some (1, 21))) 103 (some (1, 22))) 104 (some (1, 4))) 105 (some (1, 55))) 106 (some (1, 19))) 107 (some (1, 54))) 108 (some (1, 58))) 109 (some (1, 7))) 10 = some (9, 0) := (zm_u1n (by decide)).trans ((zm_u1n (by decide)).trans ((zm_u1n (by decide)).trans ((zm_u1n (by decide)).trans ((zm_u1n (by decide)).trans ((zm_u1n (by decide)).trans ((zm_u1n (by decide)).trans ((zm_u1n (by decide)).trans ((zm_u1n (by decide)).trans ((zm_u1n (by decide)).trans (k10))))))))))
  generalize (zm_u1 (zm_u1 (zm_u1 (zm_u1 (zm_u1 (zm_u1 (zm_u1 (zm_u1 (zm_u1 (zm_u1 s1 100 (some (1, 2))) 101 (some (1, 7))) 102 (some (1, 21))) 103 (some (1, 22))) 104 (some (1, 4))) 105 (some (1, 55))) 106 (some (1, 19))) 107 (some (1, 54))) 108 (some (1, 58))) 109 (some (1, 7))) = su at hJ0 h100 ⊢
  generalize (zm_u1 (zm_u1 (zm_u1 (zm_u1 (zm_u1 (zm_u1 (zm_u1 (zm_u1 (zm_u1 (zm_u1 i1 100 (fun _ => 0)) 101 (fun _ => 0)) 102 (fun _ => 0)) 103 (fun _ => 0)) 104 (fun _ => 0)) 105 (fun _ => 0)) 106 (fun _ => 0)) 107 (fun _ => 0)) 108 (fun _ => 0)) 109 (fun _ => 0)) = iu at hJ0 ⊢
  generalize (zm_u1 (zm_u1 (zm_u1 (zm_u1 (zm_u1 (zm_u1 (zm_u1 (zm_u1 (zm_u1 (zm_u1 m1 100 (fun _ => none)) 101 (fun _ => none)) 102 (fun _ => none)) 103 (fun _ => none)) 104 (fun _ => none)) 105 (fun _ => none)) 106 (fun _ => none)) 107 (fun _ => none)) 108 (fun _ => none)) 109 (fun _ => none)) = mu at hJ0 ⊢
  refine zz_aload_n hX dL_law_64 1 rfl rfl ?_
  refine zz_iconst (v := nI 3) hX dL_law_65 rfl ?_
  refine zz_iconst (v := nI 0) hX dL_law_66 rfl ?_
  refine zz_iconst (v := nI 0) hX dL_law_67 rfl ?_
  refine zz_iconst (v := nI 0) hX dL_law_68 rfl ?_
  refine zz_iconst (v := nI 0) hX dL_law_69 rfl ?_
  refine zz_callSH hX zf_M_L_161 (As := [.ref 2, .int (nI 3), .int (nI 0), .int (nI 0), .int (nI 0), .int (nI 0)]) (st := []) (D_voice zt_0 su iu mu zW_0 hJ0.2 (nI 0) (nI 0) (nI 0) (nI 0)) rfl rfl (by decide) (Nat.le_of_ble_eq_true rfl) (by omega) (by omega) dL_law_70 ?_ (fun _ _ _ _ h _ => h.elim)
  rintro v9 s47 i47 m47 ⟨k9, rfl, hk9, hS9⟩ -
  obtain ⟨e9, hR9⟩ := zq_d4 hk9 trivial trivial (fun h => h.1 (by decide))
  obtain rfl := e9.symm
  have hJ47 := ql_J_ask hJ0 hR9 hS9
  have h1047 := ql_10 h100 hS9
  clear hR9 hS9
  refine zz_ldc (v := -1000000) hX zw_con_L_90 dL_law_73 ?_
  refine zz_icmp_ne hX 150 dL_law_75 (by decide) (fun c => absurd c (by decide)) (fun _ => ?_)
  refine zz_aload_n hX dL_law_78 1 rfl rfl ?_
  refine zz_iconst (v := nI 4) hX dL_law_79 rfl ?_
  refine zz_iconst (v := nI 0) hX dL_law_80 rfl ?_
  refine zz_iconst (v := nI 1) hX dL_law_81 rfl ?_
  refine zz_iconst (v := nI 1) hX dL_law_82 rfl ?_
  refine zz_iconst (v := (-1)) hX dL_law_83 rfl ?_
  refine zz_callSH hX zf_M_L_161 (As := [.ref 2, .int (nI 4), .int (nI 0), .int (nI 1), .int (nI 1), .int (-1)]) (st := []) (D_shot zt_0 s47 i47 m47 zW_0 hJ47.2 (nI 0) (nI 1) (nI 1) (-1)) rfl rfl (by decide) (Nat.le_of_ble_eq_true rfl) (by omega) (by omega) dL_law_84 ?_ (fun _ _ _ _ h _ => h.elim)
  rintro v9 s48 i48 m48 ⟨k9, rfl, hk9, hS9⟩ -
  obtain ⟨e9, hR9⟩ := zq_d2 hk9 (fun h => absurd (zs_ixl (h.1) (by decide)) (by decide))
  obtain rfl := e9.symm
  have hJ48 := ql_J_ask hJ47 hR9 hS9
  have h1048 := ql_10 h1047 hS9
  clear hR9 hS9
  refine zz_ldc (v := -3000000) hX zw_con_L_84 dL_law_87 ?_
  refine zz_icmp_ne hX 150 dL_law_89 (by decide) (fun c => absurd c (by decide)) (fun _ => ?_)
  refine zz_aload_n hX dL_law_92 1 rfl rfl ?_
  refine zz_bipush (v := nI 18) hX dL_law_93 rfl ?_
  refine zz_iconst (v := nI 0) hX dL_law_95 rfl ?_
  refine zz_iconst (v := nI 0) hX dL_law_96 rfl ?_
  refine zz_iconst (v := nI 0) hX dL_law_97 rfl ?_
  refine zz_iconst (v := nI 0) hX dL_law_98 rfl ?_
  refine zz_callSH hX zf_M_L_161 (As := [.ref 2, .int (nI 18), .int (nI 0), .int (nI 0), .int (nI 0), .int (nI 0)]) (st := []) (D_bars zt_0 s48 i48 m48 zW_0 hJ48.2 (nI 0) (nI 0) (nI 0) (nI 0)) rfl rfl (by decide) (Nat.le_of_ble_eq_true rfl) (by omega) (by omega) dL_law_99 ?_ (fun _ _ _ _ h _ => h.elim)
  rintro v9 s49 i49 m49 ⟨k9, rfl, hk9, hS9⟩ -
  obtain ⟨e9, hR9⟩ := zq_d2 hk9 (fun h => absurd (zs_ixl (h) (by decide)) (by decide))
  obtain rfl := e9.symm
  have hJ49 := ql_J_ask hJ48 hR9 hS9
  have h1049 := ql_10 h1048 hS9
  clear hR9 hS9
  refine zz_ldc (v := -3000000) hX zw_con_L_84 dL_law_102 ?_
  refine zz_icmp_ne hX 150 dL_law_104 (by decide) (fun c => absurd c (by decide)) (fun _ => ?_)
  refine zz_aload_n hX dL_law_107 1 rfl rfl ?_
  refine zz_bipush (v := nI 10) hX dL_law_108 rfl ?_
  refine zz_iconst (v := (-1)) hX dL_law_110 rfl ?_
  refine zz_iconst (v := nI 0) hX dL_law_111 rfl ?_
  refine zz_iconst (v := nI 0) hX dL_law_112 rfl ?_
  refine zz_iconst (v := nI 0) hX dL_law_113 rfl ?_
  refine zz_callSH hX zf_M_L_161 (As := [.ref 2, .int (nI 10), .int (-1), .int (nI 0), .int (nI 0), .int (nI 0)]) (st := []) (D_play zt_0 s49 i49 m49 zW_0 hJ49.2 (-1) (nI 0) (nI 0) (nI 0)) rfl rfl (by decide) (Nat.le_of_ble_eq_true rfl) (by omega) (by omega) dL_law_114 ?_ (fun _ _ _ _ h _ => h.elim)
  rintro v9 s50 i50 m50 ⟨k9, rfl, hk9, hS9⟩ -
  obtain ⟨e9, hR9⟩ := zq_d3 hk9 trivial (fun h => absurd h.1 (by decide))
  obtain rfl := e9.symm
  have hJ50 := ql_J_ask hJ49 hR9 hS9
  have h1050 := ql_10 h1049 hS9
  clear hR9 hS9
  refine zz_ldc (v := -2000000) hX zw_con_L_87 dL_law_117 ?_
  refine zz_icmp_ne hX 150 dL_law_119 (by decide) (fun c => absurd c (by decide)) (fun _ => ?_)
  refine zz_aload_n hX dL_law_122 1 rfl rfl ?_
  refine zz_bipush (v := nI 6) hX dL_law_123 rfl ?_
  refine zz_iconst (v := (-1)) hX dL_law_125 rfl ?_
  refine zz_iconst (v := nI 0) hX dL_law_126 rfl ?_
  refine zz_iconst (v := nI 0) hX dL_law_127 rfl ?_
  refine zz_iconst (v := nI 0) hX dL_law_128 rfl ?_
  refine zz_callSH hX zf_M_L_161 (As := [.ref 2, .int (nI 6), .int (-1), .int (nI 0), .int (nI 0), .int (nI 0)]) (st := []) (D_ill zt_0 s50 i50 m50 zW_0 hJ50.2 (-1) (nI 0) (nI 0) 0 (by decide)) rfl rfl (by decide) (Nat.le_of_ble_eq_true rfl) (by omega) (by omega) dL_law_129 ?_ (fun _ _ _ _ h _ => h.elim)
  rintro v9 s51 i51 m51 ⟨k9, rfl, hk9, hS9⟩ -
  obtain ⟨e9, hR9⟩ := zq_d2 hk9 (fun h => absurd h.1 (by decide))
  obtain rfl := e9.symm
  have hJ51 := ql_J_ask hJ50 hR9 hS9
  have h1051 := ql_10 h1050 hS9
  clear hR9 hS9
  refine zz_ldc (v := -3000000) hX zw_con_L_84 dL_law_132 ?_
  refine zz_icmp_ne hX 150 dL_law_134 (by decide) (fun c => absurd c (by decide)) (fun _ => ?_)
  refine zz_aload_n hX dL_law_137 1 rfl rfl ?_
  refine zz_iconst (v := nI 0) hX dL_law_138 rfl ?_
  refine zz_callV hX zf_M_L_165 (As := [.int (nI 0)]) (st := []) (P_film zt_0 s51 i51 m51 zW_0 hJ51.2 (nI 0)) hJ51.2.1.1 rfl rfl rfl (by decide) (Nat.le_of_ble_eq_true rfl) (by omega) (by omega) dL_law_139 ?_ (fun e s i m h _ => (zq_no_el h (by decide) trivial trivial).elim)
  rintro v9 s52 i52 m52 ⟨-, e9, hR9, hS9⟩ -
  rw [show zp_atfilm zt_0 (nI 0) = -1 by decide] at e9
  obtain rfl := e9.symm
  have hJ52 := ql_J_ask hJ51 hR9 hS9
  have h1052 := ql_10 h1051 hS9
  clear hR9 hS9
  refine zz_iconst (v := (-1)) hX dL_law_142 rfl ?_
  refine zz_icmp_ne hX 150 dL_law_143 (by decide) (fun c => absurd c (by decide)) (fun _ => ?_)
  refine zz_iconst (v := nI 1) hX dL_law_146 rfl ?_
  refine zz_goto hX 151 dL_law_147 (by decide) ?_
  refine zz_istore (ls' := [(0, .ref 10), (1, .ref 2), (2, .ref 100), (3, .ref 101), (4, .ref 102), (5, .ref 103), (6, .ref 104), (7, .ref 105), (8, .ref 106), (9, .ref 107), (10, .ref 108), (11, .ref 109), (12, .int (nI 1))]) hX dL_law_151 (Nat.le_of_ble_eq_true rfl) rfl ?_
  refine zz_iconst (v := nI 0) hX dL_law_153 rfl ?_
  refine zz_istore (ls' := [(0, .ref 10), (1, .ref 2), (2, .ref 100), (3, .ref 101), (4, .ref 102), (5, .ref 103), (6, .ref 104), (7, .ref 105), (8, .ref 106), (9, .ref 107), (10, .ref 108), (11, .ref 109), (12, .int (nI 1)), (13, .int (nI 0))]) hX dL_law_154 (Nat.le_of_ble_eq_true rfl) rfl ?_
  exact law_loop hX hend 65 0 rfl (by decide) zt_0 _ _ _ _ _ hJ52 h1052 (by omega) (by omega)
