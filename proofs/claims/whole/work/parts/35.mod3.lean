/-! ===== the reference: what stands in the way; posing, holding ===== -/
set_option maxRecDepth 20000 in
theorem M_reason (S : zS) (sh : zm_Sh) (mi : zm_Mi) (mr : zm_Mr) (hW : zW S) (hM : zM S sh mi mr) (i : Nat) (hi : i < zv_ns S) : zz_Con yX6_reason (.code yX6_reason cX6_reason 5 (some Jvm.ClassFile.FieldType.int)) 3 0 0 [.ref 1, .int (nI i)] sh mi mr (zz_q (some (.int (nI (zp_bar S i)))) sh mi mr) zz_none := by
  refine zz_begin RX6 [(0, .ref 1), (1, .int (nI i))] (by decide) rfl rfl (Nat.le_of_ble_eq_true rfl) rfl ?_
  intro Γ D E ad hX hr hN hT
  obtain ⟨hWp, hWv, hWs, hWk, hWr, hWf⟩ := id hW
  obtain ⟨p0, p1, p2, p3, p4, p5⟩ := hWp
  obtain ⟨v0, v1, v2, v3, v4⟩ := hWv
  obtain ⟨s0, s1, s2, s3⟩ := hWs
  obtain ⟨f0, f1, f2, f3⟩ := hWf
  obtain ⟨b1, b2, b3, b4, b5, b6, b7, b8, b9, b10, b11, b12, b13⟩ := s2 i hi
  refine zz_aload_n hX dX6_reason_0 0 rfl rfl ?_
  refine zz_iload_n hX dX6_reason_1 1 rfl rfl ?_
  refine zz_vI (x := zz_bi (zv_fr S i ≤ zv_sk S i)) hX zf_M_X6_117 (As := [.int (nI i)]) (st := []) (M_isDone S sh mi mr hW hM i hi) hM.1 rfl rfl rfl (by decide) (Nat.le_of_ble_eq_true rfl) (Nat.le_of_ble_eq_true rfl) (Nat.le_of_ble_eq_true rfl) dX6_reason_2 ?_
  refine zz_if_eqB hX 11 dX6_reason_5 (by decide) (fun c5 => ?_) (fun c5 => ?_)
  · skip
    refine zz_aload_n hX dX6_reason_11 0 rfl rfl ?_
    refine zz_getR (y := 114) hX zf_F_X6_43.r hM.1 rfl (zM_r14 hM).1 dX6_reason_12 ?_
    refine zz_iload_n hX dX6_reason_15 1 rfl rfl ?_
    refine zz_iald (x := S 14 i) hX (zM_r14 hM).2 i rfl (by omega) (by decide) ((zM_v14 hM (k := i) (by omega))) dX6_reason_16 ?_
    refine zz_iconst (v := (-1)) hX dX6_reason_17 rfl ?_
    refine zz_icmp_eq hX 35 dX6_reason_18 (by decide) (fun c18 => ?_) (fun c18 => ?_)
    · skip
      refine zz_aload_n hX dX6_reason_35 0 rfl rfl ?_
      refine zz_getR (y := 114) hX zf_F_X6_43.r hM.1 rfl (zM_r14 hM).1 dX6_reason_36 ?_
      refine zz_iload_n hX dX6_reason_39 1 rfl rfl ?_
      refine zz_iald (x := S 14 i) hX (zM_r14 hM).2 i rfl (by omega) (by decide) ((zM_v14 hM (k := i) (by omega))) dX6_reason_40 ?_
      refine zz_iconst (v := (-1)) hX dX6_reason_41 rfl ?_
      refine zz_icmp_ne hX 49 dX6_reason_42 (by decide) (fun c42 => absurd c18 c42) (fun c42 => ?_)
      refine zz_iconst (v := nI 1) hX dX6_reason_45 rfl ?_
      refine zz_goto hX 50 dX6_reason_46 (by decide) ?_
      refine zz_iret hX hr rfl (Nat.le_of_ble_eq_true rfl) (Nat.le_of_ble_eq_true rfl) dX6_reason_50 ?_
      exact ⟨by rw [show zp_bar S i = _ from (if_neg c5).trans (if_pos c18)], rfl, rfl, rfl⟩
    · skip
      have hm9 := zs_ix_zn (b10.resolve_left c18) (by omega)
      refine zz_aload_n hX dX6_reason_21 0 rfl rfl ?_
      refine zz_getR (y := 117) hX zf_F_X6_52.r hM.1 rfl (zM_r17 hM).1 dX6_reason_22 ?_
      refine zz_aload_n hX dX6_reason_25 0 rfl rfl ?_
      refine zz_getR (y := 114) hX zf_F_X6_43.r hM.1 rfl (zM_r14 hM).1 dX6_reason_26 ?_
      refine zz_iload_n hX dX6_reason_29 1 rfl rfl ?_
      refine zz_iald (x := S 14 i) hX (zM_r14 hM).2 i rfl (by omega) (by decide) ((zM_v14 hM (k := i) (by omega))) dX6_reason_30 ?_
      refine zz_bald (x := S 17 (zn (S 14 i))) hX (zM_r17 hM).2 (zn (S 14 i)) hm9.2 (by omega) (by decide) ((zM_v17 hM (k := zn (S 14 i)) (by omega))) dX6_reason_31 ?_
      refine zz_if_eq hX 51 dX6_reason_32 (by decide) (fun c32 => ?_) (fun c32 => ?_)
      · skip
        refine zz_iconst (v := nI 0) hX dX6_reason_51 rfl ?_
        refine zz_istore_n (ls' := [(0, .ref 1), (1, .int (nI i)), (2, .int (nI 0))]) hX dX6_reason_52 rfl (Nat.le_of_ble_eq_true rfl) rfl ?_
        refine zz_iconst (v := nI 0) hX dX6_reason_53 rfl ?_
        refine zz_istore_n (ls' := [(0, .ref 1), (1, .int (nI i)), (2, .int (nI 0)), (3, .int (nI 0))]) hX dX6_reason_54 rfl (Nat.le_of_ble_eq_true rfl) rfl ?_
        refine zz_iconst (v := nI 0) hX dX6_reason_55 rfl ?_
        refine zz_istore (ls' := [(0, .ref 1), (1, .int (nI i)), (2, .int (nI 0)), (3, .int (nI 0)), (4, .int (nI 0))]) hX dX6_reason_56 (Nat.le_of_ble_eq_true rfl) rfl ?_
        refine zz_lcl (ls' := [(0, .ref 1), (1, .int (nI i)), (2, .int (zz_bi (zs_any (fun q => ¬ q = i ∧ zp_on S q ∧ S 14 q = S 14 i) 0 = true))), (3, .int (zz_bi (zs_any (fun q => ¬ q = i ∧ zp_on S q ∧ zv_pu S q = zv_pu S i) 0 = true))), (4, .int (nI 0))]) rfl ?_
        have L58 : ∀ (k58 : Nat) (k : Nat), zv_ns S - k < k58 → (k ≤ zv_ns S) → zz Γ (D, E, 5, ad, sh) (zz_End Γ (D, E, 5, ad, sh) (zz_q (some (.int (nI (zp_bar S i)))) sh mi mr) zz_none 0 0) 0 0 sh mi mr 58 [(0, .ref 1), (1, .int (nI i)), (2, .int (zz_bi (zs_any (fun q => ¬ q = i ∧ zp_on S q ∧ S 14 q = S 14 i) k = true))), (3, .int (zz_bi (zs_any (fun q => ¬ q = i ∧ zp_on S q ∧ zv_pu S q = zv_pu S i) k = true))), (4, .int (nI k))] [] := by
          intro k58
          induction k58 with
          | zero => intro k hk58; exact absurd hk58 (Nat.not_lt_zero _)
          | succ k58 ih58 =>
            intro k hk58 hk9
            refine zz_iload hX dX6_reason_58 4 rfl ?_
            refine zz_aload_n hX dX6_reason_60 0 rfl rfl ?_
            refine zz_getI (x := nI (zv_ns S)) hX zf_F_X6_102.r hM.1 rfl (((zM_c9 hM).trans s0)) dX6_reason_61 ?_
            refine zz_icmp_geN hX (by omega) (by omega) 155 dX6_reason_64 (by decide) (fun c64 => ?_) (fun c64 => ?_)
            · skip
              have ek : k = zv_ns S := by omega
              refine zz_lcl (ls' := [(0, .ref 1), (1, .int (nI i)), (2, .int (zz_bi (zp_busy S i))), (3, .int (zz_bi (zp_puse S i))), (4, .int (nI k))]) (by rw [ek]) ?_
              refine zz_iload_n hX dX6_reason_155 2 rfl rfl ?_
              refine zz_if_neB hX 163 dX6_reason_156 (by decide) (fun c156 => ?_) (fun c156 => ?_)
              · skip
                refine zz_iload_n hX dX6_reason_163 2 rfl rfl ?_
                refine zz_if_eqB hX 171 dX6_reason_164 (by decide) (fun c164 => absurd c156 c164) (fun c164 => ?_)
                refine zz_iconst (v := nI 3) hX dX6_reason_167 rfl ?_
                refine zz_goto hX 172 dX6_reason_168 (by decide) ?_
                refine zz_iret hX hr rfl (Nat.le_of_ble_eq_true rfl) (Nat.le_of_ble_eq_true rfl) dX6_reason_172 ?_
                exact ⟨by rw [show zp_bar S i = _ from (if_neg c5).trans ((if_neg c18).trans ((if_neg (fun h => h c32)).trans (if_pos c156)))], rfl, rfl, rfl⟩
              · skip
                refine zz_iload_n hX dX6_reason_159 3 rfl rfl ?_
                refine zz_if_eqB hX 173 dX6_reason_160 (by decide) (fun c160 => ?_) (fun c160 => ?_)
                · skip
                  refine zz_aload_n hX dX6_reason_173 0 rfl rfl ?_
                  refine zz_iload_n hX dX6_reason_174 1 rfl rfl ?_
                  refine zz_aload_n hX dX6_reason_175 0 rfl rfl ?_
                  refine zz_getR (y := 115) hX zf_F_X6_46.r hM.1 rfl (zM_r15 hM).1 dX6_reason_176 ?_
                  refine zz_iload_n hX dX6_reason_179 1 rfl rfl ?_
                  refine zz_iald (x := nI (zv_sk S i)) hX (zM_r15 hM).2 i rfl (by omega) (by decide) (((zM_v15 hM (k := i) (by omega)).trans (s2 i hi).2.2.2.2.2.2.2.2.2.2.1)) dX6_reason_180 ?_
                  refine zz_vI (x := zz_bi (zp_held S i (zv_sk S i))) hX zf_M_X6_123 (As := [.int (nI i), .int (nI (zv_sk S i))]) (st := []) (M_isHeld S sh mi mr hW hM i hi (zv_sk S i) (by omega)) hM.1 rfl rfl rfl (by decide) (Nat.le_of_ble_eq_true rfl) (Nat.le_of_ble_eq_true rfl) (Nat.le_of_ble_eq_true rfl) dX6_reason_181 ?_
                  refine zz_if_eqB hX 189 dX6_reason_184 (by decide) (fun c184 => ?_) (fun c184 => ?_)
                  · skip
                    refine zz_aload_n hX dX6_reason_189 0 rfl rfl ?_
                    refine zz_iload_n hX dX6_reason_190 1 rfl rfl ?_
                    refine zz_vI (x := zp_wnt S i) hX zf_M_X6_163 (As := [.int (nI i)]) (st := []) (M_wanted S sh mi mr hW hM i hi (by omega)) hM.1 rfl rfl rfl (by decide) (Nat.le_of_ble_eq_true rfl) (Nat.le_of_ble_eq_true rfl) (Nat.le_of_ble_eq_true rfl) dX6_reason_191 ?_
                    refine zz_istore (ls' := [(0, .ref 1), (1, .int (nI i)), (2, .int (zz_bi (zp_busy S i))), (3, .int (zz_bi (zp_puse S i))), (4, .int (zp_wnt S i))]) hX dX6_reason_194 (Nat.le_of_ble_eq_true rfl) rfl ?_
                    refine zz_lcl (ls' := [(0, .ref 1), (1, .int (nI i)), (2, .int (zz_bi (zp_busy S i))), (3, .int (zz_bi (zp_puse S i))), (4, .int (zp_want S i (zv_sk S i)))]) (by rw [show zp_wnt S i = zp_want S i (zv_sk S i) from if_neg c184]) ?_
                    refine zz_aload_n hX dX6_reason_196 0 rfl rfl ?_
                    refine zz_aload_n hX dX6_reason_197 0 rfl rfl ?_
                    refine zz_getR (y := 110) hX zf_F_X6_31.r hM.1 rfl (zM_r10 hM).1 dX6_reason_198 ?_
                    refine zz_iload_n hX dX6_reason_201 1 rfl rfl ?_
                    refine zz_iald (x := nI (zv_pu S i)) hX (zM_r10 hM).2 i rfl (by omega) (by decide) (((zM_v10 hM (k := i) (by omega)).trans (s2 i hi).1)) dX6_reason_202 ?_
                    refine zz_vI (x := zz_bi (zp_brk S (zv_pu S i))) hX zf_M_X6_167 (As := [.int (nI (zv_pu S i))]) (st := []) (M_isBroken S sh mi mr hW hM (zv_pu S i) b2) hM.1 rfl rfl rfl (by decide) (Nat.le_of_ble_eq_true rfl) (Nat.le_of_ble_eq_true rfl) (Nat.le_of_ble_eq_true rfl) dX6_reason_203 ?_
                    refine zz_if_eqB hX 213 dX6_reason_206 (by decide) (fun c206 => ?_) (fun c206 => ?_)
                    · skip
                      refine zz_iload hX dX6_reason_213 4 rfl ?_
                      refine zz_iconst (v := (-1)) hX dX6_reason_215 rfl ?_
                      refine zz_icmp_eq hX 244 dX6_reason_216 (by decide) (fun c216 => ?_) (fun c216 => ?_)
                      · skip
                        refine zz_iconst (v := nI 0) hX dX6_reason_244 rfl ?_
                        refine zz_iret hX hr rfl (Nat.le_of_ble_eq_true rfl) (Nat.le_of_ble_eq_true rfl) dX6_reason_245 ?_
                        have e9 : zp_bar S i = zp_pbar S i := (if_neg c5).trans ((if_neg c18).trans ((if_neg (fun h => h c32)).trans ((if_neg c156).trans ((if_neg c160).trans (if_neg c184)))))
                        exact ⟨by rw [e9, show zp_pbar S i = _ from (if_neg c206).trans (if_pos c216)], rfl, rfl, rfl⟩
                      · skip
                        have hm8 := zs_ix_zn ((zp_want_in hW hi (zv_sk S i)).resolve_left c216) (by omega)
                        refine zz_aload_n hX dX6_reason_219 0 rfl rfl ?_
                        refine zz_getR (y := 104) hX zf_F_X6_19.r hM.1 rfl (zM_r4 hM).1 dX6_reason_220 ?_
                        refine zz_bipush (v := nI 10) hX dX6_reason_223 rfl ?_
                        refine zz_aload_n hX dX6_reason_225 0 rfl rfl ?_
                        refine zz_getR (y := 110) hX zf_F_X6_31.r hM.1 rfl (zM_r10 hM).1 dX6_reason_226 ?_
                        refine zz_iload_n hX dX6_reason_229 1 rfl rfl ?_
                        refine zz_iald (x := nI (zv_pu S i)) hX (zM_r10 hM).2 i rfl (by omega) (by decide) (((zM_v10 hM (k := i) (by omega)).trans (s2 i hi).1)) dX6_reason_230 ?_
                        refine zz_imul (z := nI (10 * (zv_pu S i))) hX dX6_reason_231 (pk_mul _ _) ?_
                        refine zz_iload hX dX6_reason_232 4 rfl ?_
                        refine zz_iadd (z := (nI (10 * (zv_pu S i))) + (zp_want S i (zv_sk S i))) hX dX6_reason_234 rfl ?_
                        refine zz_iald (x := S 4 (10 * zv_pu S i + zn (zp_want S i (zv_sk S i)))) hX (zM_r4 hM).2 (10 * zv_pu S i + zn (zp_want S i (zv_sk S i))) ((congrArg (fun z => nI (10 * zv_pu S i) + z) hm8.2).trans (nI_add _ _)) (by omega) (by decide) ((zM_v4 hM (k := 10 * zv_pu S i + zn (zp_want S i (zv_sk S i))) (by omega))) dX6_reason_235 ?_
                        refine zz_if_ne hX 244 dX6_reason_236 (by decide) (fun c236 => ?_) (fun c236 => ?_)
                        · skip
                          refine zz_iconst (v := nI 0) hX dX6_reason_244 rfl ?_
                          refine zz_iret hX hr rfl (Nat.le_of_ble_eq_true rfl) (Nat.le_of_ble_eq_true rfl) dX6_reason_245 ?_
                          have e9 : zp_bar S i = zp_pbar S i := (if_neg c5).trans ((if_neg c18).trans ((if_neg (fun h => h c32)).trans ((if_neg c156).trans ((if_neg c160).trans (if_neg c184)))))
                          exact ⟨by rw [e9, show zp_pbar S i = _ from (if_neg c206).trans ((if_neg c216).trans (if_neg c236))], rfl, rfl, rfl⟩
                        · skip
                          refine zz_bipush (v := nI 6) hX dX6_reason_239 rfl ?_
                          refine zz_goto hX 245 dX6_reason_241 (by decide) ?_
                          refine zz_iret hX hr rfl (Nat.le_of_ble_eq_true rfl) (Nat.le_of_ble_eq_true rfl) dX6_reason_245 ?_
                          have e9 : zp_bar S i = zp_pbar S i := (if_neg c5).trans ((if_neg c18).trans ((if_neg (fun h => h c32)).trans ((if_neg c156).trans ((if_neg c160).trans (if_neg c184)))))
                          exact ⟨by rw [e9, show zp_pbar S i = _ from (if_neg c206).trans ((if_neg c216).trans (if_pos c236))], rfl, rfl, rfl⟩
                    · skip
                      refine zz_iconst (v := nI 5) hX dX6_reason_209 rfl ?_
                      refine zz_goto hX 245 dX6_reason_210 (by decide) ?_
                      refine zz_iret hX hr rfl (Nat.le_of_ble_eq_true rfl) (Nat.le_of_ble_eq_true rfl) dX6_reason_245 ?_
                      have e9 : zp_bar S i = zp_pbar S i := (if_neg c5).trans ((if_neg c18).trans ((if_neg (fun h => h c32)).trans ((if_neg c156).trans ((if_neg c160).trans (if_neg c184)))))
                      exact ⟨by rw [e9, show zp_pbar S i = _ from if_pos c206], rfl, rfl, rfl⟩
                  · skip
                    refine zz_iconst (v := nI 0) hX dX6_reason_187 rfl ?_
                    refine zz_iret hX hr rfl (Nat.le_of_ble_eq_true rfl) (Nat.le_of_ble_eq_true rfl) dX6_reason_188 ?_
                    exact ⟨by rw [show zp_bar S i = _ from (if_neg c5).trans ((if_neg c18).trans ((if_neg (fun h => h c32)).trans ((if_neg c156).trans ((if_neg c160).trans (if_pos c184)))))], rfl, rfl, rfl⟩
                · skip
                  refine zz_iload_n hX dX6_reason_163 2 rfl rfl ?_
                  refine zz_if_eqB hX 171 dX6_reason_164 (by decide) (fun c164 => ?_) (fun c164 => absurd c164 c156)
                  refine zz_iconst (v := nI 4) hX dX6_reason_171 rfl ?_
                  refine zz_iret hX hr rfl (Nat.le_of_ble_eq_true rfl) (Nat.le_of_ble_eq_true rfl) dX6_reason_172 ?_
                  exact ⟨by rw [show zp_bar S i = _ from (if_neg c5).trans ((if_neg c18).trans ((if_neg (fun h => h c32)).trans ((if_neg c156).trans (if_pos c160))))], rfl, rfl, rfl⟩
            · skip
              have pk9 := (s2 k c64).2.1
              refine zz_iload_n hX dX6_reason_67 2 rfl rfl ?_
              refine zz_if_neB hX 102 dX6_reason_68 (by decide) (fun c68 => ?_) (fun c68 => ?_)
              · skip
                refine zz_iconst (v := nI 1) hX dX6_reason_102 rfl ?_
                refine zz_goto hX 107 dX6_reason_103 (by decide) ?_
                refine zz_istore_n (ls' := [(0, .ref 1), (1, .int (nI i)), (2, .int (nI 1)), (3, .int (zz_bi (zs_any (fun q => ¬ q = i ∧ zp_on S q ∧ zv_pu S q = zv_pu S i) k = true))), (4, .int (nI k))]) hX dX6_reason_107 rfl (Nat.le_of_ble_eq_true rfl) rfl ?_
                refine zz_iload_n hX dX6_reason_108 3 rfl rfl ?_
                refine zz_if_neB hX 143 dX6_reason_109 (by decide) (fun c109 => ?_) (fun c109 => ?_)
                · skip
                  refine zz_iconst (v := nI 1) hX dX6_reason_143 rfl ?_
                  refine zz_goto hX 148 dX6_reason_144 (by decide) ?_
                  refine zz_istore_n (ls' := [(0, .ref 1), (1, .int (nI i)), (2, .int (nI 1)), (3, .int (nI 1)), (4, .int (nI k))]) hX dX6_reason_148 rfl (Nat.le_of_ble_eq_true rfl) rfl ?_
                  refine zz_iinc (v := nI (k + 1)) (ls' := [(0, .ref 1), (1, .int (nI i)), (2, .int (nI 1)), (3, .int (nI 1)), (4, .int (nI (k + 1)))]) hX dX6_reason_149 4 rfl (nI_1 _) (Nat.le_of_ble_eq_true rfl) rfl ?_
                  refine zz_goto hX 58 dX6_reason_152 (by decide) ?_
                  have g1 : zz_bi (zs_any (fun q => ¬ q = i ∧ zp_on S q ∧ S 14 q = S 14 i) (k + 1) = true) = 1 := zz_bi_t ((zs_any_s (p := (fun q => ¬ q = i ∧ zp_on S q ∧ S 14 q = S 14 i)) k).mpr (Or.inl c68))
                  have g2 : zz_bi (zs_any (fun q => ¬ q = i ∧ zp_on S q ∧ zv_pu S q = zv_pu S i) (k + 1) = true) = 1 := zz_bi_t ((zs_any_s (p := (fun q => ¬ q = i ∧ zp_on S q ∧ zv_pu S q = zv_pu S i)) k).mpr (Or.inl c109))
                  refine zz_lcl (ls' := [(0, .ref 1), (1, .int (nI i)), (2, .int (zz_bi (zs_any (fun q => ¬ q = i ∧ zp_on S q ∧ S 14 q = S 14 i) (k + 1) = true))), (3, .int (zz_bi (zs_any (fun q => ¬ q = i ∧ zp_on S q ∧ zv_pu S q = zv_pu S i) (k + 1) = true))), (4, .int (nI (k + 1)))]) (by rw [g1, g2]; try rfl) ?_
                  exact ih58 (k + 1) (by omega) (by omega)
                · skip
                  refine zz_iload hX dX6_reason_112 4 rfl ?_
                  refine zz_iload_n hX dX6_reason_114 1 rfl rfl ?_
                  refine zz_icmp_eqN hX (by omega) (by omega) 147 dX6_reason_115 (by decide) (fun c115 => ?_) (fun c115 => ?_)
                  · skip
                    refine zz_iconst (v := nI 0) hX dX6_reason_147 rfl ?_
                    refine zz_istore_n (ls' := [(0, .ref 1), (1, .int (nI i)), (2, .int (nI 1)), (3, .int (nI 0)), (4, .int (nI k))]) hX dX6_reason_148 rfl (Nat.le_of_ble_eq_true rfl) rfl ?_
                    refine zz_iinc (v := nI (k + 1)) (ls' := [(0, .ref 1), (1, .int (nI i)), (2, .int (nI 1)), (3, .int (nI 0)), (4, .int (nI (k + 1)))]) hX dX6_reason_149 4 rfl (nI_1 _) (Nat.le_of_ble_eq_true rfl) rfl ?_
                    refine zz_goto hX 58 dX6_reason_152 (by decide) ?_
                    have g1 : zz_bi (zs_any (fun q => ¬ q = i ∧ zp_on S q ∧ S 14 q = S 14 i) (k + 1) = true) = 1 := zz_bi_t ((zs_any_s (p := (fun q => ¬ q = i ∧ zp_on S q ∧ S 14 q = S 14 i)) k).mpr (Or.inl c68))
                    have g2 : zz_bi (zs_any (fun q => ¬ q = i ∧ zp_on S q ∧ zv_pu S q = zv_pu S i) (k + 1) = true) = 0 := zz_bi_f (fun hh => (fun h => h.elim c109 (fun h2 => h2.1 (by omega))) ((zs_any_s (p := (fun q => ¬ q = i ∧ zp_on S q ∧ zv_pu S q = zv_pu S i)) k).mp hh))
                    refine zz_lcl (ls' := [(0, .ref 1), (1, .int (nI i)), (2, .int (zz_bi (zs_any (fun q => ¬ q = i ∧ zp_on S q ∧ S 14 q = S 14 i) (k + 1) = true))), (3, .int (zz_bi (zs_any (fun q => ¬ q = i ∧ zp_on S q ∧ zv_pu S q = zv_pu S i) (k + 1) = true))), (4, .int (nI (k + 1)))]) (by rw [g1, g2]; try rfl) ?_
                    exact ih58 (k + 1) (by omega) (by omega)
                  · skip
                    refine zz_aload_n hX dX6_reason_118 0 rfl rfl ?_
                    refine zz_iload hX dX6_reason_119 4 rfl ?_
                    refine zz_vI (x := zz_bi (zp_on S k)) hX zf_M_X6_160 (As := [.int (nI k)]) (st := []) (M_isOn S sh mi mr hW hM k c64) hM.1 rfl rfl rfl (by decide) (Nat.le_of_ble_eq_true rfl) (Nat.le_of_ble_eq_true rfl) (Nat.le_of_ble_eq_true rfl) dX6_reason_121 ?_
                    refine zz_if_eqB hX 147 dX6_reason_124 (by decide) (fun c124 => ?_) (fun c124 => ?_)
                    · skip
                      refine zz_iconst (v := nI 0) hX dX6_reason_147 rfl ?_
                      refine zz_istore_n (ls' := [(0, .ref 1), (1, .int (nI i)), (2, .int (nI 1)), (3, .int (nI 0)), (4, .int (nI k))]) hX dX6_reason_148 rfl (Nat.le_of_ble_eq_true rfl) rfl ?_
                      refine zz_iinc (v := nI (k + 1)) (ls' := [(0, .ref 1), (1, .int (nI i)), (2, .int (nI 1)), (3, .int (nI 0)), (4, .int (nI (k + 1)))]) hX dX6_reason_149 4 rfl (nI_1 _) (Nat.le_of_ble_eq_true rfl) rfl ?_
                      refine zz_goto hX 58 dX6_reason_152 (by decide) ?_
                      have g1 : zz_bi (zs_any (fun q => ¬ q = i ∧ zp_on S q ∧ S 14 q = S 14 i) (k + 1) = true) = 1 := zz_bi_t ((zs_any_s (p := (fun q => ¬ q = i ∧ zp_on S q ∧ S 14 q = S 14 i)) k).mpr (Or.inl c68))
                      have g2 : zz_bi (zs_any (fun q => ¬ q = i ∧ zp_on S q ∧ zv_pu S q = zv_pu S i) (k + 1) = true) = 0 := zz_bi_f (fun hh => (fun h => h.elim c109 (fun h2 => c124 h2.2.1)) ((zs_any_s (p := (fun q => ¬ q = i ∧ zp_on S q ∧ zv_pu S q = zv_pu S i)) k).mp hh))
                      refine zz_lcl (ls' := [(0, .ref 1), (1, .int (nI i)), (2, .int (zz_bi (zs_any (fun q => ¬ q = i ∧ zp_on S q ∧ S 14 q = S 14 i) (k + 1) = true))), (3, .int (zz_bi (zs_any (fun q => ¬ q = i ∧ zp_on S q ∧ zv_pu S q = zv_pu S i) (k + 1) = true))), (4, .int (nI (k + 1)))]) (by rw [g1, g2]; try rfl) ?_
                      exact ih58 (k + 1) (by omega) (by omega)
                    · skip
                      refine zz_aload_n hX dX6_reason_127 0 rfl rfl ?_
                      refine zz_getR (y := 110) hX zf_F_X6_31.r hM.1 rfl (zM_r10 hM).1 dX6_reason_128 ?_
                      refine zz_iload hX dX6_reason_131 4 rfl ?_
                      refine zz_iald (x := nI (zv_pu S k)) hX (zM_r10 hM).2 k rfl (by omega) (by decide) (((zM_v10 hM (k := k) (by omega)).trans (s2 k c64).1)) dX6_reason_133 ?_
                      refine zz_aload_n hX dX6_reason_134 0 rfl rfl ?_
                      refine zz_getR (y := 110) hX zf_F_X6_31.r hM.1 rfl (zM_r10 hM).1 dX6_reason_135 ?_
                      refine zz_iload_n hX dX6_reason_138 1 rfl rfl ?_
                      refine zz_iald (x := nI (zv_pu S i)) hX (zM_r10 hM).2 i rfl (by omega) (by decide) (((zM_v10 hM (k := i) (by omega)).trans (s2 i hi).1)) dX6_reason_139 ?_
                      refine zz_icmp_neN hX (by omega) (by omega) 147 dX6_reason_140 (by decide) (fun c140 => ?_) (fun c140 => ?_)
                      · skip
                        refine zz_iconst (v := nI 0) hX dX6_reason_147 rfl ?_
                        refine zz_istore_n (ls' := [(0, .ref 1), (1, .int (nI i)), (2, .int (nI 1)), (3, .int (nI 0)), (4, .int (nI k))]) hX dX6_reason_148 rfl (Nat.le_of_ble_eq_true rfl) rfl ?_
                        refine zz_iinc (v := nI (k + 1)) (ls' := [(0, .ref 1), (1, .int (nI i)), (2, .int (nI 1)), (3, .int (nI 0)), (4, .int (nI (k + 1)))]) hX dX6_reason_149 4 rfl (nI_1 _) (Nat.le_of_ble_eq_true rfl) rfl ?_
                        refine zz_goto hX 58 dX6_reason_152 (by decide) ?_
                        have g1 : zz_bi (zs_any (fun q => ¬ q = i ∧ zp_on S q ∧ S 14 q = S 14 i) (k + 1) = true) = 1 := zz_bi_t ((zs_any_s (p := (fun q => ¬ q = i ∧ zp_on S q ∧ S 14 q = S 14 i)) k).mpr (Or.inl c68))
                        have g2 : zz_bi (zs_any (fun q => ¬ q = i ∧ zp_on S q ∧ zv_pu S q = zv_pu S i) (k + 1) = true) = 0 := zz_bi_f (fun hh => (fun h => h.elim c109 (fun h2 => c140 h2.2.2)) ((zs_any_s (p := (fun q => ¬ q = i ∧ zp_on S q ∧ zv_pu S q = zv_pu S i)) k).mp hh))
                        refine zz_lcl (ls' := [(0, .ref 1), (1, .int (nI i)), (2, .int (zz_bi (zs_any (fun q => ¬ q = i ∧ zp_on S q ∧ S 14 q = S 14 i) (k + 1) = true))), (3, .int (zz_bi (zs_any (fun q => ¬ q = i ∧ zp_on S q ∧ zv_pu S q = zv_pu S i) (k + 1) = true))), (4, .int (nI (k + 1)))]) (by rw [g1, g2]; try rfl) ?_
                        exact ih58 (k + 1) (by omega) (by omega)
                      · skip
                        refine zz_iconst (v := nI 1) hX dX6_reason_143 rfl ?_
                        refine zz_goto hX 148 dX6_reason_144 (by decide) ?_
                        refine zz_istore_n (ls' := [(0, .ref 1), (1, .int (nI i)), (2, .int (nI 1)), (3, .int (nI 1)), (4, .int (nI k))]) hX dX6_reason_148 rfl (Nat.le_of_ble_eq_true rfl) rfl ?_
                        refine zz_iinc (v := nI (k + 1)) (ls' := [(0, .ref 1), (1, .int (nI i)), (2, .int (nI 1)), (3, .int (nI 1)), (4, .int (nI (k + 1)))]) hX dX6_reason_149 4 rfl (nI_1 _) (Nat.le_of_ble_eq_true rfl) rfl ?_
                        refine zz_goto hX 58 dX6_reason_152 (by decide) ?_
                        have g1 : zz_bi (zs_any (fun q => ¬ q = i ∧ zp_on S q ∧ S 14 q = S 14 i) (k + 1) = true) = 1 := zz_bi_t ((zs_any_s (p := (fun q => ¬ q = i ∧ zp_on S q ∧ S 14 q = S 14 i)) k).mpr (Or.inl c68))
                        have g2 : zz_bi (zs_any (fun q => ¬ q = i ∧ zp_on S q ∧ zv_pu S q = zv_pu S i) (k + 1) = true) = 1 := zz_bi_t ((zs_any_s (p := (fun q => ¬ q = i ∧ zp_on S q ∧ zv_pu S q = zv_pu S i)) k).mpr (Or.inr ⟨by omega, c124, c140⟩))
                        refine zz_lcl (ls' := [(0, .ref 1), (1, .int (nI i)), (2, .int (zz_bi (zs_any (fun q => ¬ q = i ∧ zp_on S q ∧ S 14 q = S 14 i) (k + 1) = true))), (3, .int (zz_bi (zs_any (fun q => ¬ q = i ∧ zp_on S q ∧ zv_pu S q = zv_pu S i) (k + 1) = true))), (4, .int (nI (k + 1)))]) (by rw [g1, g2]; try rfl) ?_
                        exact ih58 (k + 1) (by omega) (by omega)
              · skip
                refine zz_iload hX dX6_reason_71 4 rfl ?_
                refine zz_iload_n hX dX6_reason_73 1 rfl rfl ?_
                refine zz_icmp_eqN hX (by omega) (by omega) 106 dX6_reason_74 (by decide) (fun c74 => ?_) (fun c74 => ?_)
                · skip
                  refine zz_iconst (v := nI 0) hX dX6_reason_106 rfl ?_
                  refine zz_istore_n (ls' := [(0, .ref 1), (1, .int (nI i)), (2, .int (nI 0)), (3, .int (zz_bi (zs_any (fun q => ¬ q = i ∧ zp_on S q ∧ zv_pu S q = zv_pu S i) k = true))), (4, .int (nI k))]) hX dX6_reason_107 rfl (Nat.le_of_ble_eq_true rfl) rfl ?_
                  refine zz_iload_n hX dX6_reason_108 3 rfl rfl ?_
                  refine zz_if_neB hX 143 dX6_reason_109 (by decide) (fun c109 => ?_) (fun c109 => ?_)
                  · skip
                    refine zz_iconst (v := nI 1) hX dX6_reason_143 rfl ?_
                    refine zz_goto hX 148 dX6_reason_144 (by decide) ?_
                    refine zz_istore_n (ls' := [(0, .ref 1), (1, .int (nI i)), (2, .int (nI 0)), (3, .int (nI 1)), (4, .int (nI k))]) hX dX6_reason_148 rfl (Nat.le_of_ble_eq_true rfl) rfl ?_
                    refine zz_iinc (v := nI (k + 1)) (ls' := [(0, .ref 1), (1, .int (nI i)), (2, .int (nI 0)), (3, .int (nI 1)), (4, .int (nI (k + 1)))]) hX dX6_reason_149 4 rfl (nI_1 _) (Nat.le_of_ble_eq_true rfl) rfl ?_
                    refine zz_goto hX 58 dX6_reason_152 (by decide) ?_
                    have g1 : zz_bi (zs_any (fun q => ¬ q = i ∧ zp_on S q ∧ S 14 q = S 14 i) (k + 1) = true) = 0 := zz_bi_f (fun hh => (fun h => h.elim c68 (fun h2 => h2.1 (by omega))) ((zs_any_s (p := (fun q => ¬ q = i ∧ zp_on S q ∧ S 14 q = S 14 i)) k).mp hh))
                    have g2 : zz_bi (zs_any (fun q => ¬ q = i ∧ zp_on S q ∧ zv_pu S q = zv_pu S i) (k + 1) = true) = 1 := zz_bi_t ((zs_any_s (p := (fun q => ¬ q = i ∧ zp_on S q ∧ zv_pu S q = zv_pu S i)) k).mpr (Or.inl c109))
                    refine zz_lcl (ls' := [(0, .ref 1), (1, .int (nI i)), (2, .int (zz_bi (zs_any (fun q => ¬ q = i ∧ zp_on S q ∧ S 14 q = S 14 i) (k + 1) = true))), (3, .int (zz_bi (zs_any (fun q => ¬ q = i ∧ zp_on S q ∧ zv_pu S q = zv_pu S i) (k + 1) = true))), (4, .int (nI (k + 1)))]) (by rw [g1, g2]; try rfl) ?_
                    exact ih58 (k + 1) (by omega) (by omega)
                  · skip
                    refine zz_iload hX dX6_reason_112 4 rfl ?_
                    refine zz_iload_n hX dX6_reason_114 1 rfl rfl ?_
                    refine zz_icmp_eqN hX (by omega) (by omega) 147 dX6_reason_115 (by decide) (fun c115 => ?_) (fun c115 => ?_)
                    · skip
                      refine zz_iconst (v := nI 0) hX dX6_reason_147 rfl ?_
                      refine zz_istore_n (ls' := [(0, .ref 1), (1, .int (nI i)), (2, .int (nI 0)), (3, .int (nI 0)), (4, .int (nI k))]) hX dX6_reason_148 rfl (Nat.le_of_ble_eq_true rfl) rfl ?_
                      refine zz_iinc (v := nI (k + 1)) (ls' := [(0, .ref 1), (1, .int (nI i)), (2, .int (nI 0)), (3, .int (nI 0)), (4, .int (nI (k + 1)))]) hX dX6_reason_149 4 rfl (nI_1 _) (Nat.le_of_ble_eq_true rfl) rfl ?_
                      refine zz_goto hX 58 dX6_reason_152 (by decide) ?_
                      have g1 : zz_bi (zs_any (fun q => ¬ q = i ∧ zp_on S q ∧ S 14 q = S 14 i) (k + 1) = true) = 0 := zz_bi_f (fun hh => (fun h => h.elim c68 (fun h2 => h2.1 (by omega))) ((zs_any_s (p := (fun q => ¬ q = i ∧ zp_on S q ∧ S 14 q = S 14 i)) k).mp hh))
                      have g2 : zz_bi (zs_any (fun q => ¬ q = i ∧ zp_on S q ∧ zv_pu S q = zv_pu S i) (k + 1) = true) = 0 := zz_bi_f (fun hh => (fun h => h.elim c109 (fun h2 => h2.1 (by omega))) ((zs_any_s (p := (fun q => ¬ q = i ∧ zp_on S q ∧ zv_pu S q = zv_pu S i)) k).mp hh))
                      refine zz_lcl (ls' := [(0, .ref 1), (1, .int (nI i)), (2, .int (zz_bi (zs_any (fun q => ¬ q = i ∧ zp_on S q ∧ S 14 q = S 14 i) (k + 1) = true))), (3, .int (zz_bi (zs_any (fun q => ¬ q = i ∧ zp_on S q ∧ zv_pu S q = zv_pu S i) (k + 1) = true))), (4, .int (nI (k + 1)))]) (by rw [g1, g2]; try rfl) ?_
                      exact ih58 (k + 1) (by omega) (by omega)
                    · skip
                      refine zz_aload_n hX dX6_reason_118 0 rfl rfl ?_
                      refine zz_iload hX dX6_reason_119 4 rfl ?_
                      refine zz_vI (x := zz_bi (zp_on S k)) hX zf_M_X6_160 (As := [.int (nI k)]) (st := []) (M_isOn S sh mi mr hW hM k c64) hM.1 rfl rfl rfl (by decide) (Nat.le_of_ble_eq_true rfl) (Nat.le_of_ble_eq_true rfl) (Nat.le_of_ble_eq_true rfl) dX6_reason_121 ?_
                      refine zz_if_eqB hX 147 dX6_reason_124 (by decide) (fun c124 => ?_) (fun c124 => ?_)
                      · skip
                        refine zz_iconst (v := nI 0) hX dX6_reason_147 rfl ?_
                        refine zz_istore_n (ls' := [(0, .ref 1), (1, .int (nI i)), (2, .int (nI 0)), (3, .int (nI 0)), (4, .int (nI k))]) hX dX6_reason_148 rfl (Nat.le_of_ble_eq_true rfl) rfl ?_
                        refine zz_iinc (v := nI (k + 1)) (ls' := [(0, .ref 1), (1, .int (nI i)), (2, .int (nI 0)), (3, .int (nI 0)), (4, .int (nI (k + 1)))]) hX dX6_reason_149 4 rfl (nI_1 _) (Nat.le_of_ble_eq_true rfl) rfl ?_
                        refine zz_goto hX 58 dX6_reason_152 (by decide) ?_
                        have g1 : zz_bi (zs_any (fun q => ¬ q = i ∧ zp_on S q ∧ S 14 q = S 14 i) (k + 1) = true) = 0 := zz_bi_f (fun hh => (fun h => h.elim c68 (fun h2 => h2.1 (by omega))) ((zs_any_s (p := (fun q => ¬ q = i ∧ zp_on S q ∧ S 14 q = S 14 i)) k).mp hh))
                        have g2 : zz_bi (zs_any (fun q => ¬ q = i ∧ zp_on S q ∧ zv_pu S q = zv_pu S i) (k + 1) = true) = 0 := zz_bi_f (fun hh => (fun h => h.elim c109 (fun h2 => c124 h2.2.1)) ((zs_any_s (p := (fun q => ¬ q = i ∧ zp_on S q ∧ zv_pu S q = zv_pu S i)) k).mp hh))
                        refine zz_lcl (ls' := [(0, .ref 1), (1, .int (nI i)), (2, .int (zz_bi (zs_any (fun q => ¬ q = i ∧ zp_on S q ∧ S 14 q = S 14 i) (k + 1) = true))), (3, .int (zz_bi (zs_any (fun q => ¬ q = i ∧ zp_on S q ∧ zv_pu S q = zv_pu S i) (k + 1) = true))), (4, .int (nI (k + 1)))]) (by rw [g1, g2]; try rfl) ?_
                        exact ih58 (k + 1) (by omega) (by omega)
                      · skip
                        refine zz_aload_n hX dX6_reason_127 0 rfl rfl ?_
                        refine zz_getR (y := 110) hX zf_F_X6_31.r hM.1 rfl (zM_r10 hM).1 dX6_reason_128 ?_
                        refine zz_iload hX dX6_reason_131 4 rfl ?_
                        refine zz_iald (x := nI (zv_pu S k)) hX (zM_r10 hM).2 k rfl (by omega) (by decide) (((zM_v10 hM (k := k) (by omega)).trans (s2 k c64).1)) dX6_reason_133 ?_
                        refine zz_aload_n hX dX6_reason_134 0 rfl rfl ?_
                        refine zz_getR (y := 110) hX zf_F_X6_31.r hM.1 rfl (zM_r10 hM).1 dX6_reason_135 ?_
                        refine zz_iload_n hX dX6_reason_138 1 rfl rfl ?_
                        refine zz_iald (x := nI (zv_pu S i)) hX (zM_r10 hM).2 i rfl (by omega) (by decide) (((zM_v10 hM (k := i) (by omega)).trans (s2 i hi).1)) dX6_reason_139 ?_
                        refine zz_icmp_neN hX (by omega) (by omega) 147 dX6_reason_140 (by decide) (fun c140 => ?_) (fun c140 => ?_)
                        · skip
                          refine zz_iconst (v := nI 0) hX dX6_reason_147 rfl ?_
                          refine zz_istore_n (ls' := [(0, .ref 1), (1, .int (nI i)), (2, .int (nI 0)), (3, .int (nI 0)), (4, .int (nI k))]) hX dX6_reason_148 rfl (Nat.le_of_ble_eq_true rfl) rfl ?_
                          refine zz_iinc (v := nI (k + 1)) (ls' := [(0, .ref 1), (1, .int (nI i)), (2, .int (nI 0)), (3, .int (nI 0)), (4, .int (nI (k + 1)))]) hX dX6_reason_149 4 rfl (nI_1 _) (Nat.le_of_ble_eq_true rfl) rfl ?_
                          refine zz_goto hX 58 dX6_reason_152 (by decide) ?_
                          have g1 : zz_bi (zs_any (fun q => ¬ q = i ∧ zp_on S q ∧ S 14 q = S 14 i) (k + 1) = true) = 0 := zz_bi_f (fun hh => (fun h => h.elim c68 (fun h2 => h2.1 (by omega))) ((zs_any_s (p := (fun q => ¬ q = i ∧ zp_on S q ∧ S 14 q = S 14 i)) k).mp hh))
                          have g2 : zz_bi (zs_any (fun q => ¬ q = i ∧ zp_on S q ∧ zv_pu S q = zv_pu S i) (k + 1) = true) = 0 := zz_bi_f (fun hh => (fun h => h.elim c109 (fun h2 => c140 h2.2.2)) ((zs_any_s (p := (fun q => ¬ q = i ∧ zp_on S q ∧ zv_pu S q = zv_pu S i)) k).mp hh))
                          refine zz_lcl (ls' := [(0, .ref 1), (1, .int (nI i)), (2, .int (zz_bi (zs_any (fun q => ¬ q = i ∧ zp_on S q ∧ S 14 q = S 14 i) (k + 1) = true))), (3, .int (zz_bi (zs_any (fun q => ¬ q = i ∧ zp_on S q ∧ zv_pu S q = zv_pu S i) (k + 1) = true))), (4, .int (nI (k + 1)))]) (by rw [g1, g2]; try rfl) ?_
                          exact ih58 (k + 1) (by omega) (by omega)
                        · skip
                          refine zz_iconst (v := nI 1) hX dX6_reason_143 rfl ?_
                          refine zz_goto hX 148 dX6_reason_144 (by decide) ?_
                          refine zz_istore_n (ls' := [(0, .ref 1), (1, .int (nI i)), (2, .int (nI 0)), (3, .int (nI 1)), (4, .int (nI k))]) hX dX6_reason_148 rfl (Nat.le_of_ble_eq_true rfl) rfl ?_
                          refine zz_iinc (v := nI (k + 1)) (ls' := [(0, .ref 1), (1, .int (nI i)), (2, .int (nI 0)), (3, .int (nI 1)), (4, .int (nI (k + 1)))]) hX dX6_reason_149 4 rfl (nI_1 _) (Nat.le_of_ble_eq_true rfl) rfl ?_
                          refine zz_goto hX 58 dX6_reason_152 (by decide) ?_
                          have g1 : zz_bi (zs_any (fun q => ¬ q = i ∧ zp_on S q ∧ S 14 q = S 14 i) (k + 1) = true) = 0 := zz_bi_f (fun hh => (fun h => h.elim c68 (fun h2 => h2.1 (by omega))) ((zs_any_s (p := (fun q => ¬ q = i ∧ zp_on S q ∧ S 14 q = S 14 i)) k).mp hh))
                          have g2 : zz_bi (zs_any (fun q => ¬ q = i ∧ zp_on S q ∧ zv_pu S q = zv_pu S i) (k + 1) = true) = 1 := zz_bi_t ((zs_any_s (p := (fun q => ¬ q = i ∧ zp_on S q ∧ zv_pu S q = zv_pu S i)) k).mpr (Or.inr ⟨by omega, c124, c140⟩))
                          refine zz_lcl (ls' := [(0, .ref 1), (1, .int (nI i)), (2, .int (zz_bi (zs_any (fun q => ¬ q = i ∧ zp_on S q ∧ S 14 q = S 14 i) (k + 1) = true))), (3, .int (zz_bi (zs_any (fun q => ¬ q = i ∧ zp_on S q ∧ zv_pu S q = zv_pu S i) (k + 1) = true))), (4, .int (nI (k + 1)))]) (by rw [g1, g2]; try rfl) ?_
                          exact ih58 (k + 1) (by omega) (by omega)
                · skip
                  refine zz_aload_n hX dX6_reason_77 0 rfl rfl ?_
                  refine zz_iload hX dX6_reason_78 4 rfl ?_
                  refine zz_vI (x := zz_bi (zp_on S k)) hX zf_M_X6_160 (As := [.int (nI k)]) (st := []) (M_isOn S sh mi mr hW hM k c64) hM.1 rfl rfl rfl (by decide) (Nat.le_of_ble_eq_true rfl) (Nat.le_of_ble_eq_true rfl) (Nat.le_of_ble_eq_true rfl) dX6_reason_80 ?_
                  refine zz_if_eqB hX 106 dX6_reason_83 (by decide) (fun c83 => ?_) (fun c83 => ?_)
                  · skip
                    refine zz_iconst (v := nI 0) hX dX6_reason_106 rfl ?_
                    refine zz_istore_n (ls' := [(0, .ref 1), (1, .int (nI i)), (2, .int (nI 0)), (3, .int (zz_bi (zs_any (fun q => ¬ q = i ∧ zp_on S q ∧ zv_pu S q = zv_pu S i) k = true))), (4, .int (nI k))]) hX dX6_reason_107 rfl (Nat.le_of_ble_eq_true rfl) rfl ?_
                    refine zz_iload_n hX dX6_reason_108 3 rfl rfl ?_
                    refine zz_if_neB hX 143 dX6_reason_109 (by decide) (fun c109 => ?_) (fun c109 => ?_)
                    · skip
                      refine zz_iconst (v := nI 1) hX dX6_reason_143 rfl ?_
                      refine zz_goto hX 148 dX6_reason_144 (by decide) ?_
                      refine zz_istore_n (ls' := [(0, .ref 1), (1, .int (nI i)), (2, .int (nI 0)), (3, .int (nI 1)), (4, .int (nI k))]) hX dX6_reason_148 rfl (Nat.le_of_ble_eq_true rfl) rfl ?_
                      refine zz_iinc (v := nI (k + 1)) (ls' := [(0, .ref 1), (1, .int (nI i)), (2, .int (nI 0)), (3, .int (nI 1)), (4, .int (nI (k + 1)))]) hX dX6_reason_149 4 rfl (nI_1 _) (Nat.le_of_ble_eq_true rfl) rfl ?_
                      refine zz_goto hX 58 dX6_reason_152 (by decide) ?_
                      have g1 : zz_bi (zs_any (fun q => ¬ q = i ∧ zp_on S q ∧ S 14 q = S 14 i) (k + 1) = true) = 0 := zz_bi_f (fun hh => (fun h => h.elim c68 (fun h2 => c83 h2.2.1)) ((zs_any_s (p := (fun q => ¬ q = i ∧ zp_on S q ∧ S 14 q = S 14 i)) k).mp hh))
                      have g2 : zz_bi (zs_any (fun q => ¬ q = i ∧ zp_on S q ∧ zv_pu S q = zv_pu S i) (k + 1) = true) = 1 := zz_bi_t ((zs_any_s (p := (fun q => ¬ q = i ∧ zp_on S q ∧ zv_pu S q = zv_pu S i)) k).mpr (Or.inl c109))
                      refine zz_lcl (ls' := [(0, .ref 1), (1, .int (nI i)), (2, .int (zz_bi (zs_any (fun q => ¬ q = i ∧ zp_on S q ∧ S 14 q = S 14 i) (k + 1) = true))), (3, .int (zz_bi (zs_any (fun q => ¬ q = i ∧ zp_on S q ∧ zv_pu S q = zv_pu S i) (k + 1) = true))), (4, .int (nI (k + 1)))]) (by rw [g1, g2]; try rfl) ?_
                      exact ih58 (k + 1) (by omega) (by omega)
                    · skip
                      refine zz_iload hX dX6_reason_112 4 rfl ?_
                      refine zz_iload_n hX dX6_reason_114 1 rfl rfl ?_
                      refine zz_icmp_eqN hX (by omega) (by omega) 147 dX6_reason_115 (by decide) (fun c115 => ?_) (fun c115 => ?_)
                      · skip
                        refine zz_iconst (v := nI 0) hX dX6_reason_147 rfl ?_
                        refine zz_istore_n (ls' := [(0, .ref 1), (1, .int (nI i)), (2, .int (nI 0)), (3, .int (nI 0)), (4, .int (nI k))]) hX dX6_reason_148 rfl (Nat.le_of_ble_eq_true rfl) rfl ?_
                        refine zz_iinc (v := nI (k + 1)) (ls' := [(0, .ref 1), (1, .int (nI i)), (2, .int (nI 0)), (3, .int (nI 0)), (4, .int (nI (k + 1)))]) hX dX6_reason_149 4 rfl (nI_1 _) (Nat.le_of_ble_eq_true rfl) rfl ?_
                        refine zz_goto hX 58 dX6_reason_152 (by decide) ?_
                        have g1 : zz_bi (zs_any (fun q => ¬ q = i ∧ zp_on S q ∧ S 14 q = S 14 i) (k + 1) = true) = 0 := zz_bi_f (fun hh => (fun h => h.elim c68 (fun h2 => c83 h2.2.1)) ((zs_any_s (p := (fun q => ¬ q = i ∧ zp_on S q ∧ S 14 q = S 14 i)) k).mp hh))
                        have g2 : zz_bi (zs_any (fun q => ¬ q = i ∧ zp_on S q ∧ zv_pu S q = zv_pu S i) (k + 1) = true) = 0 := zz_bi_f (fun hh => (fun h => h.elim c109 (fun h2 => h2.1 (by omega))) ((zs_any_s (p := (fun q => ¬ q = i ∧ zp_on S q ∧ zv_pu S q = zv_pu S i)) k).mp hh))
                        refine zz_lcl (ls' := [(0, .ref 1), (1, .int (nI i)), (2, .int (zz_bi (zs_any (fun q => ¬ q = i ∧ zp_on S q ∧ S 14 q = S 14 i) (k + 1) = true))), (3, .int (zz_bi (zs_any (fun q => ¬ q = i ∧ zp_on S q ∧ zv_pu S q = zv_pu S i) (k + 1) = true))), (4, .int (nI (k + 1)))]) (by rw [g1, g2]; try rfl) ?_
                        exact ih58 (k + 1) (by omega) (by omega)
                      · skip
                        refine zz_aload_n hX dX6_reason_118 0 rfl rfl ?_
                        refine zz_iload hX dX6_reason_119 4 rfl ?_
                        refine zz_vI (x := zz_bi (zp_on S k)) hX zf_M_X6_160 (As := [.int (nI k)]) (st := []) (M_isOn S sh mi mr hW hM k c64) hM.1 rfl rfl rfl (by decide) (Nat.le_of_ble_eq_true rfl) (Nat.le_of_ble_eq_true rfl) (Nat.le_of_ble_eq_true rfl) dX6_reason_121 ?_
                        refine zz_if_eqB hX 147 dX6_reason_124 (by decide) (fun c124 => ?_) (fun c124 => ?_)
                        · skip
                          refine zz_iconst (v := nI 0) hX dX6_reason_147 rfl ?_
                          refine zz_istore_n (ls' := [(0, .ref 1), (1, .int (nI i)), (2, .int (nI 0)), (3, .int (nI 0)), (4, .int (nI k))]) hX dX6_reason_148 rfl (Nat.le_of_ble_eq_true rfl) rfl ?_
                          refine zz_iinc (v := nI (k + 1)) (ls' := [(0, .ref 1), (1, .int (nI i)), (2, .int (nI 0)), (3, .int (nI 0)), (4, .int (nI (k + 1)))]) hX dX6_reason_149 4 rfl (nI_1 _) (Nat.le_of_ble_eq_true rfl) rfl ?_
                          refine zz_goto hX 58 dX6_reason_152 (by decide) ?_
                          have g1 : zz_bi (zs_any (fun q => ¬ q = i ∧ zp_on S q ∧ S 14 q = S 14 i) (k + 1) = true) = 0 := zz_bi_f (fun hh => (fun h => h.elim c68 (fun h2 => c83 h2.2.1)) ((zs_any_s (p := (fun q => ¬ q = i ∧ zp_on S q ∧ S 14 q = S 14 i)) k).mp hh))
                          have g2 : zz_bi (zs_any (fun q => ¬ q = i ∧ zp_on S q ∧ zv_pu S q = zv_pu S i) (k + 1) = true) = 0 := zz_bi_f (fun hh => (fun h => h.elim c109 (fun h2 => c124 h2.2.1)) ((zs_any_s (p := (fun q => ¬ q = i ∧ zp_on S q ∧ zv_pu S q = zv_pu S i)) k).mp hh))
                          refine zz_lcl (ls' := [(0, .ref 1), (1, .int (nI i)), (2, .int (zz_bi (zs_any (fun q => ¬ q = i ∧ zp_on S q ∧ S 14 q = S 14 i) (k + 1) = true))), (3, .int (zz_bi (zs_any (fun q => ¬ q = i ∧ zp_on S q ∧ zv_pu S q = zv_pu S i) (k + 1) = true))), (4, .int (nI (k + 1)))]) (by rw [g1, g2]; try rfl) ?_
                          exact ih58 (k + 1) (by omega) (by omega)
                        · skip
                          refine zz_aload_n hX dX6_reason_127 0 rfl rfl ?_
                          refine zz_getR (y := 110) hX zf_F_X6_31.r hM.1 rfl (zM_r10 hM).1 dX6_reason_128 ?_
                          refine zz_iload hX dX6_reason_131 4 rfl ?_
                          refine zz_iald (x := nI (zv_pu S k)) hX (zM_r10 hM).2 k rfl (by omega) (by decide) (((zM_v10 hM (k := k) (by omega)).trans (s2 k c64).1)) dX6_reason_133 ?_
                          refine zz_aload_n hX dX6_reason_134 0 rfl rfl ?_
                          refine zz_getR (y := 110) hX zf_F_X6_31.r hM.1 rfl (zM_r10 hM).1 dX6_reason_135 ?_
                          refine zz_iload_n hX dX6_reason_138 1 rfl rfl ?_
                          refine zz_iald (x := nI (zv_pu S i)) hX (zM_r10 hM).2 i rfl (by omega) (by decide) (((zM_v10 hM (k := i) (by omega)).trans (s2 i hi).1)) dX6_reason_139 ?_
                          refine zz_icmp_neN hX (by omega) (by omega) 147 dX6_reason_140 (by decide) (fun c140 => ?_) (fun c140 => ?_)
                          · skip
                            refine zz_iconst (v := nI 0) hX dX6_reason_147 rfl ?_
                            refine zz_istore_n (ls' := [(0, .ref 1), (1, .int (nI i)), (2, .int (nI 0)), (3, .int (nI 0)), (4, .int (nI k))]) hX dX6_reason_148 rfl (Nat.le_of_ble_eq_true rfl) rfl ?_
                            refine zz_iinc (v := nI (k + 1)) (ls' := [(0, .ref 1), (1, .int (nI i)), (2, .int (nI 0)), (3, .int (nI 0)), (4, .int (nI (k + 1)))]) hX dX6_reason_149 4 rfl (nI_1 _) (Nat.le_of_ble_eq_true rfl) rfl ?_
                            refine zz_goto hX 58 dX6_reason_152 (by decide) ?_
                            have g1 : zz_bi (zs_any (fun q => ¬ q = i ∧ zp_on S q ∧ S 14 q = S 14 i) (k + 1) = true) = 0 := zz_bi_f (fun hh => (fun h => h.elim c68 (fun h2 => c83 h2.2.1)) ((zs_any_s (p := (fun q => ¬ q = i ∧ zp_on S q ∧ S 14 q = S 14 i)) k).mp hh))
                            have g2 : zz_bi (zs_any (fun q => ¬ q = i ∧ zp_on S q ∧ zv_pu S q = zv_pu S i) (k + 1) = true) = 0 := zz_bi_f (fun hh => (fun h => h.elim c109 (fun h2 => c140 h2.2.2)) ((zs_any_s (p := (fun q => ¬ q = i ∧ zp_on S q ∧ zv_pu S q = zv_pu S i)) k).mp hh))
                            refine zz_lcl (ls' := [(0, .ref 1), (1, .int (nI i)), (2, .int (zz_bi (zs_any (fun q => ¬ q = i ∧ zp_on S q ∧ S 14 q = S 14 i) (k + 1) = true))), (3, .int (zz_bi (zs_any (fun q => ¬ q = i ∧ zp_on S q ∧ zv_pu S q = zv_pu S i) (k + 1) = true))), (4, .int (nI (k + 1)))]) (by rw [g1, g2]; try rfl) ?_
                            exact ih58 (k + 1) (by omega) (by omega)
                          · skip
                            refine zz_iconst (v := nI 1) hX dX6_reason_143 rfl ?_
                            refine zz_goto hX 148 dX6_reason_144 (by decide) ?_
                            refine zz_istore_n (ls' := [(0, .ref 1), (1, .int (nI i)), (2, .int (nI 0)), (3, .int (nI 1)), (4, .int (nI k))]) hX dX6_reason_148 rfl (Nat.le_of_ble_eq_true rfl) rfl ?_
                            refine zz_iinc (v := nI (k + 1)) (ls' := [(0, .ref 1), (1, .int (nI i)), (2, .int (nI 0)), (3, .int (nI 1)), (4, .int (nI (k + 1)))]) hX dX6_reason_149 4 rfl (nI_1 _) (Nat.le_of_ble_eq_true rfl) rfl ?_
                            refine zz_goto hX 58 dX6_reason_152 (by decide) ?_
                            have g1 : zz_bi (zs_any (fun q => ¬ q = i ∧ zp_on S q ∧ S 14 q = S 14 i) (k + 1) = true) = 0 := zz_bi_f (fun hh => (fun h => h.elim c68 (fun h2 => c83 h2.2.1)) ((zs_any_s (p := (fun q => ¬ q = i ∧ zp_on S q ∧ S 14 q = S 14 i)) k).mp hh))
                            have g2 : zz_bi (zs_any (fun q => ¬ q = i ∧ zp_on S q ∧ zv_pu S q = zv_pu S i) (k + 1) = true) = 1 := zz_bi_t ((zs_any_s (p := (fun q => ¬ q = i ∧ zp_on S q ∧ zv_pu S q = zv_pu S i)) k).mpr (Or.inr ⟨by omega, c124, c140⟩))
                            refine zz_lcl (ls' := [(0, .ref 1), (1, .int (nI i)), (2, .int (zz_bi (zs_any (fun q => ¬ q = i ∧ zp_on S q ∧ S 14 q = S 14 i) (k + 1) = true))), (3, .int (zz_bi (zs_any (fun q => ¬ q = i ∧ zp_on S q ∧ zv_pu S q = zv_pu S i) (k + 1) = true))), (4, .int (nI (k + 1)))]) (by rw [g1, g2]; try rfl) ?_
                            exact ih58 (k + 1) (by omega) (by omega)
                  · skip
                    refine zz_aload_n hX dX6_reason_86 0 rfl rfl ?_
                    refine zz_getR (y := 114) hX zf_F_X6_43.r hM.1 rfl (zM_r14 hM).1 dX6_reason_87 ?_
                    refine zz_iload hX dX6_reason_90 4 rfl ?_
                    refine zz_iald (x := S 14 k) hX (zM_r14 hM).2 k rfl (by omega) (by decide) ((zM_v14 hM (k := k) (by omega))) dX6_reason_92 ?_
                    refine zz_aload_n hX dX6_reason_93 0 rfl rfl ?_
                    refine zz_getR (y := 114) hX zf_F_X6_43.r hM.1 rfl (zM_r14 hM).1 dX6_reason_94 ?_
                    refine zz_iload_n hX dX6_reason_97 1 rfl rfl ?_
                    refine zz_iald (x := S 14 i) hX (zM_r14 hM).2 i rfl (by omega) (by decide) ((zM_v14 hM (k := i) (by omega))) dX6_reason_98 ?_
                    refine zz_icmp_ne hX 106 dX6_reason_99 (by decide) (fun c99 => ?_) (fun c99 => ?_)
                    · skip
                      refine zz_iconst (v := nI 0) hX dX6_reason_106 rfl ?_
                      refine zz_istore_n (ls' := [(0, .ref 1), (1, .int (nI i)), (2, .int (nI 0)), (3, .int (zz_bi (zs_any (fun q => ¬ q = i ∧ zp_on S q ∧ zv_pu S q = zv_pu S i) k = true))), (4, .int (nI k))]) hX dX6_reason_107 rfl (Nat.le_of_ble_eq_true rfl) rfl ?_
                      refine zz_iload_n hX dX6_reason_108 3 rfl rfl ?_
                      refine zz_if_neB hX 143 dX6_reason_109 (by decide) (fun c109 => ?_) (fun c109 => ?_)
                      · skip
                        refine zz_iconst (v := nI 1) hX dX6_reason_143 rfl ?_
                        refine zz_goto hX 148 dX6_reason_144 (by decide) ?_
                        refine zz_istore_n (ls' := [(0, .ref 1), (1, .int (nI i)), (2, .int (nI 0)), (3, .int (nI 1)), (4, .int (nI k))]) hX dX6_reason_148 rfl (Nat.le_of_ble_eq_true rfl) rfl ?_
                        refine zz_iinc (v := nI (k + 1)) (ls' := [(0, .ref 1), (1, .int (nI i)), (2, .int (nI 0)), (3, .int (nI 1)), (4, .int (nI (k + 1)))]) hX dX6_reason_149 4 rfl (nI_1 _) (Nat.le_of_ble_eq_true rfl) rfl ?_
                        refine zz_goto hX 58 dX6_reason_152 (by decide) ?_
                        have g1 : zz_bi (zs_any (fun q => ¬ q = i ∧ zp_on S q ∧ S 14 q = S 14 i) (k + 1) = true) = 0 := zz_bi_f (fun hh => (fun h => h.elim c68 (fun h2 => c99 h2.2.2)) ((zs_any_s (p := (fun q => ¬ q = i ∧ zp_on S q ∧ S 14 q = S 14 i)) k).mp hh))
                        have g2 : zz_bi (zs_any (fun q => ¬ q = i ∧ zp_on S q ∧ zv_pu S q = zv_pu S i) (k + 1) = true) = 1 := zz_bi_t ((zs_any_s (p := (fun q => ¬ q = i ∧ zp_on S q ∧ zv_pu S q = zv_pu S i)) k).mpr (Or.inl c109))
                        refine zz_lcl (ls' := [(0, .ref 1), (1, .int (nI i)), (2, .int (zz_bi (zs_any (fun q => ¬ q = i ∧ zp_on S q ∧ S 14 q = S 14 i) (k + 1) = true))), (3, .int (zz_bi (zs_any (fun q => ¬ q = i ∧ zp_on S q ∧ zv_pu S q = zv_pu S i) (k + 1) = true))), (4, .int (nI (k + 1)))]) (by rw [g1, g2]; try rfl) ?_
                        exact ih58 (k + 1) (by omega) (by omega)
                      · skip
                        refine zz_iload hX dX6_reason_112 4 rfl ?_
                        refine zz_iload_n hX dX6_reason_114 1 rfl rfl ?_
                        refine zz_icmp_eqN hX (by omega) (by omega) 147 dX6_reason_115 (by decide) (fun c115 => ?_) (fun c115 => ?_)
                        · skip
                          refine zz_iconst (v := nI 0) hX dX6_reason_147 rfl ?_
                          refine zz_istore_n (ls' := [(0, .ref 1), (1, .int (nI i)), (2, .int (nI 0)), (3, .int (nI 0)), (4, .int (nI k))]) hX dX6_reason_148 rfl (Nat.le_of_ble_eq_true rfl) rfl ?_
                          refine zz_iinc (v := nI (k + 1)) (ls' := [(0, .ref 1), (1, .int (nI i)), (2, .int (nI 0)), (3, .int (nI 0)), (4, .int (nI (k + 1)))]) hX dX6_reason_149 4 rfl (nI_1 _) (Nat.le_of_ble_eq_true rfl) rfl ?_
                          refine zz_goto hX 58 dX6_reason_152 (by decide) ?_
                          have g1 : zz_bi (zs_any (fun q => ¬ q = i ∧ zp_on S q ∧ S 14 q = S 14 i) (k + 1) = true) = 0 := zz_bi_f (fun hh => (fun h => h.elim c68 (fun h2 => c99 h2.2.2)) ((zs_any_s (p := (fun q => ¬ q = i ∧ zp_on S q ∧ S 14 q = S 14 i)) k).mp hh))
                          have g2 : zz_bi (zs_any (fun q => ¬ q = i ∧ zp_on S q ∧ zv_pu S q = zv_pu S i) (k + 1) = true) = 0 := zz_bi_f (fun hh => (fun h => h.elim c109 (fun h2 => h2.1 (by omega))) ((zs_any_s (p := (fun q => ¬ q = i ∧ zp_on S q ∧ zv_pu S q = zv_pu S i)) k).mp hh))
                          refine zz_lcl (ls' := [(0, .ref 1), (1, .int (nI i)), (2, .int (zz_bi (zs_any (fun q => ¬ q = i ∧ zp_on S q ∧ S 14 q = S 14 i) (k + 1) = true))), (3, .int (zz_bi (zs_any (fun q => ¬ q = i ∧ zp_on S q ∧ zv_pu S q = zv_pu S i) (k + 1) = true))), (4, .int (nI (k + 1)))]) (by rw [g1, g2]; try rfl) ?_
                          exact ih58 (k + 1) (by omega) (by omega)
                        · skip
                          refine zz_aload_n hX dX6_reason_118 0 rfl rfl ?_
                          refine zz_iload hX dX6_reason_119 4 rfl ?_
                          refine zz_vI (x := zz_bi (zp_on S k)) hX zf_M_X6_160 (As := [.int (nI k)]) (st := []) (M_isOn S sh mi mr hW hM k c64) hM.1 rfl rfl rfl (by decide) (Nat.le_of_ble_eq_true rfl) (Nat.le_of_ble_eq_true rfl) (Nat.le_of_ble_eq_true rfl) dX6_reason_121 ?_
                          refine zz_if_eqB hX 147 dX6_reason_124 (by decide) (fun c124 => ?_) (fun c124 => ?_)
                          · skip
                            refine zz_iconst (v := nI 0) hX dX6_reason_147 rfl ?_
                            refine zz_istore_n (ls' := [(0, .ref 1), (1, .int (nI i)), (2, .int (nI 0)), (3, .int (nI 0)), (4, .int (nI k))]) hX dX6_reason_148 rfl (Nat.le_of_ble_eq_true rfl) rfl ?_
                            refine zz_iinc (v := nI (k + 1)) (ls' := [(0, .ref 1), (1, .int (nI i)), (2, .int (nI 0)), (3, .int (nI 0)), (4, .int (nI (k + 1)))]) hX dX6_reason_149 4 rfl (nI_1 _) (Nat.le_of_ble_eq_true rfl) rfl ?_
                            refine zz_goto hX 58 dX6_reason_152 (by decide) ?_
                            have g1 : zz_bi (zs_any (fun q => ¬ q = i ∧ zp_on S q ∧ S 14 q = S 14 i) (k + 1) = true) = 0 := zz_bi_f (fun hh => (fun h => h.elim c68 (fun h2 => c99 h2.2.2)) ((zs_any_s (p := (fun q => ¬ q = i ∧ zp_on S q ∧ S 14 q = S 14 i)) k).mp hh))
                            have g2 : zz_bi (zs_any (fun q => ¬ q = i ∧ zp_on S q ∧ zv_pu S q = zv_pu S i) (k + 1) = true) = 0 := zz_bi_f (fun hh => (fun h => h.elim c109 (fun h2 => c124 h2.2.1)) ((zs_any_s (p := (fun q => ¬ q = i ∧ zp_on S q ∧ zv_pu S q = zv_pu S i)) k).mp hh))
                            refine zz_lcl (ls' := [(0, .ref 1), (1, .int (nI i)), (2, .int (zz_bi (zs_any (fun q => ¬ q = i ∧ zp_on S q ∧ S 14 q = S 14 i) (k + 1) = true))), (3, .int (zz_bi (zs_any (fun q => ¬ q = i ∧ zp_on S q ∧ zv_pu S q = zv_pu S i) (k + 1) = true))), (4, .int (nI (k + 1)))]) (by rw [g1, g2]; try rfl) ?_
                            exact ih58 (k + 1) (by omega) (by omega)
                          · skip
                            refine zz_aload_n hX dX6_reason_127 0 rfl rfl ?_
                            refine zz_getR (y := 110) hX zf_F_X6_31.r hM.1 rfl (zM_r10 hM).1 dX6_reason_128 ?_
                            refine zz_iload hX dX6_reason_131 4 rfl ?_
                            refine zz_iald (x := nI (zv_pu S k)) hX (zM_r10 hM).2 k rfl (by omega) (by decide) (((zM_v10 hM (k := k) (by omega)).trans (s2 k c64).1)) dX6_reason_133 ?_
                            refine zz_aload_n hX dX6_reason_134 0 rfl rfl ?_
                            refine zz_getR (y := 110) hX zf_F_X6_31.r hM.1 rfl (zM_r10 hM).1 dX6_reason_135 ?_
                            refine zz_iload_n hX dX6_reason_138 1 rfl rfl ?_
                            refine zz_iald (x := nI (zv_pu S i)) hX (zM_r10 hM).2 i rfl (by omega) (by decide) (((zM_v10 hM (k := i) (by omega)).trans (s2 i hi).1)) dX6_reason_139 ?_
                            refine zz_icmp_neN hX (by omega) (by omega) 147 dX6_reason_140 (by decide) (fun c140 => ?_) (fun c140 => ?_)
                            · skip
                              refine zz_iconst (v := nI 0) hX dX6_reason_147 rfl ?_
                              refine zz_istore_n (ls' := [(0, .ref 1), (1, .int (nI i)), (2, .int (nI 0)), (3, .int (nI 0)), (4, .int (nI k))]) hX dX6_reason_148 rfl (Nat.le_of_ble_eq_true rfl) rfl ?_
                              refine zz_iinc (v := nI (k + 1)) (ls' := [(0, .ref 1), (1, .int (nI i)), (2, .int (nI 0)), (3, .int (nI 0)), (4, .int (nI (k + 1)))]) hX dX6_reason_149 4 rfl (nI_1 _) (Nat.le_of_ble_eq_true rfl) rfl ?_
                              refine zz_goto hX 58 dX6_reason_152 (by decide) ?_
                              have g1 : zz_bi (zs_any (fun q => ¬ q = i ∧ zp_on S q ∧ S 14 q = S 14 i) (k + 1) = true) = 0 := zz_bi_f (fun hh => (fun h => h.elim c68 (fun h2 => c99 h2.2.2)) ((zs_any_s (p := (fun q => ¬ q = i ∧ zp_on S q ∧ S 14 q = S 14 i)) k).mp hh))
                              have g2 : zz_bi (zs_any (fun q => ¬ q = i ∧ zp_on S q ∧ zv_pu S q = zv_pu S i) (k + 1) = true) = 0 := zz_bi_f (fun hh => (fun h => h.elim c109 (fun h2 => c140 h2.2.2)) ((zs_any_s (p := (fun q => ¬ q = i ∧ zp_on S q ∧ zv_pu S q = zv_pu S i)) k).mp hh))
                              refine zz_lcl (ls' := [(0, .ref 1), (1, .int (nI i)), (2, .int (zz_bi (zs_any (fun q => ¬ q = i ∧ zp_on S q ∧ S 14 q = S 14 i) (k + 1) = true))), (3, .int (zz_bi (zs_any (fun q => ¬ q = i ∧ zp_on S q ∧ zv_pu S q = zv_pu S i) (k + 1) = true))), (4, .int (nI (k + 1)))]) (by rw [g1, g2]; try rfl) ?_
                              exact ih58 (k + 1) (by omega) (by omega)
                            · skip
                              refine zz_iconst (v := nI 1) hX dX6_reason_143 rfl ?_
                              refine zz_goto hX 148 dX6_reason_144 (by decide) ?_
                              refine zz_istore_n (ls' := [(0, .ref 1), (1, .int (nI i)), (2, .int (nI 0)), (3, .int (nI 1)), (4, .int (nI k))]) hX dX6_reason_148 rfl (Nat.le_of_ble_eq_true rfl) rfl ?_
                              refine zz_iinc (v := nI (k + 1)) (ls' := [(0, .ref 1), (1, .int (nI i)), (2, .int (nI 0)), (3, .int (nI 1)), (4, .int (nI (k + 1)))]) hX dX6_reason_149 4 rfl (nI_1 _) (Nat.le_of_ble_eq_true rfl) rfl ?_
                              refine zz_goto hX 58 dX6_reason_152 (by decide) ?_
                              have g1 : zz_bi (zs_any (fun q => ¬ q = i ∧ zp_on S q ∧ S 14 q = S 14 i) (k + 1) = true) = 0 := zz_bi_f (fun hh => (fun h => h.elim c68 (fun h2 => c99 h2.2.2)) ((zs_any_s (p := (fun q => ¬ q = i ∧ zp_on S q ∧ S 14 q = S 14 i)) k).mp hh))
                              have g2 : zz_bi (zs_any (fun q => ¬ q = i ∧ zp_on S q ∧ zv_pu S q = zv_pu S i) (k + 1) = true) = 1 := zz_bi_t ((zs_any_s (p := (fun q => ¬ q = i ∧ zp_on S q ∧ zv_pu S q = zv_pu S i)) k).mpr (Or.inr ⟨by omega, c124, c140⟩))
                              refine zz_lcl (ls' := [(0, .ref 1), (1, .int (nI i)), (2, .int (zz_bi (zs_any (fun q => ¬ q = i ∧ zp_on S q ∧ S 14 q = S 14 i) (k + 1) = true))), (3, .int (zz_bi (zs_any (fun q => ¬ q = i ∧ zp_on S q ∧ zv_pu S q = zv_pu S i) (k + 1) = true))), (4, .int (nI (k + 1)))]) (by rw [g1, g2]; try rfl) ?_
                              exact ih58 (k + 1) (by omega) (by omega)
                    · skip
                      refine zz_iconst (v := nI 1) hX dX6_reason_102 rfl ?_
                      refine zz_goto hX 107 dX6_reason_103 (by decide) ?_
                      refine zz_istore_n (ls' := [(0, .ref 1), (1, .int (nI i)), (2, .int (nI 1)), (3, .int (zz_bi (zs_any (fun q => ¬ q = i ∧ zp_on S q ∧ zv_pu S q = zv_pu S i) k = true))), (4, .int (nI k))]) hX dX6_reason_107 rfl (Nat.le_of_ble_eq_true rfl) rfl ?_
                      refine zz_iload_n hX dX6_reason_108 3 rfl rfl ?_
                      refine zz_if_neB hX 143 dX6_reason_109 (by decide) (fun c109 => ?_) (fun c109 => ?_)
                      · skip
                        refine zz_iconst (v := nI 1) hX dX6_reason_143 rfl ?_
                        refine zz_goto hX 148 dX6_reason_144 (by decide) ?_
                        refine zz_istore_n (ls' := [(0, .ref 1), (1, .int (nI i)), (2, .int (nI 1)), (3, .int (nI 1)), (4, .int (nI k))]) hX dX6_reason_148 rfl (Nat.le_of_ble_eq_true rfl) rfl ?_
                        refine zz_iinc (v := nI (k + 1)) (ls' := [(0, .ref 1), (1, .int (nI i)), (2, .int (nI 1)), (3, .int (nI 1)), (4, .int (nI (k + 1)))]) hX dX6_reason_149 4 rfl (nI_1 _) (Nat.le_of_ble_eq_true rfl) rfl ?_
                        refine zz_goto hX 58 dX6_reason_152 (by decide) ?_
                        have g1 : zz_bi (zs_any (fun q => ¬ q = i ∧ zp_on S q ∧ S 14 q = S 14 i) (k + 1) = true) = 1 := zz_bi_t ((zs_any_s (p := (fun q => ¬ q = i ∧ zp_on S q ∧ S 14 q = S 14 i)) k).mpr (Or.inr ⟨by omega, c83, c99⟩))
                        have g2 : zz_bi (zs_any (fun q => ¬ q = i ∧ zp_on S q ∧ zv_pu S q = zv_pu S i) (k + 1) = true) = 1 := zz_bi_t ((zs_any_s (p := (fun q => ¬ q = i ∧ zp_on S q ∧ zv_pu S q = zv_pu S i)) k).mpr (Or.inl c109))
                        refine zz_lcl (ls' := [(0, .ref 1), (1, .int (nI i)), (2, .int (zz_bi (zs_any (fun q => ¬ q = i ∧ zp_on S q ∧ S 14 q = S 14 i) (k + 1) = true))), (3, .int (zz_bi (zs_any (fun q => ¬ q = i ∧ zp_on S q ∧ zv_pu S q = zv_pu S i) (k + 1) = true))), (4, .int (nI (k + 1)))]) (by rw [g1, g2]; try rfl) ?_
                        exact ih58 (k + 1) (by omega) (by omega)
                      · skip
                        refine zz_iload hX dX6_reason_112 4 rfl ?_
                        refine zz_iload_n hX dX6_reason_114 1 rfl rfl ?_
                        refine zz_icmp_eqN hX (by omega) (by omega) 147 dX6_reason_115 (by decide) (fun c115 => ?_) (fun c115 => ?_)
                        · skip
                          refine zz_iconst (v := nI 0) hX dX6_reason_147 rfl ?_
                          refine zz_istore_n (ls' := [(0, .ref 1), (1, .int (nI i)), (2, .int (nI 1)), (3, .int (nI 0)), (4, .int (nI k))]) hX dX6_reason_148 rfl (Nat.le_of_ble_eq_true rfl) rfl ?_
                          refine zz_iinc (v := nI (k + 1)) (ls' := [(0, .ref 1), (1, .int (nI i)), (2, .int (nI 1)), (3, .int (nI 0)), (4, .int (nI (k + 1)))]) hX dX6_reason_149 4 rfl (nI_1 _) (Nat.le_of_ble_eq_true rfl) rfl ?_
                          refine zz_goto hX 58 dX6_reason_152 (by decide) ?_
                          have g1 : zz_bi (zs_any (fun q => ¬ q = i ∧ zp_on S q ∧ S 14 q = S 14 i) (k + 1) = true) = 1 := zz_bi_t ((zs_any_s (p := (fun q => ¬ q = i ∧ zp_on S q ∧ S 14 q = S 14 i)) k).mpr (Or.inr ⟨by omega, c83, c99⟩))
                          have g2 : zz_bi (zs_any (fun q => ¬ q = i ∧ zp_on S q ∧ zv_pu S q = zv_pu S i) (k + 1) = true) = 0 := zz_bi_f (fun hh => (fun h => h.elim c109 (fun h2 => h2.1 (by omega))) ((zs_any_s (p := (fun q => ¬ q = i ∧ zp_on S q ∧ zv_pu S q = zv_pu S i)) k).mp hh))
                          refine zz_lcl (ls' := [(0, .ref 1), (1, .int (nI i)), (2, .int (zz_bi (zs_any (fun q => ¬ q = i ∧ zp_on S q ∧ S 14 q = S 14 i) (k + 1) = true))), (3, .int (zz_bi (zs_any (fun q => ¬ q = i ∧ zp_on S q ∧ zv_pu S q = zv_pu S i) (k + 1) = true))), (4, .int (nI (k + 1)))]) (by rw [g1, g2]; try rfl) ?_
                          exact ih58 (k + 1) (by omega) (by omega)
                        · skip
                          refine zz_aload_n hX dX6_reason_118 0 rfl rfl ?_
                          refine zz_iload hX dX6_reason_119 4 rfl ?_
                          refine zz_vI (x := zz_bi (zp_on S k)) hX zf_M_X6_160 (As := [.int (nI k)]) (st := []) (M_isOn S sh mi mr hW hM k c64) hM.1 rfl rfl rfl (by decide) (Nat.le_of_ble_eq_true rfl) (Nat.le_of_ble_eq_true rfl) (Nat.le_of_ble_eq_true rfl) dX6_reason_121 ?_
                          refine zz_if_eqB hX 147 dX6_reason_124 (by decide) (fun c124 => ?_) (fun c124 => ?_)
                          · skip
                            refine zz_iconst (v := nI 0) hX dX6_reason_147 rfl ?_
                            refine zz_istore_n (ls' := [(0, .ref 1), (1, .int (nI i)), (2, .int (nI 1)), (3, .int (nI 0)), (4, .int (nI k))]) hX dX6_reason_148 rfl (Nat.le_of_ble_eq_true rfl) rfl ?_
                            refine zz_iinc (v := nI (k + 1)) (ls' := [(0, .ref 1), (1, .int (nI i)), (2, .int (nI 1)), (3, .int (nI 0)), (4, .int (nI (k + 1)))]) hX dX6_reason_149 4 rfl (nI_1 _) (Nat.le_of_ble_eq_true rfl) rfl ?_
                            refine zz_goto hX 58 dX6_reason_152 (by decide) ?_
                            have g1 : zz_bi (zs_any (fun q => ¬ q = i ∧ zp_on S q ∧ S 14 q = S 14 i) (k + 1) = true) = 1 := zz_bi_t ((zs_any_s (p := (fun q => ¬ q = i ∧ zp_on S q ∧ S 14 q = S 14 i)) k).mpr (Or.inr ⟨by omega, c83, c99⟩))
                            have g2 : zz_bi (zs_any (fun q => ¬ q = i ∧ zp_on S q ∧ zv_pu S q = zv_pu S i) (k + 1) = true) = 0 := zz_bi_f (fun hh => (fun h => h.elim c109 (fun h2 => c124 h2.2.1)) ((zs_any_s (p := (fun q => ¬ q = i ∧ zp_on S q ∧ zv_pu S q = zv_pu S i)) k).mp hh))
                            refine zz_lcl (ls' := [(0, .ref 1), (1, .int (nI i)), (2, .int (zz_bi (zs_any (fun q => ¬ q = i ∧ zp_on S q ∧ S 14 q = S 14 i) (k + 1) = true))), (3, .int (zz_bi (zs_any (fun q => ¬ q = i ∧ zp_on S q ∧ zv_pu S q = zv_pu S i) (k + 1) = true))), (4, .int (nI (k + 1)))]) (by rw [g1, g2]; try rfl) ?_
                            exact ih58 (k + 1) (by omega) (by omega)
                          · skip
                            refine zz_aload_n hX dX6_reason_127 0 rfl rfl ?_
                            refine zz_getR (y := 110) hX zf_F_X6_31.r hM.1 rfl (zM_r10 hM).1 dX6_reason_128 ?_
                            refine zz_iload hX dX6_reason_131 4 rfl ?_
                            refine zz_iald (x := nI (zv_pu S k)) hX (zM_r10 hM).2 k rfl (by omega) (by decide) (((zM_v10 hM (k := k) (by omega)).trans (s2 k c64).1)) dX6_reason_133 ?_
                            refine zz_aload_n hX dX6_reason_134 0 rfl rfl ?_
                            refine zz_getR (y := 110) hX zf_F_X6_31.r hM.1 rfl (zM_r10 hM).1 dX6_reason_135 ?_
                            refine zz_iload_n hX dX6_reason_138 1 rfl rfl ?_
                            refine zz_iald (x := nI (zv_pu S i)) hX (zM_r10 hM).2 i rfl (by omega) (by decide) (((zM_v10 hM (k := i) (by omega)).trans (s2 i hi).1)) dX6_reason_139 ?_
                            refine zz_icmp_neN hX (by omega) (by omega) 147 dX6_reason_140 (by decide) (fun c140 => ?_) (fun c140 => ?_)
                            · skip
                              refine zz_iconst (v := nI 0) hX dX6_reason_147 rfl ?_
                              refine zz_istore_n (ls' := [(0, .ref 1), (1, .int (nI i)), (2, .int (nI 1)), (3, .int (nI 0)), (4, .int (nI k))]) hX dX6_reason_148 rfl (Nat.le_of_ble_eq_true rfl) rfl ?_
                              refine zz_iinc (v := nI (k + 1)) (ls' := [(0, .ref 1), (1, .int (nI i)), (2, .int (nI 1)), (3, .int (nI 0)), (4, .int (nI (k + 1)))]) hX dX6_reason_149 4 rfl (nI_1 _) (Nat.le_of_ble_eq_true rfl) rfl ?_
                              refine zz_goto hX 58 dX6_reason_152 (by decide) ?_
                              have g1 : zz_bi (zs_any (fun q => ¬ q = i ∧ zp_on S q ∧ S 14 q = S 14 i) (k + 1) = true) = 1 := zz_bi_t ((zs_any_s (p := (fun q => ¬ q = i ∧ zp_on S q ∧ S 14 q = S 14 i)) k).mpr (Or.inr ⟨by omega, c83, c99⟩))
                              have g2 : zz_bi (zs_any (fun q => ¬ q = i ∧ zp_on S q ∧ zv_pu S q = zv_pu S i) (k + 1) = true) = 0 := zz_bi_f (fun hh => (fun h => h.elim c109 (fun h2 => c140 h2.2.2)) ((zs_any_s (p := (fun q => ¬ q = i ∧ zp_on S q ∧ zv_pu S q = zv_pu S i)) k).mp hh))
                              refine zz_lcl (ls' := [(0, .ref 1), (1, .int (nI i)), (2, .int (zz_bi (zs_any (fun q => ¬ q = i ∧ zp_on S q ∧ S 14 q = S 14 i) (k + 1) = true))), (3, .int (zz_bi (zs_any (fun q => ¬ q = i ∧ zp_on S q ∧ zv_pu S q = zv_pu S i) (k + 1) = true))), (4, .int (nI (k + 1)))]) (by rw [g1, g2]; try rfl) ?_
                              exact ih58 (k + 1) (by omega) (by omega)
                            · skip
                              refine zz_iconst (v := nI 1) hX dX6_reason_143 rfl ?_
                              refine zz_goto hX 148 dX6_reason_144 (by decide) ?_
                              refine zz_istore_n (ls' := [(0, .ref 1), (1, .int (nI i)), (2, .int (nI 1)), (3, .int (nI 1)), (4, .int (nI k))]) hX dX6_reason_148 rfl (Nat.le_of_ble_eq_true rfl) rfl ?_
                              refine zz_iinc (v := nI (k + 1)) (ls' := [(0, .ref 1), (1, .int (nI i)), (2, .int (nI 1)), (3, .int (nI 1)), (4, .int (nI (k + 1)))]) hX dX6_reason_149 4 rfl (nI_1 _) (Nat.le_of_ble_eq_true rfl) rfl ?_
                              refine zz_goto hX 58 dX6_reason_152 (by decide) ?_
                              have g1 : zz_bi (zs_any (fun q => ¬ q = i ∧ zp_on S q ∧ S 14 q = S 14 i) (k + 1) = true) = 1 := zz_bi_t ((zs_any_s (p := (fun q => ¬ q = i ∧ zp_on S q ∧ S 14 q = S 14 i)) k).mpr (Or.inr ⟨by omega, c83, c99⟩))
                              have g2 : zz_bi (zs_any (fun q => ¬ q = i ∧ zp_on S q ∧ zv_pu S q = zv_pu S i) (k + 1) = true) = 1 := zz_bi_t ((zs_any_s (p := (fun q => ¬ q = i ∧ zp_on S q ∧ zv_pu S q = zv_pu S i)) k).mpr (Or.inr ⟨by omega, c124, c140⟩))
                              refine zz_lcl (ls' := [(0, .ref 1), (1, .int (nI i)), (2, .int (zz_bi (zs_any (fun q => ¬ q = i ∧ zp_on S q ∧ S 14 q = S 14 i) (k + 1) = true))), (3, .int (zz_bi (zs_any (fun q => ¬ q = i ∧ zp_on S q ∧ zv_pu S q = zv_pu S i) (k + 1) = true))), (4, .int (nI (k + 1)))]) (by rw [g1, g2]; try rfl) ?_
                              exact ih58 (k + 1) (by omega) (by omega)
        exact L58 ((zv_ns S - 0 + 1)) 0 (by omega) (Nat.zero_le _)
      · skip
        refine zz_aload_n hX dX6_reason_35 0 rfl rfl ?_
        refine zz_getR (y := 114) hX zf_F_X6_43.r hM.1 rfl (zM_r14 hM).1 dX6_reason_36 ?_
        refine zz_iload_n hX dX6_reason_39 1 rfl rfl ?_
        refine zz_iald (x := S 14 i) hX (zM_r14 hM).2 i rfl (by omega) (by decide) ((zM_v14 hM (k := i) (by omega))) dX6_reason_40 ?_
        refine zz_iconst (v := (-1)) hX dX6_reason_41 rfl ?_
        refine zz_icmp_ne hX 49 dX6_reason_42 (by decide) (fun c42 => ?_) (fun c42 => absurd c42 c18)
        refine zz_iconst (v := nI 2) hX dX6_reason_49 rfl ?_
        refine zz_iret hX hr rfl (Nat.le_of_ble_eq_true rfl) (Nat.le_of_ble_eq_true rfl) dX6_reason_50 ?_
        exact ⟨by rw [show zp_bar S i = _ from (if_neg c5).trans ((if_neg c18).trans (if_pos c32))], rfl, rfl, rfl⟩
  · skip
    refine zz_bipush (v := nI 7) hX dX6_reason_8 rfl ?_
    refine zz_iret hX hr rfl (Nat.le_of_ble_eq_true rfl) (Nat.le_of_ble_eq_true rfl) dX6_reason_10 ?_
    exact ⟨by rw [show zp_bar S i = _ from if_pos c5], rfl, rfl, rfl⟩

theorem M_degreeAtT (S T : zS) (sh : zm_Sh) (mi : zm_Mi) (mr : zm_Mr) (hW : zW T) (hM : zM T sh mi mr) (hT : ∀ r, r = 9 ∨ r = 12 ∨ r = 18 → T r = S r) (i : Nat) (hi : i < zv_ns S) (j : Nat) (hj : j < 6) (f : Nat) (hf : f < 48) : zz_Con yX6_degreeAt (.code yX6_degreeAt cX6_degreeAt 9 (some Jvm.ClassFile.FieldType.int)) 1 0 0 [.ref 1, .int (nI i), .int (nI j), .int (nI f)] sh mi mr (zz_q (some (.int (zp_deg S i j f))) sh mi mr) zz_none := by
  have h := M_degreeAt T sh mi mr hW hM i (by show i < zn (T 9 0); rw [hT 9 (by omega)]; exact hi) j hj f hf
  rw [zp_deg_c (S := S) (hT 12 (by omega)) (hT 18 (by omega))] at h
  exact h
theorem M_mouthAtT (S T : zS) (sh : zm_Sh) (mi : zm_Mi) (mr : zm_Mr) (hW : zW T) (hM : zM T sh mi mr) (hT : ∀ r, (6 ≤ r ∧ r ≤ 13) → T r = S r) (i : Nat) (hi : i < zv_ns S) (f : Nat) (hf : f < 48) : zz_Con yX6_mouthAt (.code yX6_mouthAt cX6_mouthAt 6 (some Jvm.ClassFile.FieldType.int)) 1 0 0 [.ref 1, .int (nI i), .int (nI f)] sh mi mr (zz_q (some (.int (zp_mouth S i f))) sh mi mr) zz_none := by
  have h := M_mouthAt T sh mi mr hW hM i (by show i < zn (T 9 0); rw [hT 9 (by omega)]; exact hi) f hf
  rw [zp_mouth_c (S := S) (hT 6 (by omega)) (hT 7 (by omega)) (hT 8 (by omega)) (hT 12 (by omega)) (hT 13 (by omega))] at h
  exact h
theorem M_wantedT (S T : zS) (sh : zm_Sh) (mi : zm_Mi) (mr : zm_Mr) (hW : zW T) (hM : zM T sh mi mr) (hT : ∀ r, (6 ≤ r ∧ r ≤ 15) ∨ r = 23 → T r = S r) (i : Nat) (hi : i < zv_ns S) (hk : zv_sk S i < zv_fr S i) : zz_Con yX6_wanted (.code yX6_wanted cX6_wanted 4 (some Jvm.ClassFile.FieldType.int)) 2 0 0 [.ref 1, .int (nI i)] sh mi mr (zz_q (some (.int (zp_wnt S i))) sh mi mr) zz_none := by
  have h := M_wanted T sh mi mr hW hM i (by show i < zn (T 9 0); rw [hT 9 (by omega)]; exact hi) (by show zn (T 15 i) < zn (T 11 i); rw [hT 15 (by omega), hT 11 (by omega)]; exact hk)
  rw [zp_wnt_c (S := S) (hT 6 (by omega)) (hT 7 (by omega)) (hT 8 (by omega)) (hT 12 (by omega)) (hT 13 (by omega)) (hT 15 (by omega)) (hT 23 (by omega))] at h
  exact h
def zr_m1 (l : Nat) : Prop := ¬ (100 ≤ l ∧ l < 131)
def zq_mp (S' : zS) (sh : zm_Sh) (mi : zm_Mi) (mr : zm_Mr) : Option Value → zm_Sh → zm_Mi → zm_Mr → Prop := fun v s m r => v = none ∧ s = sh ∧ r = mr ∧ zM S' sh m mr ∧ zr_same zr_m1 sh mi mr sh m mr
set_option maxRecDepth 20000 in
theorem M_poses (S : zS) (sh : zm_Sh) (mi : zm_Mi) (mr : zm_Mr) (hW : zW S) (hM : zM S sh mi mr) (i : Nat) (hi : i < zv_ns S) (hk : zv_sk S i < zv_fr S i) (hh : ¬ zp_held S i (zv_sk S i)) : zz_Con yX6_poses (.code yX6_poses cX6_poses 6 none) 3 0 0 [.ref 1, .int (nI i), .int (nI (zv_sk S i))] sh mi mr (zq_mp (zt_pz (zt_want S i) i) sh mi mr) zz_none := by
  refine zz_begin RX6 [(0, .ref 1), (1, .int (nI i)), (2, .int (nI (zv_sk S i)))] (by decide) rfl rfl (Nat.le_of_ble_eq_true rfl) rfl ?_
  intro Γ D E ad hX hr hN hT
  obtain ⟨hWp, hWv, hWs, hWk, hWr, hWf⟩ := id hW
  obtain ⟨p0, p1, p2, p3, p4, p5⟩ := hWp
  obtain ⟨v0, v1, v2, v3, v4⟩ := hWv
  obtain ⟨s0, s1, s2, s3⟩ := hWs
  obtain ⟨f0, f1, f2, f3⟩ := hWf
  obtain ⟨b1, b2, b3, b4, b5, b6, b7, b8, b9, b10, b11, b12, b13⟩ := s2 i hi
  have hjn9 := (p2 _ b2).2.2
  refine zz_aload_n hX dX6_poses_0 0 rfl rfl ?_
  refine zz_getR (y := 110) hX zf_F_X6_31.r hM.1 rfl (zM_r10 hM).1 dX6_poses_1 ?_
  refine zz_iload_n hX dX6_poses_4 1 rfl rfl ?_
  refine zz_iald (x := nI (zv_pu S i)) hX (zM_r10 hM).2 i rfl (by omega) (by decide) (((zM_v10 hM (k := i) (by omega)).trans (s2 i hi).1)) dX6_poses_5 ?_
  refine zz_istore_n (ls' := [(0, .ref 1), (1, .int (nI i)), (2, .int (nI (zv_sk S i))), (3, .int (nI (zv_pu S i)))]) hX dX6_poses_6 rfl (Nat.le_of_ble_eq_true rfl) rfl ?_
  refine zz_iconst (v := nI 0) hX dX6_poses_7 rfl ?_
  refine zz_istore (ls' := [(0, .ref 1), (1, .int (nI i)), (2, .int (nI (zv_sk S i))), (3, .int (nI (zv_pu S i))), (4, .int (nI 0))]) hX dX6_poses_8 (Nat.le_of_ble_eq_true rfl) rfl ?_
  have L10 : ∀ (k10 : Nat) (j : Nat) (mj : zm_Mi), zv_jn S (zv_pu S i) - j < k10 → (j ≤ zv_jn S (zv_pu S i)) → (zM (zt_pose S (zv_pu S i) i (zv_sk S i) j) sh mj mr) → (zr_same zr_m1 sh mi mr sh mj mr) → zz Γ (D, E, 6, ad, sh) (zz_End Γ (D, E, 6, ad, sh) (zq_mp (zt_pz (zt_want S i) i) sh mi mr) zz_none 0 0) 0 0 sh mj mr 10 [(0, .ref 1), (1, .int (nI i)), (2, .int (nI (zv_sk S i))), (3, .int (nI (zv_pu S i))), (4, .int (nI j))] [] := by
    intro k10
    induction k10 with
    | zero => intro j mj hk10; exact absurd hk10 (Nat.not_lt_zero _)
    | succ k10 ih10 =>
      intro j mj hk10 hj9 hMj hSj
      have hTr : ∀ r, r ≠ 2 → r ≠ 3 → r ≠ 22 → (zt_pose S (zv_pu S i) i (zv_sk S i) j) r = S r := fun r h2 h3 h22 => zt_pose_r _ _ _ _ h2 h3 h22 j
      have hWj : zW (zt_pose S (zv_pu S i) i (zv_sk S i) j) := zt_pose_w hW b2 (by omega) j (by omega)
      refine zz_iload hX dX6_poses_10 4 rfl ?_
      refine zz_aload_n hX dX6_poses_12 0 rfl rfl ?_
      refine zz_getR (y := 101) hX zf_F_X6_7.r hM.1 rfl (zM_r1 hM).1 dX6_poses_13 ?_
      refine zz_iload_n hX dX6_poses_16 3 rfl rfl ?_
      refine zz_iald (x := nI (zv_jn S (zv_pu S i))) hX (zM_r1 hM).2 (zv_pu S i) rfl (by omega) (by decide) (((zM_v1 hMj (k := zv_pu S i) (by omega)).trans ((congrFun (hTr 1 (by decide) (by decide) (by decide)) _).trans (p2 _ b2).1))) dX6_poses_17 ?_
      refine zz_icmp_geN hX (by omega) (by omega) 99 dX6_poses_18 (by decide) (fun c18 => ?_) (fun c18 => ?_)
      · skip
        obtain rfl : j = zv_jn S (zv_pu S i) := by omega
        refine zz_aload_n hX dX6_poses_99 0 rfl rfl ?_
        refine zz_iload_n hX dX6_poses_100 1 rfl rfl ?_
        refine zz_vI (x := zp_wnt S i) hX zf_M_X6_163 (As := [.int (nI i)]) (st := []) (M_wantedT S (zt_pose S (zv_pu S i) i (zv_sk S i) (zv_jn S (zv_pu S i))) sh mj mr hWj hMj (fun r h => hTr r (by omega) (by omega) (by omega)) i hi hk) hM.1 rfl rfl rfl (by decide) (Nat.le_of_ble_eq_true rfl) (Nat.le_of_ble_eq_true rfl) (Nat.le_of_ble_eq_true rfl) dX6_poses_101 ?_
        refine zz_top (show zp_wnt S i = zp_want S i (zv_sk S i) from if_neg hh) ?_
        refine zz_istore (ls' := [(0, .ref 1), (1, .int (nI i)), (2, .int (nI (zv_sk S i))), (3, .int (nI (zv_pu S i))), (4, .int (zp_want S i (zv_sk S i)))]) hX dX6_poses_104 (Nat.le_of_ble_eq_true rfl) rfl ?_
        refine zz_iload hX dX6_poses_106 4 rfl ?_
        refine zz_iconst (v := (-1)) hX dX6_poses_108 rfl ?_
        refine zz_icmp_eq hX 128 dX6_poses_109 (by decide) (fun c109 => ?_) (fun c109 => ?_)
        · skip
          refine zz_aload_n hX dX6_poses_128 0 rfl rfl ?_
          refine zz_getR (y := 123) hX zf_F_X6_65.r hM.1 rfl (zM_r23 hM).1 dX6_poses_129 ?_
          refine zz_bipush (v := nI 48) hX dX6_poses_132 rfl ?_
          refine zz_iload_n hX dX6_poses_134 1 rfl rfl ?_
          refine zz_imul (z := nI (48 * i)) hX dX6_poses_135 (pk_mul _ _) ?_
          refine zz_iload_n hX dX6_poses_136 2 rfl rfl ?_
          refine zz_iadd (z := nI (48 * i + (zv_sk S i))) hX dX6_poses_137 (nI_add _ _) ?_
          refine zz_aload_n hX dX6_poses_138 0 rfl rfl ?_
          refine zz_iload_n hX dX6_poses_139 1 rfl rfl ?_
          refine zz_iload_n hX dX6_poses_140 2 rfl rfl ?_
          refine zz_vI (x := zp_mouth S i (zv_sk S i)) hX zf_M_X6_157 (As := [.int (nI i), .int (nI (zv_sk S i))]) (st := [.int (nI (48 * i + (zv_sk S i))), .ref 123]) (M_mouthAtT S (zt_pose S (zv_pu S i) i (zv_sk S i) (zv_jn S (zv_pu S i))) sh mj mr hWj hMj (fun r h => hTr r (by omega) (by omega) (by omega)) i hi (zv_sk S i) (by omega)) hM.1 rfl rfl rfl (by decide) (Nat.le_of_ble_eq_true rfl) (Nat.le_of_ble_eq_true rfl) (Nat.le_of_ble_eq_true rfl) dX6_poses_141 ?_
          refine zz_iast hX (zM_r23 hM).2 (48 * i + (zv_sk S i)) rfl (by omega) (by decide) dX6_poses_144 ?_
          refine zz_vret hX hr (Nat.le_of_ble_eq_true rfl) (Nat.le_of_ble_eq_true rfl) dX6_poses_145 ?_
          have hM9 := zM_set (r := 23) (c := 48 * i + zv_sk S i) (x := zp_mouth S i (zv_sk S i)) hMj (by decide)
          exact ⟨rfl, rfl, rfl, by rw [zt_pz_eq hh, if_pos c109]; exact hM9, zr_fr hSj (by unfold zr_m1; omega)⟩
        · skip
          have hm9 := zs_ix_zn ((zp_want_in hW hi (zv_sk S i)).resolve_left c109) (by omega)
          refine zz_aload_n hX dX6_poses_112 0 rfl rfl ?_
          refine zz_getR (y := 104) hX zf_F_X6_19.r hM.1 rfl (zM_r4 hM).1 dX6_poses_113 ?_
          refine zz_bipush (v := nI 10) hX dX6_poses_116 rfl ?_
          refine zz_iload_n hX dX6_poses_118 3 rfl rfl ?_
          refine zz_imul (z := nI (10 * (zv_pu S i))) hX dX6_poses_119 (pk_mul _ _) ?_
          refine zz_iload hX dX6_poses_120 4 rfl ?_
          refine zz_iadd (z := (nI (10 * (zv_pu S i))) + (zp_want S i (zv_sk S i))) hX dX6_poses_122 rfl ?_
          refine zz_dup2 hX dX6_poses_123 rfl rfl ?_
          refine zz_iald (x := (zt_pose S (zv_pu S i) i (zv_sk S i) (zv_jn S (zv_pu S i))) 4 (10 * zv_pu S i + zn (zp_want S i (zv_sk S i)))) hX (zM_r4 hM).2 (10 * zv_pu S i + zn (zp_want S i (zv_sk S i))) ((congrArg (fun z => nI (10 * zv_pu S i) + z) hm9.2).trans (nI_add _ _)) (by omega) (by decide) ((zM_v4 hMj (k := 10 * zv_pu S i + zn (zp_want S i (zv_sk S i))) (by omega))) dX6_poses_124 ?_
          refine zz_iconst (v := nI 1) hX dX6_poses_125 rfl ?_
          refine zz_isub (z := ((zt_pose S (zv_pu S i) i (zv_sk S i) (zv_jn S (zv_pu S i))) 4 (10 * zv_pu S i + zn (zp_want S i (zv_sk S i)))) - (nI 1)) hX dX6_poses_126 rfl ?_
          refine zz_iast hX (zM_r4 hM).2 (10 * zv_pu S i + zn (zp_want S i (zv_sk S i))) ((congrArg (fun z => nI (10 * zv_pu S i) + z) hm9.2).trans (nI_add _ _)) (by omega) (by decide) dX6_poses_127 ?_
          have hM1 : zM (zm_u2 (zt_pose S (zv_pu S i) i (zv_sk S i) (zv_jn S (zv_pu S i))) 4 (10 * zv_pu S i + zn (zp_want S i (zv_sk S i))) ((zt_pose S (zv_pu S i) i (zv_sk S i) (zv_jn S (zv_pu S i))) 4 (10 * zv_pu S i + zn (zp_want S i (zv_sk S i))) - nI 1)) sh (zm_u2 mj 104 (10 * zv_pu S i + zn (zp_want S i (zv_sk S i))) (((zt_pose S (zv_pu S i) i (zv_sk S i) (zv_jn S (zv_pu S i))) 4 (10 * zv_pu S i + zn (zp_want S i (zv_sk S i)))) - (nI 1))) mr := zM_set (r := 4) hMj (by decide)
          have hW1 : zW (zm_u2 (zt_pose S (zv_pu S i) i (zv_sk S i) (zv_jn S (zv_pu S i))) 4 (10 * zv_pu S i + zn (zp_want S i (zv_sk S i))) ((zt_pose S (zv_pu S i) i (zv_sk S i) (zv_jn S (zv_pu S i))) 4 (10 * zv_pu S i + zn (zp_want S i (zv_sk S i))) - nI 1)) := zW_set hWj (by unfold zs_str; omega) (fun h => by omega) (fun h => by omega) (fun _ => by show 10 * zv_pu S i + zn (zp_want S i (zv_sk S i)) < 10 * zn ((zt_pose S (zv_pu S i) i (zv_sk S i) (zv_jn S (zv_pu S i))) 0 0); rw [hTr 0 (by decide) (by decide) (by decide)]; have : 10 * zv_pu S i + zn (zp_want S i (zv_sk S i)) < 10 * zv_np S := (by omega); exact this) (fun h => by omega) (fun h => by omega) (fun h => by omega) (by omega) (fun h => by omega)
          have hT1 : ∀ r, r ≠ 2 → r ≠ 3 → r ≠ 4 → r ≠ 22 → (zm_u2 (zt_pose S (zv_pu S i) i (zv_sk S i) (zv_jn S (zv_pu S i))) 4 (10 * zv_pu S i + zn (zp_want S i (zv_sk S i))) ((zt_pose S (zv_pu S i) i (zv_sk S i) (zv_jn S (zv_pu S i))) 4 (10 * zv_pu S i + zn (zp_want S i (zv_sk S i))) - nI 1)) r = S r := fun r h2 h3 h4 h22 => (zm_u2r h4).trans (hTr r h2 h3 h22)
          refine zz_aload_n hX dX6_poses_128 0 rfl rfl ?_
          refine zz_getR (y := 123) hX zf_F_X6_65.r hM.1 rfl (zM_r23 hM).1 dX6_poses_129 ?_
          refine zz_bipush (v := nI 48) hX dX6_poses_132 rfl ?_
          refine zz_iload_n hX dX6_poses_134 1 rfl rfl ?_
          refine zz_imul (z := nI (48 * i)) hX dX6_poses_135 (pk_mul _ _) ?_
          refine zz_iload_n hX dX6_poses_136 2 rfl rfl ?_
          refine zz_iadd (z := nI (48 * i + (zv_sk S i))) hX dX6_poses_137 (nI_add _ _) ?_
          refine zz_aload_n hX dX6_poses_138 0 rfl rfl ?_
          refine zz_iload_n hX dX6_poses_139 1 rfl rfl ?_
          refine zz_iload_n hX dX6_poses_140 2 rfl rfl ?_
          refine zz_vI (x := zp_mouth S i (zv_sk S i)) hX zf_M_X6_157 (As := [.int (nI i), .int (nI (zv_sk S i))]) (st := [.int (nI (48 * i + (zv_sk S i))), .ref 123]) (M_mouthAtT S (zm_u2 (zt_pose S (zv_pu S i) i (zv_sk S i) (zv_jn S (zv_pu S i))) 4 (10 * zv_pu S i + zn (zp_want S i (zv_sk S i))) ((zt_pose S (zv_pu S i) i (zv_sk S i) (zv_jn S (zv_pu S i))) 4 (10 * zv_pu S i + zn (zp_want S i (zv_sk S i))) - nI 1)) sh (zm_u2 mj 104 (10 * zv_pu S i + zn (zp_want S i (zv_sk S i))) (((zt_pose S (zv_pu S i) i (zv_sk S i) (zv_jn S (zv_pu S i))) 4 (10 * zv_pu S i + zn (zp_want S i (zv_sk S i)))) - (nI 1))) mr hW1 hM1 (fun r h => hT1 r (by omega) (by omega) (by omega) (by omega)) i hi (zv_sk S i) (by omega)) hM.1 rfl rfl rfl (by decide) (Nat.le_of_ble_eq_true rfl) (Nat.le_of_ble_eq_true rfl) (Nat.le_of_ble_eq_true rfl) dX6_poses_141 ?_
          refine zz_iast hX (zM_r23 hM).2 (48 * i + (zv_sk S i)) rfl (by omega) (by decide) dX6_poses_144 ?_
          refine zz_vret hX hr (Nat.le_of_ble_eq_true rfl) (Nat.le_of_ble_eq_true rfl) dX6_poses_145 ?_
          have hM9 := zM_set (r := 23) (c := 48 * i + zv_sk S i) (x := zp_mouth S i (zv_sk S i)) hM1 (by decide)
          rw [show (zt_pose S (zv_pu S i) i (zv_sk S i) (zv_jn S (zv_pu S i))) 4 = S 4 from hTr 4 (by decide) (by decide) (by decide)] at hM9
          rw [show (zt_pose S (zv_pu S i) i (zv_sk S i) (zv_jn S (zv_pu S i))) 4 = S 4 from hTr 4 (by decide) (by decide) (by decide)]
          exact ⟨rfl, rfl, rfl, by rw [zt_pz_eq hh, if_neg c109]; exact hM9, zr_fr (zr_fr hSj (by unfold zr_m1; omega)) (by unfold zr_m1; omega)⟩
      · skip
        refine zz_aload_n hX dX6_poses_21 0 rfl rfl ?_
        refine zz_iload_n hX dX6_poses_22 1 rfl rfl ?_
        refine zz_iload hX dX6_poses_23 4 rfl ?_
        refine zz_iload_n hX dX6_poses_25 2 rfl rfl ?_
        refine zz_vI (x := zp_deg S i j (zv_sk S i)) hX zf_M_X6_144 (As := [.int (nI i), .int (nI j), .int (nI (zv_sk S i))]) (st := []) (M_degreeAtT S (zt_pose S (zv_pu S i) i (zv_sk S i) j) sh mj mr hWj hMj (fun r h => hTr r (by omega) (by omega) (by omega)) i hi j (by omega) (zv_sk S i) (by omega)) hM.1 rfl rfl rfl (by decide) (Nat.le_of_ble_eq_true rfl) (Nat.le_of_ble_eq_true rfl) (Nat.le_of_ble_eq_true rfl) dX6_poses_26 ?_
        refine zz_istore (ls' := [(0, .ref 1), (1, .int (nI i)), (2, .int (nI (zv_sk S i))), (3, .int (nI (zv_pu S i))), (4, .int (nI j)), (5, .int (zp_deg S i j (zv_sk S i)))]) hX dX6_poses_29 (Nat.le_of_ble_eq_true rfl) rfl ?_
        refine zz_aload_n hX dX6_poses_31 0 rfl rfl ?_
        refine zz_getR (y := 103) hX zf_F_X6_16.r hM.1 rfl (zM_r3 hM).1 dX6_poses_32 ?_
        refine zz_bipush (v := nI 6) hX dX6_poses_35 rfl ?_
        refine zz_iload_n hX dX6_poses_37 3 rfl rfl ?_
        refine zz_imul (z := nI (6 * (zv_pu S i))) hX dX6_poses_38 (pk_mul _ _) ?_
        refine zz_iload hX dX6_poses_39 4 rfl ?_
        refine zz_iadd (z := nI (6 * (zv_pu S i) + j)) hX dX6_poses_41 (nI_add _ _) ?_
        refine zz_dup2 hX dX6_poses_42 rfl rfl ?_
        refine zz_iald (x := (zt_pose S (zv_pu S i) i (zv_sk S i) j) 3 (6 * (zv_pu S i) + j)) hX (zM_r3 hM).2 (6 * (zv_pu S i) + j) rfl (by omega) (by decide) ((zM_v3 hMj (k := 6 * (zv_pu S i) + j) (by omega))) dX6_poses_43 ?_
        refine zz_aload_n hX dX6_poses_44 0 rfl rfl ?_
        refine zz_getR (y := 102) hX zf_F_X6_13.r hM.1 rfl (zM_r2 hM).1 dX6_poses_45 ?_
        refine zz_bipush (v := nI 6) hX dX6_poses_48 rfl ?_
        refine zz_iload_n hX dX6_poses_50 3 rfl rfl ?_
        refine zz_imul (z := nI (6 * (zv_pu S i))) hX dX6_poses_51 (pk_mul _ _) ?_
        refine zz_iload hX dX6_poses_52 4 rfl ?_
        refine zz_iadd (z := nI (6 * (zv_pu S i) + j)) hX dX6_poses_54 (nI_add _ _) ?_
        refine zz_iald (x := (zt_pose S (zv_pu S i) i (zv_sk S i) j) 2 (6 * (zv_pu S i) + j)) hX (zM_r2 hM).2 (6 * (zv_pu S i) + j) rfl (by omega) (by decide) ((zM_v2 hMj (k := 6 * (zv_pu S i) + j) (by omega))) dX6_poses_55 ?_
        refine zz_iload hX dX6_poses_56 5 rfl ?_
        refine zz_sI (x := zs_abs (zs_sw ((zt_pose S (zv_pu S i) i (zv_sk S i) j) 2 (6 * (zv_pu S i) + j)) (zp_deg S i j (zv_sk S i)))) hX zf_M_X6_170 (As := [.int ((zt_pose S (zv_pu S i) i (zv_sk S i) j) 2 (6 * (zv_pu S i) + j)), .int (zp_deg S i j (zv_sk S i))]) (st := [.int ((zt_pose S (zv_pu S i) i (zv_sk S i) j) 3 (6 * (zv_pu S i) + j)), .int (nI (6 * (zv_pu S i) + j)), .ref 103]) (m_shorter ((zt_pose S (zv_pu S i) i (zv_sk S i) j) 2 (6 * (zv_pu S i) + j)) (zp_deg S i j (zv_sk S i)) (hWj.1.2.2.2.1 _) (zp_deg_in hW i j (zv_sk S i) (by omega)) sh mj mr) rfl rfl (by decide) (Nat.le_of_ble_eq_true rfl) (Nat.le_of_ble_eq_true rfl) (Nat.le_of_ble_eq_true rfl) dX6_poses_58 ?_
        refine zz_iadd (z := ((zt_pose S (zv_pu S i) i (zv_sk S i) j) 3 (6 * (zv_pu S i) + j)) + (zs_abs (zs_sw ((zt_pose S (zv_pu S i) i (zv_sk S i) j) 2 (6 * (zv_pu S i) + j)) (zp_deg S i j (zv_sk S i))))) hX dX6_poses_61 rfl ?_
        refine zz_iast hX (zM_r3 hM).2 (6 * (zv_pu S i) + j) rfl (by omega) (by decide) dX6_poses_62 ?_
        refine zz_aload_n hX dX6_poses_63 0 rfl rfl ?_
        refine zz_getR (y := 102) hX zf_F_X6_13.r hM.1 rfl (zM_r2 hM).1 dX6_poses_64 ?_
        refine zz_bipush (v := nI 6) hX dX6_poses_67 rfl ?_
        refine zz_iload_n hX dX6_poses_69 3 rfl rfl ?_
        refine zz_imul (z := nI (6 * (zv_pu S i))) hX dX6_poses_70 (pk_mul _ _) ?_
        refine zz_iload hX dX6_poses_71 4 rfl ?_
        refine zz_iadd (z := nI (6 * (zv_pu S i) + j)) hX dX6_poses_73 (nI_add _ _) ?_
        refine zz_iload hX dX6_poses_74 5 rfl ?_
        refine zz_iast hX (zM_r2 hM).2 (6 * (zv_pu S i) + j) rfl (by omega) (by decide) dX6_poses_76 ?_
        refine zz_aload_n hX dX6_poses_77 0 rfl rfl ?_
        refine zz_getR (y := 122) hX zf_F_X6_62.r hM.1 rfl (zM_r22 hM).1 dX6_poses_78 ?_
        refine zz_aload_n hX dX6_poses_81 0 rfl rfl ?_
        refine zz_iload_n hX dX6_poses_82 1 rfl rfl ?_
        refine zz_iload hX dX6_poses_83 4 rfl ?_
        refine zz_vI (x := nI (48 * (6 * i + j))) hX zf_M_X6_127 (As := [.int (nI i), .int (nI j)]) (st := [.ref 122]) (m_row sh (zm_u2 (zm_u2 mj 103 (6 * (zv_pu S i) + j) (((zt_pose S (zv_pu S i) i (zv_sk S i) j) 3 (6 * (zv_pu S i) + j)) + (zs_abs (zs_sw ((zt_pose S (zv_pu S i) i (zv_sk S i) j) 2 (6 * (zv_pu S i) + j)) (zp_deg S i j (zv_sk S i)))))) 102 (6 * (zv_pu S i) + j) (zp_deg S i j (zv_sk S i))) mr i j) hM.1 rfl rfl rfl (by decide) (Nat.le_of_ble_eq_true rfl) (Nat.le_of_ble_eq_true rfl) (Nat.le_of_ble_eq_true rfl) dX6_poses_85 ?_
        refine zz_iload_n hX dX6_poses_88 2 rfl rfl ?_
        refine zz_iadd (z := nI (48 * (6 * i + j) + (zv_sk S i))) hX dX6_poses_89 (nI_add _ _) ?_
        refine zz_iload hX dX6_poses_90 5 rfl ?_
        refine zz_iast hX (zM_r22 hM).2 (48 * (6 * i + j) + (zv_sk S i)) rfl (by omega) (by decide) dX6_poses_92 ?_
        refine zz_iinc (v := nI (j + 1)) (ls' := [(0, .ref 1), (1, .int (nI i)), (2, .int (nI (zv_sk S i))), (3, .int (nI (zv_pu S i))), (4, .int (nI (j + 1))), (5, .int (zp_deg S i j (zv_sk S i)))]) hX dX6_poses_93 4 rfl (nI_1 _) (Nat.le_of_ble_eq_true rfl) rfl ?_
        refine zz_goto hX 10 dX6_poses_96 (by decide) ?_
        have hMn : zM (zt_pose S (zv_pu S i) i (zv_sk S i) (j + 1)) sh (zm_u2 (zm_u2 (zm_u2 mj 103 (6 * (zv_pu S i) + j) (((zt_pose S (zv_pu S i) i (zv_sk S i) j) 3 (6 * (zv_pu S i) + j)) + (zs_abs (zs_sw ((zt_pose S (zv_pu S i) i (zv_sk S i) j) 2 (6 * (zv_pu S i) + j)) (zp_deg S i j (zv_sk S i)))))) 102 (6 * (zv_pu S i) + j) (zp_deg S i j (zv_sk S i))) 122 (48 * (6 * i + j) + (zv_sk S i)) (zp_deg S i j (zv_sk S i))) mr := zM_set (r := 22) (zM_set (r := 2) (zM_set (r := 3) hMj (by decide)) (by decide)) (by decide)
        refine zz_pick (ls' := [(0, .ref 1), (1, .int (nI i)), (2, .int (nI (zv_sk S i))), (3, .int (nI (zv_pu S i))), (4, .int (nI (j + 1)))]) [0, 1, 2, 3, 4] rfl ?_
        exact ih10 (j + 1) (zm_u2 (zm_u2 (zm_u2 mj 103 (6 * (zv_pu S i) + j) (((zt_pose S (zv_pu S i) i (zv_sk S i) j) 3 (6 * (zv_pu S i) + j)) + (zs_abs (zs_sw ((zt_pose S (zv_pu S i) i (zv_sk S i) j) 2 (6 * (zv_pu S i) + j)) (zp_deg S i j (zv_sk S i)))))) 102 (6 * (zv_pu S i) + j) (zp_deg S i j (zv_sk S i))) 122 (48 * (6 * i + j) + (zv_sk S i)) (zp_deg S i j (zv_sk S i))) (by omega) (by omega) hMn (zr_fr (zr_fr (zr_fr hSj (by unfold zr_m1; omega)) (by unfold zr_m1; omega)) (by unfold zr_m1; omega))
  exact L10 ((zv_jn S (zv_pu S i) - 0 + 1)) 0 mi (by omega) (Nat.zero_le _) hM zr_same.rfl'

set_option maxRecDepth 20000 in
theorem M_holds (S : zS) (sh : zm_Sh) (mi : zm_Mi) (mr : zm_Mr) (hW : zW S) (hM : zM S sh mi mr) (i : Nat) (hi : i < zv_ns S) (hk : zv_sk S i < zv_fr S i) (h0 : 0 < zv_sk S i) : zz_Con yX6_holds (.code yX6_holds cX6_holds 4 none) 1 0 0 [.ref 1, .int (nI i), .int (nI (zv_sk S i))] sh mi mr (zq_mp (zt_hold S i) sh mi mr) zz_none := by
  refine zz_begin RX6 [(0, .ref 1), (1, .int (nI i)), (2, .int (nI (zv_sk S i)))] (by decide) rfl rfl (Nat.le_of_ble_eq_true rfl) rfl ?_
  intro Γ D E ad hX hr hN hT
  obtain ⟨hWp, hWv, hWs, hWk, hWr, hWf⟩ := id hW
  obtain ⟨p0, p1, p2, p3, p4, p5⟩ := hWp
  obtain ⟨v0, v1, v2, v3, v4⟩ := hWv
  obtain ⟨s0, s1, s2, s3⟩ := hWs
  obtain ⟨f0, f1, f2, f3⟩ := hWf
  obtain ⟨b1, b2, b3, b4, b5, b6, b7, b8, b9, b10, b11, b12, b13⟩ := s2 i hi
  have hjn9 := (p2 _ b2).2.2
  refine zz_iconst (v := nI 0) hX dX6_holds_0 rfl ?_
  refine zz_istore_n (ls' := [(0, .ref 1), (1, .int (nI i)), (2, .int (nI (zv_sk S i))), (3, .int (nI 0))]) hX dX6_holds_1 rfl (Nat.le_of_ble_eq_true rfl) rfl ?_
  have L2 : ∀ (k2 : Nat) (j : Nat) (mj : zm_Mi), zv_jn S (zv_pu S i) - j < k2 → (j ≤ zv_jn S (zv_pu S i)) → (zM (zt_h2 S i (zv_sk S i) j) sh mj mr) → (zr_same zr_m1 sh mi mr sh mj mr) → zz Γ (D, E, 4, ad, sh) (zz_End Γ (D, E, 4, ad, sh) (zq_mp (zt_hold S i) sh mi mr) zz_none 0 0) 0 0 sh mj mr 2 [(0, .ref 1), (1, .int (nI i)), (2, .int (nI (zv_sk S i))), (3, .int (nI j))] [] := by
    intro k2
    induction k2 with
    | zero => intro j mj hk2; exact absurd hk2 (Nat.not_lt_zero _)
    | succ k2 ih2 =>
      intro j mj hk2 hj9 hMj hSj
      have hTr : ∀ r, r ≠ 22 → (zt_h2 S i (zv_sk S i) j) r = S r := fun r h22 => zt_h2_r _ _ _ h22 j
      refine zz_iload_n hX dX6_holds_2 3 rfl rfl ?_
      refine zz_aload_n hX dX6_holds_3 0 rfl rfl ?_
      refine zz_getR (y := 101) hX zf_F_X6_7.r hM.1 rfl (zM_r1 hM).1 dX6_holds_4 ?_
      refine zz_aload_n hX dX6_holds_7 0 rfl rfl ?_
      refine zz_getR (y := 110) hX zf_F_X6_31.r hM.1 rfl (zM_r10 hM).1 dX6_holds_8 ?_
      refine zz_iload_n hX dX6_holds_11 1 rfl rfl ?_
      refine zz_iald (x := nI (zv_pu S i)) hX (zM_r10 hM).2 i rfl (by omega) (by decide) (((zM_v10 hMj (k := i) (by omega)).trans ((congrFun (hTr 10 (by decide)) _).trans b1))) dX6_holds_12 ?_
      refine zz_iald (x := nI (zv_jn S (zv_pu S i))) hX (zM_r1 hM).2 (zv_pu S i) rfl (by omega) (by decide) (((zM_v1 hMj (k := zv_pu S i) (by omega)).trans ((congrFun (hTr 1 (by decide)) _).trans (p2 _ b2).1))) dX6_holds_13 ?_
      refine zz_icmp_geN hX (by omega) (by omega) 51 dX6_holds_14 (by decide) (fun c14 => ?_) (fun c14 => ?_)
      · skip
        obtain rfl : j = zv_jn S (zv_pu S i) := by omega
        refine zz_aload_n hX dX6_holds_51 0 rfl rfl ?_
        refine zz_getR (y := 123) hX zf_F_X6_65.r hM.1 rfl (zM_r23 hM).1 dX6_holds_52 ?_
        refine zz_bipush (v := nI 48) hX dX6_holds_55 rfl ?_
        refine zz_iload_n hX dX6_holds_57 1 rfl rfl ?_
        refine zz_imul (z := nI (48 * i)) hX dX6_holds_58 (pk_mul _ _) ?_
        refine zz_iload_n hX dX6_holds_59 2 rfl rfl ?_
        refine zz_iadd (z := nI (48 * i + (zv_sk S i))) hX dX6_holds_60 (nI_add _ _) ?_
        refine zz_aload_n hX dX6_holds_61 0 rfl rfl ?_
        refine zz_getR (y := 123) hX zf_F_X6_65.r hM.1 rfl (zM_r23 hM).1 dX6_holds_62 ?_
        refine zz_bipush (v := nI 48) hX dX6_holds_65 rfl ?_
        refine zz_iload_n hX dX6_holds_67 1 rfl rfl ?_
        refine zz_imul (z := nI (48 * i)) hX dX6_holds_68 (pk_mul _ _) ?_
        refine zz_iload_n hX dX6_holds_69 2 rfl rfl ?_
        refine zz_iadd (z := nI (48 * i + (zv_sk S i))) hX dX6_holds_70 (nI_add _ _) ?_
        refine zz_iconst (v := nI 1) hX dX6_holds_71 rfl ?_
        refine zz_isub (z := nI ((48 * i + (zv_sk S i)) - 1)) hX dX6_holds_72 (pk_sub (by omega)) ?_
        refine zz_iald (x := S 23 (48 * i + (zv_sk S i - 1))) hX (zM_r23 hM).2 ((48 * i + (zv_sk S i)) - 1) rfl (by omega) (by decide) ((by rw [show (48 * i + (zv_sk S i)) - 1 = 48 * i + (zv_sk S i - 1) by omega]; exact (zM_v23 hMj (k := 48 * i + (zv_sk S i - 1)) (by omega)).trans (congrFun (hTr 23 (by decide)) _))) dX6_holds_73 ?_
        refine zz_iast hX (zM_r23 hM).2 (48 * i + (zv_sk S i)) rfl (by omega) (by decide) dX6_holds_74 ?_
        refine zz_vret hX hr (Nat.le_of_ble_eq_true rfl) (Nat.le_of_ble_eq_true rfl) dX6_holds_75 ?_
        exact ⟨rfl, rfl, rfl, by unfold zt_hold; rw [zt_h2_hj]; exact zM_set (r := 23) hMj (by decide), zr_fr hSj (by unfold zr_m1; omega)⟩
      · skip
        refine zz_aload_n hX dX6_holds_17 0 rfl rfl ?_
        refine zz_getR (y := 122) hX zf_F_X6_62.r hM.1 rfl (zM_r22 hM).1 dX6_holds_18 ?_
        refine zz_aload_n hX dX6_holds_21 0 rfl rfl ?_
        refine zz_iload_n hX dX6_holds_22 1 rfl rfl ?_
        refine zz_iload_n hX dX6_holds_23 3 rfl rfl ?_
        refine zz_vI (x := nI (48 * (6 * i + j))) hX zf_M_X6_127 (As := [.int (nI i), .int (nI j)]) (st := [.ref 122]) (m_row sh mj mr i j) hM.1 rfl rfl rfl (by decide) (Nat.le_of_ble_eq_true rfl) (Nat.le_of_ble_eq_true rfl) (Nat.le_of_ble_eq_true rfl) dX6_holds_24 ?_
        refine zz_iload_n hX dX6_holds_27 2 rfl rfl ?_
        refine zz_iadd (z := nI (48 * (6 * i + j) + (zv_sk S i))) hX dX6_holds_28 (nI_add _ _) ?_
        refine zz_aload_n hX dX6_holds_29 0 rfl rfl ?_
        refine zz_getR (y := 122) hX zf_F_X6_62.r hM.1 rfl (zM_r22 hM).1 dX6_holds_30 ?_
        refine zz_aload_n hX dX6_holds_33 0 rfl rfl ?_
        refine zz_iload_n hX dX6_holds_34 1 rfl rfl ?_
        refine zz_iload_n hX dX6_holds_35 3 rfl rfl ?_
        refine zz_vI (x := nI (48 * (6 * i + j))) hX zf_M_X6_127 (As := [.int (nI i), .int (nI j)]) (st := [.ref 122, .int (nI (48 * (6 * i + j) + (zv_sk S i))), .ref 122]) (m_row sh mj mr i j) hM.1 rfl rfl rfl (by decide) (Nat.le_of_ble_eq_true rfl) (Nat.le_of_ble_eq_true rfl) (Nat.le_of_ble_eq_true rfl) dX6_holds_36 ?_
        refine zz_iload_n hX dX6_holds_39 2 rfl rfl ?_
        refine zz_iadd (z := nI (48 * (6 * i + j) + (zv_sk S i))) hX dX6_holds_40 (nI_add _ _) ?_
        refine zz_iconst (v := nI 1) hX dX6_holds_41 rfl ?_
        refine zz_isub (z := nI ((48 * (6 * i + j) + (zv_sk S i)) - 1)) hX dX6_holds_42 (pk_sub (by omega)) ?_
        refine zz_iald (x := S 22 (48 * (6 * i + j) + (zv_sk S i - 1))) hX (zM_r22 hM).2 ((48 * (6 * i + j) + (zv_sk S i)) - 1) rfl (by omega) (by decide) ((by rw [show (48 * (6 * i + j) + (zv_sk S i)) - 1 = 48 * (6 * i + j) + (zv_sk S i - 1) by omega]; exact (zM_v22 hMj (k := 48 * (6 * i + j) + (zv_sk S i - 1)) (by omega)).trans (zt_h2_22 S i (zv_sk S i) j (fun q hq => by omega)))) dX6_holds_43 ?_
        refine zz_iast hX (zM_r22 hM).2 (48 * (6 * i + j) + (zv_sk S i)) rfl (by omega) (by decide) dX6_holds_44 ?_
        refine zz_iinc (v := nI (j + 1)) (ls' := [(0, .ref 1), (1, .int (nI i)), (2, .int (nI (zv_sk S i))), (3, .int (nI (j + 1)))]) hX dX6_holds_45 3 rfl (nI_1 _) (Nat.le_of_ble_eq_true rfl) rfl ?_
        refine zz_goto hX 2 dX6_holds_48 (by decide) ?_
        have hMn : zM (zt_h2 S i (zv_sk S i) (j + 1)) sh (zm_u2 mj 122 (48 * (6 * i + j) + (zv_sk S i)) (S 22 (48 * (6 * i + j) + (zv_sk S i - 1)))) mr := zM_set (r := 22) hMj (by decide)
        exact ih2 (j + 1) (zm_u2 mj 122 (48 * (6 * i + j) + (zv_sk S i)) (S 22 (48 * (6 * i + j) + (zv_sk S i - 1)))) (by omega) (by omega) hMn (zr_fr hSj (by unfold zr_m1; omega))
  exact L2 ((zv_jn S (zv_pu S i) - 0 + 1)) 0 mi (by omega) (Nat.zero_le _) hM zr_same.rfl'

