/-! ===== the law's wrappers: what is thrown is caught and told by a number ===== -/
theorem zw_cast_I : Cond.castable zx_I zx_I ∈ lw_tbl := (List.mem_of_getElem? (i := 277) (by decide +kernel))
theorem zw_cast_A : Cond.castable zx_A zx_A ∈ lw_tbl := (List.mem_of_getElem? (i := 158) (by decide +kernel))
theorem zw_cast_S : Cond.castable zx_S zx_S ∈ lw_tbl := (List.mem_of_getElem? (i := 226) (by decide +kernel))
theorem zk_nc_IA : (zx_I, zx_A) ∈ zk_nc := by decide +kernel
theorem zk_nc_IS : (zx_I, zx_S) ∈ zk_nc := by decide +kernel
theorem zk_nc_AI : (zx_A, zx_I) ∈ zk_nc := by decide +kernel
theorem zk_nc_AS : (zx_A, zx_S) ∈ zk_nc := by decide +kernel
theorem zk_nc_SI : (zx_S, zx_I) ∈ zk_nc := by decide +kernel
theorem zk_nc_SA : (zx_S, zx_A) ∈ zk_nc := by decide +kernel
theorem W_puppet (S : zS) (sh : zm_Sh) (mi : zm_Mi) (mr : zm_Mr) (hW : zW S) (hR : zR S sh mi mr) (h8 : sh 8 = some (3, 1)) (x : Int32) : zz_Con yL_puppet (.codeWith yL_puppet cL_puppet 4 (some Jvm.ClassFile.FieldType.int) [((0 : Nat), (9 : Nat), (12 : Nat), (13 : Nat)), ((0 : Nat), (9 : Nat), (15 : Nat), (15 : Nat))]) 11 10 60 [.ref 2, .int x, .ref 8] sh mi mr (zq_w (True) ((nI 1 ≤ x ∧ x ≤ nI 6)) ((zv_np S < 5)) (nI 0) (nI 1) (nI 2) (nI (zv_np S)) S (zt_puppet S x) sh mi mr) zz_none := by
  refine zz_beginH RL [(0, .ref 2), (1, .int x), (2, .ref 8)] (by decide) rfl rfl (Nat.le_of_ble_eq_true rfl) rfl ?_
  intro Γ D E ad hX hr hT
  refine zz_aload_n hX dL_puppet_0 2 rfl rfl ?_
  refine zz_iconst (v := nI 0) hX dL_puppet_1 rfl ?_
  refine zz_aload_n hX dL_puppet_2 0 rfl rfl ?_
  refine zz_iload_n hX dL_puppet_3 1 rfl rfl ?_
  refine zz_callV hX zf_M_L_7 (As := [.int x]) (st := [.int (nI 0), .ref 8]) (P_puppet S sh mi mr hW hR x ) hR.1.1 rfl rfl rfl (by decide) (Nat.le_of_ble_eq_true rfl) (Nat.le_of_ble_eq_true rfl) (Nat.le_of_ble_eq_true rfl) dL_puppet_4 ?_ ?_
  rotate_left
  · rintro e9 s9 i9 m9 ⟨hq, e2, e3, e4⟩ -
    obtain rfl := e2.symm
    obtain rfl := e3.symm
    obtain rfl := e4.symm
    rcases hq with ⟨rfl, q1⟩ | ⟨rfl, q1, q2⟩ | ⟨rfl, q1, q2, q3⟩
    · exact absurd trivial q1
    · refine zz_catch hX (pre := []) (suf := [((0 : Nat), (9 : Nat), (15 : Nat), (15 : Nat))]) (a := 0) (b := 9) (h9 := 12) (k := 13) (i := 3) (len := 1) hT rfl (fun _ h => nomatch h) (by decide) (by decide) zw_cl_L_13 zw_cast_A (Or.inl ⟨3, rfl, dL_puppet_12, rfl⟩) (Nat.le_of_ble_eq_true rfl) ?_
      refine zz_iconst (v := nI 1) hX dL_puppet_13 rfl ?_
      exact zz_iret hX hr rfl (Nat.le_of_ble_eq_true rfl) (Nat.le_of_ble_eq_true rfl) dL_puppet_14 ⟨_, rfl, Or.inr (Or.inr (Or.inl ⟨q1, q2, rfl, hR⟩)), h8, fun l hl => ⟨rfl, rfl, rfl⟩⟩
    · refine zz_catch hX (pre := [((0 : Nat), (9 : Nat), (12 : Nat), (13 : Nat))]) (suf := []) (a := 0) (b := 9) (h9 := 15) (k := 15) (i := 3) (len := 1) hT rfl (List.forall_mem_cons.mpr ⟨⟨zx_A, (by decide), zw_cl_L_13, zk_nc_SA⟩, (fun _ h => nomatch h)⟩) (by decide) (by decide) zw_cl_L_15 zw_cast_S (Or.inl ⟨3, rfl, dL_puppet_15, rfl⟩) (Nat.le_of_ble_eq_true rfl) ?_
      refine zz_iconst (v := nI 2) hX dL_puppet_16 rfl ?_
      exact zz_iret hX hr rfl (Nat.le_of_ble_eq_true rfl) (Nat.le_of_ble_eq_true rfl) dL_puppet_17 ⟨_, rfl, Or.inr (Or.inr (Or.inr ⟨q1, q2, q3, rfl, hR⟩)), h8, fun l hl => ⟨rfl, rfl, rfl⟩⟩
  rintro v9 s9 i9 m9 ⟨⟨hA, hB, hC⟩, e1, hR9, hS9⟩ -
  obtain rfl := e1.symm
  have h89 : s9 8 = some (3, 1) := (hS9 8 (Or.inr ⟨by decide, by decide⟩)).1.trans h8
  have hW9 := U_puppet hW x  hA hB hC
  refine zz_i2l hX dL_puppet_7 ?_
  refine zz_last hX h89 0 (x := nI (zv_np S)) rfl rfl (by decide) (by decide) dL_puppet_8 ?_
  refine zz_goto hX 18 dL_puppet_9 rfl ?_
  refine zz_iconst (v := nI 0) hX dL_puppet_18 rfl ?_
  exact zz_iret hX hr rfl (Nat.le_of_ble_eq_true rfl) (Nat.le_of_ble_eq_true rfl) dL_puppet_19 ⟨_, rfl, Or.inl ⟨hA, hB, hC, rfl, zm_u2s, zR_same hW9 hR9 (fun l hl => ⟨rfl, zm_u2r (by unfold zr_cl at hl; omega), rfl⟩)⟩, h89, fun l hl => ⟨(hS9 l (by unfold zr_out; omega)).1, (zm_u2r (by omega)).trans (hS9 l (by unfold zr_out; omega)).2.1, (hS9 l (by unfold zr_out; omega)).2.2⟩⟩
theorem W_mouths (S : zS) (sh : zm_Sh) (mi : zm_Mi) (mr : zm_Mr) (hW : zW S) (hR : zR S sh mi mr) (h8 : sh 8 = some (3, 1)) (px s n : Int32) : zz_Con yL_mouths (.codeWith yL_mouths cL_mouths 6 (some Jvm.ClassFile.FieldType.int) [((0 : Nat), (12 : Nat), (15 : Nat), (21 : Nat)), ((0 : Nat), (12 : Nat), (19 : Nat), (13 : Nat)), ((0 : Nat), (12 : Nat), (23 : Nat), (15 : Nat))]) 11 10 60 [.ref 2, .int px, .int s, .int n, .ref 8] sh mi mr (zq_w ((zs_ix px (zv_np S))) ((nI 0 ≤ s ∧ s ≤ nI 9) ∧ (nI 1 ≤ n ∧ n ≤ nI 9)) ((S 4 (10 * zn px + zn s) + n ≤ nI 9)) (nI 1) (nI 2) (nI 3) (S 4 (10 * zn px + zn s) + n) S ((zm_u2 S 4 (10 * zn px + zn s) (S 4 (10 * zn px + zn s) + n))) sh mi mr) zz_none := by
  refine zz_beginH RL [(0, .ref 2), (1, .int px), (2, .int s), (3, .int n), (4, .ref 8)] (by decide) rfl rfl (Nat.le_of_ble_eq_true rfl) rfl ?_
  intro Γ D E ad hX hr hT
  refine zz_aload hX dL_mouths_0 4 rfl ?_
  refine zz_iconst (v := nI 0) hX dL_mouths_2 rfl ?_
  refine zz_aload_n hX dL_mouths_3 0 rfl rfl ?_
  refine zz_iload_n hX dL_mouths_4 1 rfl rfl ?_
  refine zz_iload_n hX dL_mouths_5 2 rfl rfl ?_
  refine zz_iload_n hX dL_mouths_6 3 rfl rfl ?_
  refine zz_callV hX zf_M_L_17 (As := [.int px, .int s, .int n]) (st := [.int (nI 0), .ref 8]) (P_mouths S sh mi mr hW hR px s n ) hR.1.1 rfl rfl rfl (by decide) (Nat.le_of_ble_eq_true rfl) (Nat.le_of_ble_eq_true rfl) (Nat.le_of_ble_eq_true rfl) dL_mouths_7 ?_ ?_
  rotate_left
  · rintro e9 s9 i9 m9 ⟨hq, e2, e3, e4⟩ -
    obtain rfl := e2.symm
    obtain rfl := e3.symm
    obtain rfl := e4.symm
    rcases hq with ⟨rfl, q1⟩ | ⟨rfl, q1, q2⟩ | ⟨rfl, q1, q2, q3⟩
    · refine zz_catch hX (pre := []) (suf := [((0 : Nat), (12 : Nat), (19 : Nat), (13 : Nat)), ((0 : Nat), (12 : Nat), (23 : Nat), (15 : Nat))]) (a := 0) (b := 12) (h9 := 15) (k := 21) (i := 5) (len := 2) hT rfl (fun _ h => nomatch h) (by decide) (by decide) zw_cl_L_21 zw_cast_I (Or.inr ⟨dL_mouths_15, rfl⟩) (Nat.le_of_ble_eq_true rfl) ?_
      refine zz_iconst (v := nI 1) hX dL_mouths_17 rfl ?_
      exact zz_iret hX hr rfl (Nat.le_of_ble_eq_true rfl) (Nat.le_of_ble_eq_true rfl) dL_mouths_18 ⟨_, rfl, Or.inr (Or.inl ⟨q1, rfl, hR⟩), h8, fun l hl => ⟨rfl, rfl, rfl⟩⟩
    · refine zz_catch hX (pre := [((0 : Nat), (12 : Nat), (15 : Nat), (21 : Nat))]) (suf := [((0 : Nat), (12 : Nat), (23 : Nat), (15 : Nat))]) (a := 0) (b := 12) (h9 := 19) (k := 13) (i := 5) (len := 2) hT rfl (List.forall_mem_cons.mpr ⟨⟨zx_I, (by decide), zw_cl_L_21, zk_nc_AI⟩, (fun _ h => nomatch h)⟩) (by decide) (by decide) zw_cl_L_13 zw_cast_A (Or.inr ⟨dL_mouths_19, rfl⟩) (Nat.le_of_ble_eq_true rfl) ?_
      refine zz_iconst (v := nI 2) hX dL_mouths_21 rfl ?_
      exact zz_iret hX hr rfl (Nat.le_of_ble_eq_true rfl) (Nat.le_of_ble_eq_true rfl) dL_mouths_22 ⟨_, rfl, Or.inr (Or.inr (Or.inl ⟨q1, q2, rfl, hR⟩)), h8, fun l hl => ⟨rfl, rfl, rfl⟩⟩
    · refine zz_catch hX (pre := [((0 : Nat), (12 : Nat), (15 : Nat), (21 : Nat)), ((0 : Nat), (12 : Nat), (19 : Nat), (13 : Nat))]) (suf := []) (a := 0) (b := 12) (h9 := 23) (k := 15) (i := 5) (len := 2) hT rfl (List.forall_mem_cons.mpr ⟨⟨zx_I, (by decide), zw_cl_L_21, zk_nc_SI⟩, (List.forall_mem_cons.mpr ⟨⟨zx_A, (by decide), zw_cl_L_13, zk_nc_SA⟩, (fun _ h => nomatch h)⟩)⟩) (by decide) (by decide) zw_cl_L_15 zw_cast_S (Or.inr ⟨dL_mouths_23, rfl⟩) (Nat.le_of_ble_eq_true rfl) ?_
      refine zz_iconst (v := nI 3) hX dL_mouths_25 rfl ?_
      exact zz_iret hX hr rfl (Nat.le_of_ble_eq_true rfl) (Nat.le_of_ble_eq_true rfl) dL_mouths_26 ⟨_, rfl, Or.inr (Or.inr (Or.inr ⟨q1, q2, q3, rfl, hR⟩)), h8, fun l hl => ⟨rfl, rfl, rfl⟩⟩
  rintro v9 s9 i9 m9 ⟨⟨hA, hB, hC⟩, e1, hR9, hS9⟩ -
  obtain rfl := e1.symm
  have h89 : s9 8 = some (3, 1) := (hS9 8 (Or.inr ⟨by decide, by decide⟩)).1.trans h8
  have hW9 := U_mouths hW px s n  hA hB hC
  refine zz_i2l hX dL_mouths_10 ?_
  refine zz_last hX h89 0 (x := S 4 (10 * zn px + zn s) + n) rfl rfl (by decide) (by decide) dL_mouths_11 ?_
  refine zz_goto hX 27 dL_mouths_12 rfl ?_
  refine zz_iconst (v := nI 0) hX dL_mouths_27 rfl ?_
  exact zz_iret hX hr rfl (Nat.le_of_ble_eq_true rfl) (Nat.le_of_ble_eq_true rfl) dL_mouths_28 ⟨_, rfl, Or.inl ⟨hA, hB, hC, rfl, zm_u2s, zR_same hW9 hR9 (fun l hl => ⟨rfl, zm_u2r (by unfold zr_cl at hl; omega), rfl⟩)⟩, h89, fun l hl => ⟨(hS9 l (by unfold zr_out; omega)).1, (zm_u2r (by omega)).trans (hS9 l (by unfold zr_out; omega)).2.1, (hS9 l (by unfold zr_out; omega)).2.2⟩⟩
theorem W_sound (S : zS) (sh : zm_Sh) (mi : zm_Mi) (mr : zm_Mr) (hW : zW S) (hR : zR S sh mi mr) (h8 : sh 8 = some (3, 1)) (x f : Int32) : zz_Con yL_sound (.codeWith yL_sound cL_sound 5 (some Jvm.ClassFile.FieldType.int) [((0 : Nat), (10 : Nat), (13 : Nat), (13 : Nat)), ((0 : Nat), (10 : Nat), (17 : Nat), (15 : Nat))]) 11 10 60 [.ref 2, .int x, .int f, .ref 8] sh mi mr (zq_w (True) ((nI 0 ≤ x ∧ x ≤ nI 9) ∧ (nI 1 ≤ f ∧ f ≤ nI 24)) ((zv_sc S (zv_nv S) < 12)) (nI 0) (nI 1) (nI 2) (nI (zv_sc S (zv_nv S) + 1)) S (zt_sound S x f) sh mi mr) zz_none := by
  refine zz_beginH RL [(0, .ref 2), (1, .int x), (2, .int f), (3, .ref 8)] (by decide) rfl rfl (Nat.le_of_ble_eq_true rfl) rfl ?_
  intro Γ D E ad hX hr hT
  refine zz_aload_n hX dL_sound_0 3 rfl rfl ?_
  refine zz_iconst (v := nI 0) hX dL_sound_1 rfl ?_
  refine zz_aload_n hX dL_sound_2 0 rfl rfl ?_
  refine zz_iload_n hX dL_sound_3 1 rfl rfl ?_
  refine zz_iload_n hX dL_sound_4 2 rfl rfl ?_
  refine zz_callV hX zf_M_L_23 (As := [.int x, .int f]) (st := [.int (nI 0), .ref 8]) (P_sound S sh mi mr hW hR x f ) hR.1.1 rfl rfl rfl (by decide) (Nat.le_of_ble_eq_true rfl) (Nat.le_of_ble_eq_true rfl) (Nat.le_of_ble_eq_true rfl) dL_sound_5 ?_ ?_
  rotate_left
  · rintro e9 s9 i9 m9 ⟨hq, e2, e3, e4⟩ -
    obtain rfl := e2.symm
    obtain rfl := e3.symm
    obtain rfl := e4.symm
    rcases hq with ⟨rfl, q1⟩ | ⟨rfl, q1, q2⟩ | ⟨rfl, q1, q2, q3⟩
    · exact absurd trivial q1
    · refine zz_catch hX (pre := []) (suf := [((0 : Nat), (10 : Nat), (17 : Nat), (15 : Nat))]) (a := 0) (b := 10) (h9 := 13) (k := 13) (i := 4) (len := 2) hT rfl (fun _ h => nomatch h) (by decide) (by decide) zw_cl_L_13 zw_cast_A (Or.inr ⟨dL_sound_13, rfl⟩) (Nat.le_of_ble_eq_true rfl) ?_
      refine zz_iconst (v := nI 1) hX dL_sound_15 rfl ?_
      exact zz_iret hX hr rfl (Nat.le_of_ble_eq_true rfl) (Nat.le_of_ble_eq_true rfl) dL_sound_16 ⟨_, rfl, Or.inr (Or.inr (Or.inl ⟨q1, q2, rfl, hR⟩)), h8, fun l hl => ⟨rfl, rfl, rfl⟩⟩
    · refine zz_catch hX (pre := [((0 : Nat), (10 : Nat), (13 : Nat), (13 : Nat))]) (suf := []) (a := 0) (b := 10) (h9 := 17) (k := 15) (i := 4) (len := 2) hT rfl (List.forall_mem_cons.mpr ⟨⟨zx_A, (by decide), zw_cl_L_13, zk_nc_SA⟩, (fun _ h => nomatch h)⟩) (by decide) (by decide) zw_cl_L_15 zw_cast_S (Or.inr ⟨dL_sound_17, rfl⟩) (Nat.le_of_ble_eq_true rfl) ?_
      refine zz_iconst (v := nI 2) hX dL_sound_19 rfl ?_
      exact zz_iret hX hr rfl (Nat.le_of_ble_eq_true rfl) (Nat.le_of_ble_eq_true rfl) dL_sound_20 ⟨_, rfl, Or.inr (Or.inr (Or.inr ⟨q1, q2, q3, rfl, hR⟩)), h8, fun l hl => ⟨rfl, rfl, rfl⟩⟩
  rintro v9 s9 i9 m9 ⟨⟨hA, hB, hC⟩, e1, hR9, hS9⟩ -
  obtain rfl := e1.symm
  have h89 : s9 8 = some (3, 1) := (hS9 8 (Or.inr ⟨by decide, by decide⟩)).1.trans h8
  have hW9 := U_sound hW x f  hA hB hC
  refine zz_i2l hX dL_sound_8 ?_
  refine zz_last hX h89 0 (x := nI (zv_sc S (zv_nv S) + 1)) rfl rfl (by decide) (by decide) dL_sound_9 ?_
  refine zz_goto hX 21 dL_sound_10 rfl ?_
  refine zz_iconst (v := nI 0) hX dL_sound_21 rfl ?_
  exact zz_iret hX hr rfl (Nat.le_of_ble_eq_true rfl) (Nat.le_of_ble_eq_true rfl) dL_sound_22 ⟨_, rfl, Or.inl ⟨hA, hB, hC, rfl, zm_u2s, zR_same hW9 hR9 (fun l hl => ⟨rfl, zm_u2r (by unfold zr_cl at hl; omega), rfl⟩)⟩, h89, fun l hl => ⟨(hS9 l (by unfold zr_out; omega)).1, (zm_u2r (by omega)).trans (hS9 l (by unfold zr_out; omega)).2.1, (hS9 l (by unfold zr_out; omega)).2.2⟩⟩
theorem W_voice (S : zS) (sh : zm_Sh) (mi : zm_Mi) (mr : zm_Mr) (hW : zW S) (hR : zR S sh mi mr) (h8 : sh 8 = some (3, 1))  : zz_Con yL_voice (.codeWith yL_voice cL_voice 3 (some Jvm.ClassFile.FieldType.int) [((0 : Nat), (8 : Nat), (11 : Nat), (15 : Nat))]) 11 10 60 [.ref 2, .ref 8] sh mi mr (zq_w (True) (True) ((¬ zv_sc S (zv_nv S) = 0) ∧ (zv_nv S < 6)) (nI 0) (nI 0) (nI 1) (nI (zv_nv S)) S (zt_voice S) sh mi mr) zz_none := by
  refine zz_beginH RL [(0, .ref 2), (1, .ref 8)] (by decide) rfl rfl (Nat.le_of_ble_eq_true rfl) rfl ?_
  intro Γ D E ad hX hr hT
  refine zz_aload_n hX dL_voice_0 1 rfl rfl ?_
  refine zz_iconst (v := nI 0) hX dL_voice_1 rfl ?_
  refine zz_aload_n hX dL_voice_2 0 rfl rfl ?_
  refine zz_callV hX zf_M_L_27 (As := []) (st := [.int (nI 0), .ref 8]) (P_voice S sh mi mr hW hR  ) hR.1.1 rfl rfl rfl (by decide) (Nat.le_of_ble_eq_true rfl) (Nat.le_of_ble_eq_true rfl) (Nat.le_of_ble_eq_true rfl) dL_voice_3 ?_ ?_
  rotate_left
  · rintro e9 s9 i9 m9 ⟨hq, e2, e3, e4⟩ -
    obtain rfl := e2.symm
    obtain rfl := e3.symm
    obtain rfl := e4.symm
    rcases hq with ⟨rfl, q1⟩ | ⟨rfl, q1, q2⟩ | ⟨rfl, q1, q2, q3⟩
    · exact absurd trivial q1
    · exact absurd trivial q2
    · refine zz_catch hX (pre := []) (suf := []) (a := 0) (b := 8) (h9 := 11) (k := 15) (i := 2) (len := 1) hT rfl (fun _ h => nomatch h) (by decide) (by decide) zw_cl_L_15 zw_cast_S (Or.inl ⟨2, rfl, dL_voice_11, rfl⟩) (Nat.le_of_ble_eq_true rfl) ?_
      refine zz_iconst (v := nI 1) hX dL_voice_12 rfl ?_
      exact zz_iret hX hr rfl (Nat.le_of_ble_eq_true rfl) (Nat.le_of_ble_eq_true rfl) dL_voice_13 ⟨_, rfl, Or.inr (Or.inr (Or.inr ⟨q1, q2, q3, rfl, hR⟩)), h8, fun l hl => ⟨rfl, rfl, rfl⟩⟩
  rintro v9 s9 i9 m9 ⟨⟨hA, hB, hC⟩, e1, hR9, hS9⟩ -
  obtain rfl := e1.symm
  have h89 : s9 8 = some (3, 1) := (hS9 8 (Or.inr ⟨by decide, by decide⟩)).1.trans h8
  have hW9 := U_voice hW   hA hB hC
  refine zz_i2l hX dL_voice_6 ?_
  refine zz_last hX h89 0 (x := nI (zv_nv S)) rfl rfl (by decide) (by decide) dL_voice_7 ?_
  refine zz_goto hX 14 dL_voice_8 rfl ?_
  refine zz_iconst (v := nI 0) hX dL_voice_14 rfl ?_
  exact zz_iret hX hr rfl (Nat.le_of_ble_eq_true rfl) (Nat.le_of_ble_eq_true rfl) dL_voice_15 ⟨_, rfl, Or.inl ⟨hA, hB, hC, rfl, zm_u2s, zR_same hW9 hR9 (fun l hl => ⟨rfl, zm_u2r (by unfold zr_cl at hl; omega), rfl⟩)⟩, h89, fun l hl => ⟨(hS9 l (by unfold zr_out; omega)).1, (zm_u2r (by omega)).trans (hS9 l (by unfold zr_out; omega)).2.1, (hS9 l (by unfold zr_out; omega)).2.2⟩⟩
theorem W_shot (S : zS) (sh : zm_Sh) (mi : zm_Mi) (mr : zm_Mr) (hW : zW S) (hR : zR S sh mi mr) (h8 : sh 8 = some (3, 1)) (px nx tx v : Int32) : zz_Con yL_shot (.codeWith yL_shot cL_shot 7 (some Jvm.ClassFile.FieldType.int) [((0 : Nat), (14 : Nat), (17 : Nat), (21 : Nat)), ((0 : Nat), (14 : Nat), (21 : Nat), (13 : Nat)), ((0 : Nat), (14 : Nat), (25 : Nat), (15 : Nat))]) 11 50 1400 [.ref 2, .int px, .int nx, .int tx, .int v, .ref 8] sh mi mr (zq_w ((zs_ix px (zv_np S)) ∧ (v = -1 ∨ zs_ix v (zv_nv S))) ((nI 1 ≤ nx ∧ nx ≤ nI 48) ∧ (nI 1 ≤ tx ∧ tx ≤ nI 2)) ((zv_ns S < 8)) (nI 1) (nI 2) (nI 3) (nI (zv_ns S)) S (zt_shot S px nx tx v) sh mi mr) zz_none := by
  refine zz_beginH RL [(0, .ref 2), (1, .int px), (2, .int nx), (3, .int tx), (4, .int v), (5, .ref 8)] (by decide) rfl rfl (Nat.le_of_ble_eq_true rfl) rfl ?_
  intro Γ D E ad hX hr hT
  refine zz_aload hX dL_shot_0 5 rfl ?_
  refine zz_iconst (v := nI 0) hX dL_shot_2 rfl ?_
  refine zz_aload_n hX dL_shot_3 0 rfl rfl ?_
  refine zz_iload_n hX dL_shot_4 1 rfl rfl ?_
  refine zz_iload_n hX dL_shot_5 2 rfl rfl ?_
  refine zz_iload_n hX dL_shot_6 3 rfl rfl ?_
  refine zz_iload hX dL_shot_7 4 rfl ?_
  refine zz_callV hX zf_M_L_31 (As := [.int px, .int nx, .int tx, .int v]) (st := [.int (nI 0), .ref 8]) (P_shot S sh mi mr hW hR px nx tx v ) hR.1.1 rfl rfl rfl (by decide) (Nat.le_of_ble_eq_true rfl) (Nat.le_of_ble_eq_true rfl) (Nat.le_of_ble_eq_true rfl) dL_shot_9 ?_ ?_
  rotate_left
  · rintro e9 s9 i9 m9 ⟨hq, e2, e3, e4⟩ -
    obtain rfl := e2.symm
    obtain rfl := e3.symm
    obtain rfl := e4.symm
    rcases hq with ⟨rfl, q1⟩ | ⟨rfl, q1, q2⟩ | ⟨rfl, q1, q2, q3⟩
    · refine zz_catch hX (pre := []) (suf := [((0 : Nat), (14 : Nat), (21 : Nat), (13 : Nat)), ((0 : Nat), (14 : Nat), (25 : Nat), (15 : Nat))]) (a := 0) (b := 14) (h9 := 17) (k := 21) (i := 6) (len := 2) hT rfl (fun _ h => nomatch h) (by decide) (by decide) zw_cl_L_21 zw_cast_I (Or.inr ⟨dL_shot_17, rfl⟩) (Nat.le_of_ble_eq_true rfl) ?_
      refine zz_iconst (v := nI 1) hX dL_shot_19 rfl ?_
      exact zz_iret hX hr rfl (Nat.le_of_ble_eq_true rfl) (Nat.le_of_ble_eq_true rfl) dL_shot_20 ⟨_, rfl, Or.inr (Or.inl ⟨q1, rfl, hR⟩), h8, fun l hl => ⟨rfl, rfl, rfl⟩⟩
    · refine zz_catch hX (pre := [((0 : Nat), (14 : Nat), (17 : Nat), (21 : Nat))]) (suf := [((0 : Nat), (14 : Nat), (25 : Nat), (15 : Nat))]) (a := 0) (b := 14) (h9 := 21) (k := 13) (i := 6) (len := 2) hT rfl (List.forall_mem_cons.mpr ⟨⟨zx_I, (by decide), zw_cl_L_21, zk_nc_AI⟩, (fun _ h => nomatch h)⟩) (by decide) (by decide) zw_cl_L_13 zw_cast_A (Or.inr ⟨dL_shot_21, rfl⟩) (Nat.le_of_ble_eq_true rfl) ?_
      refine zz_iconst (v := nI 2) hX dL_shot_23 rfl ?_
      exact zz_iret hX hr rfl (Nat.le_of_ble_eq_true rfl) (Nat.le_of_ble_eq_true rfl) dL_shot_24 ⟨_, rfl, Or.inr (Or.inr (Or.inl ⟨q1, q2, rfl, hR⟩)), h8, fun l hl => ⟨rfl, rfl, rfl⟩⟩
    · refine zz_catch hX (pre := [((0 : Nat), (14 : Nat), (17 : Nat), (21 : Nat)), ((0 : Nat), (14 : Nat), (21 : Nat), (13 : Nat))]) (suf := []) (a := 0) (b := 14) (h9 := 25) (k := 15) (i := 6) (len := 2) hT rfl (List.forall_mem_cons.mpr ⟨⟨zx_I, (by decide), zw_cl_L_21, zk_nc_SI⟩, (List.forall_mem_cons.mpr ⟨⟨zx_A, (by decide), zw_cl_L_13, zk_nc_SA⟩, (fun _ h => nomatch h)⟩)⟩) (by decide) (by decide) zw_cl_L_15 zw_cast_S (Or.inr ⟨dL_shot_25, rfl⟩) (Nat.le_of_ble_eq_true rfl) ?_
      refine zz_iconst (v := nI 3) hX dL_shot_27 rfl ?_
      exact zz_iret hX hr rfl (Nat.le_of_ble_eq_true rfl) (Nat.le_of_ble_eq_true rfl) dL_shot_28 ⟨_, rfl, Or.inr (Or.inr (Or.inr ⟨q1, q2, q3, rfl, hR⟩)), h8, fun l hl => ⟨rfl, rfl, rfl⟩⟩
  rintro v9 s9 i9 m9 ⟨⟨hA, hB, hC⟩, e1, hR9, hS9⟩ -
  obtain rfl := e1.symm
  have h89 : s9 8 = some (3, 1) := (hS9 8 (Or.inr ⟨by decide, by decide⟩)).1.trans h8
  have hW9 := U_shot hW px nx tx v  hA hB hC
  refine zz_i2l hX dL_shot_12 ?_
  refine zz_last hX h89 0 (x := nI (zv_ns S)) rfl rfl (by decide) (by decide) dL_shot_13 ?_
  refine zz_goto hX 29 dL_shot_14 rfl ?_
  refine zz_iconst (v := nI 0) hX dL_shot_29 rfl ?_
  exact zz_iret hX hr rfl (Nat.le_of_ble_eq_true rfl) (Nat.le_of_ble_eq_true rfl) dL_shot_30 ⟨_, rfl, Or.inl ⟨hA, hB, hC, rfl, zm_u2s, zR_same hW9 hR9 (fun l hl => ⟨rfl, zm_u2r (by unfold zr_cl at hl; omega), rfl⟩)⟩, h89, fun l hl => ⟨(hS9 l (by unfold zr_out; omega)).1, (zm_u2r (by omega)).trans (hS9 l (by unfold zr_out; omega)).2.1, (hS9 l (by unfold zr_out; omega)).2.2⟩⟩
theorem W_assign (S : zS) (sh : zm_Sh) (mi : zm_Mi) (mr : zm_Mr) (hW : zW S) (hR : zR S sh mi mr) (h8 : sh 8 = some (3, 1)) (s ax : Int32) : zz_Con yL_assign (.codeWith yL_assign cL_assign 5 (some Jvm.ClassFile.FieldType.int) [((0 : Nat), (10 : Nat), (13 : Nat), (21 : Nat)), ((0 : Nat), (10 : Nat), (17 : Nat), (15 : Nat))]) 11 10 60 [.ref 2, .int s, .int ax, .ref 8] sh mi mr (zq_w ((zs_ix s (zv_ns S)) ∧ (zs_ix ax 5)) (True) ((¬ zv_fr S (zn s) ≤ zv_sk S (zn s)) ∧ (0 < zv_sk S (zn s) → (¬ S 14 (zn s) = -1 ∧ ¬ S 17 (zn (S 14 (zn s))) = 0))) (nI 1) (nI 2) (nI 2) (S 14 (zn s)) S ((zm_u2 S 14 (zn s) (ax))) sh mi mr) zz_none := by
  refine zz_beginH RL [(0, .ref 2), (1, .int s), (2, .int ax), (3, .ref 8)] (by decide) rfl rfl (Nat.le_of_ble_eq_true rfl) rfl ?_
  intro Γ D E ad hX hr hT
  refine zz_aload_n hX dL_assign_0 3 rfl rfl ?_
  refine zz_iconst (v := nI 0) hX dL_assign_1 rfl ?_
  refine zz_aload_n hX dL_assign_2 0 rfl rfl ?_
  refine zz_iload_n hX dL_assign_3 1 rfl rfl ?_
  refine zz_iload_n hX dL_assign_4 2 rfl rfl ?_
  refine zz_callV hX zf_M_L_35 (As := [.int s, .int ax]) (st := [.int (nI 0), .ref 8]) (P_assign S sh mi mr hW hR s ax ) hR.1.1 rfl rfl rfl (by decide) (Nat.le_of_ble_eq_true rfl) (Nat.le_of_ble_eq_true rfl) (Nat.le_of_ble_eq_true rfl) dL_assign_5 ?_ ?_
  rotate_left
  · rintro e9 s9 i9 m9 ⟨hq, e2, e3, e4⟩ -
    obtain rfl := e2.symm
    obtain rfl := e3.symm
    obtain rfl := e4.symm
    rcases hq with ⟨rfl, q1⟩ | ⟨rfl, q1, q2⟩ | ⟨rfl, q1, q2, q3⟩
    · refine zz_catch hX (pre := []) (suf := [((0 : Nat), (10 : Nat), (17 : Nat), (15 : Nat))]) (a := 0) (b := 10) (h9 := 13) (k := 21) (i := 4) (len := 2) hT rfl (fun _ h => nomatch h) (by decide) (by decide) zw_cl_L_21 zw_cast_I (Or.inr ⟨dL_assign_13, rfl⟩) (Nat.le_of_ble_eq_true rfl) ?_
      refine zz_iconst (v := nI 1) hX dL_assign_15 rfl ?_
      exact zz_iret hX hr rfl (Nat.le_of_ble_eq_true rfl) (Nat.le_of_ble_eq_true rfl) dL_assign_16 ⟨_, rfl, Or.inr (Or.inl ⟨q1, rfl, hR⟩), h8, fun l hl => ⟨rfl, rfl, rfl⟩⟩
    · exact absurd trivial q2
    · refine zz_catch hX (pre := [((0 : Nat), (10 : Nat), (13 : Nat), (21 : Nat))]) (suf := []) (a := 0) (b := 10) (h9 := 17) (k := 15) (i := 4) (len := 2) hT rfl (List.forall_mem_cons.mpr ⟨⟨zx_I, (by decide), zw_cl_L_21, zk_nc_SI⟩, (fun _ h => nomatch h)⟩) (by decide) (by decide) zw_cl_L_15 zw_cast_S (Or.inr ⟨dL_assign_17, rfl⟩) (Nat.le_of_ble_eq_true rfl) ?_
      refine zz_iconst (v := nI 2) hX dL_assign_19 rfl ?_
      exact zz_iret hX hr rfl (Nat.le_of_ble_eq_true rfl) (Nat.le_of_ble_eq_true rfl) dL_assign_20 ⟨_, rfl, Or.inr (Or.inr (Or.inr ⟨q1, q2, q3, rfl, hR⟩)), h8, fun l hl => ⟨rfl, rfl, rfl⟩⟩
  rintro v9 s9 i9 m9 ⟨⟨hA, hB, hC⟩, e1, hR9, hS9⟩ -
  obtain rfl := e1.symm
  have h89 : s9 8 = some (3, 1) := (hS9 8 (Or.inr ⟨by decide, by decide⟩)).1.trans h8
  have hW9 := U_assign hW s ax  hA hB hC
  refine zz_i2l hX dL_assign_8 ?_
  refine zz_last hX h89 0 (x := S 14 (zn s)) rfl rfl (by decide) (by decide) dL_assign_9 ?_
  refine zz_goto hX 21 dL_assign_10 rfl ?_
  refine zz_iconst (v := nI 0) hX dL_assign_21 rfl ?_
  exact zz_iret hX hr rfl (Nat.le_of_ble_eq_true rfl) (Nat.le_of_ble_eq_true rfl) dL_assign_22 ⟨_, rfl, Or.inl ⟨hA, hB, hC, rfl, zm_u2s, zR_same hW9 hR9 (fun l hl => ⟨rfl, zm_u2r (by unfold zr_cl at hl; omega), rfl⟩)⟩, h89, fun l hl => ⟨(hS9 l (by unfold zr_out; omega)).1, (zm_u2r (by omega)).trans (hS9 l (by unfold zr_out; omega)).2.1, (hS9 l (by unfold zr_out; omega)).2.2⟩⟩
theorem W_ill (S : zS) (sh : zm_Sh) (mi : zm_Mi) (mr : zm_Mr) (hW : zW S) (hR : zR S sh mi mr) (h8 : sh 8 = some (3, 1)) (ax x : Int32) (hx : x = 0 ∨ x = 1) : zz_Con yL_ill (.codeWith yL_ill cL_ill 5 (some Jvm.ClassFile.FieldType.int) [((0 : Nat), (17 : Nat), (20 : Nat), (21 : Nat))]) 11 10 60 [.ref 2, .int ax, .int x, .ref 8] sh mi mr (zq_w ((zs_ix ax 5)) (True) (True) (nI 1) (nI 0) (nI 0) (S 17 (zn ax)) S ((zm_u2 S 17 (zn ax) (x))) sh mi mr) zz_none := by
  refine zz_beginH RL [(0, .ref 2), (1, .int ax), (2, .int x), (3, .ref 8)] (by decide) rfl rfl (Nat.le_of_ble_eq_true rfl) rfl ?_
  intro Γ D E ad hX hr hT
  refine zz_aload_n hX dL_ill_0 3 rfl rfl ?_
  refine zz_iconst (v := nI 0) hX dL_ill_1 rfl ?_
  refine zz_aload_n hX dL_ill_2 0 rfl rfl ?_
  refine zz_iload_n hX dL_ill_3 1 rfl rfl ?_
  refine zz_iload_n hX dL_ill_4 2 rfl rfl ?_
  refine zz_callV hX zf_M_L_38 (As := [.int ax, .int x]) (st := [.int (nI 0), .ref 8]) (P_ill S sh mi mr hW hR ax x hx) hR.1.1 rfl rfl rfl (by decide) (Nat.le_of_ble_eq_true rfl) (Nat.le_of_ble_eq_true rfl) (Nat.le_of_ble_eq_true rfl) dL_ill_5 ?_ ?_
  rotate_left
  · rintro e9 s9 i9 m9 ⟨hq, e2, e3, e4⟩ -
    obtain rfl := e2.symm
    obtain rfl := e3.symm
    obtain rfl := e4.symm
    rcases hq with ⟨rfl, q1⟩ | ⟨rfl, q1, q2⟩ | ⟨rfl, q1, q2, q3⟩
    · refine zz_catch hX (pre := []) (suf := []) (a := 0) (b := 17) (h9 := 20) (k := 21) (i := 4) (len := 2) hT rfl (fun _ h => nomatch h) (by decide) (by decide) zw_cl_L_21 zw_cast_I (Or.inr ⟨dL_ill_20, rfl⟩) (Nat.le_of_ble_eq_true rfl) ?_
      refine zz_iconst (v := nI 1) hX dL_ill_22 rfl ?_
      exact zz_iret hX hr rfl (Nat.le_of_ble_eq_true rfl) (Nat.le_of_ble_eq_true rfl) dL_ill_23 ⟨_, rfl, Or.inr (Or.inl ⟨q1, rfl, hR⟩), h8, fun l hl => ⟨rfl, rfl, rfl⟩⟩
    · exact absurd trivial q2
    · exact absurd trivial q3
  rintro v9 s9 i9 m9 ⟨⟨hA, hB, hC⟩, e1, hR9, hS9⟩ -
  obtain rfl := e1.symm
  have h89 : s9 8 = some (3, 1) := (hS9 8 (Or.inr ⟨by decide, by decide⟩)).1.trans h8
  have hW9 := U_ill hW ax x hx hA hB hC
  refine zz_if_eq hX 15 dL_ill_8 rfl (fun c => ?_) (fun c => ?_)
  · refine zz_lconst (v := 0) hX dL_ill_15 rfl ?_
    refine zz_last hX h89 0 (x := S 17 (zn ax)) (by rw [c]; rfl) rfl (by decide) (by decide) dL_ill_16 ?_
    refine zz_goto hX 24 dL_ill_17 rfl ?_
    refine zz_iconst (v := nI 0) hX dL_ill_24 rfl ?_
    exact zz_iret hX hr rfl (Nat.le_of_ble_eq_true rfl) (Nat.le_of_ble_eq_true rfl) dL_ill_25 ⟨_, rfl, Or.inl ⟨hA, hB, hC, rfl, zm_u2s, zR_same hW9 hR9 (fun l hl => ⟨rfl, zm_u2r (by unfold zr_cl at hl; omega), rfl⟩)⟩, h89, fun l hl => ⟨(hS9 l (by unfold zr_out; omega)).1, (zm_u2r (by omega)).trans (hS9 l (by unfold zr_out; omega)).2.1, (hS9 l (by unfold zr_out; omega)).2.2⟩⟩
  · refine zz_lconst (v := 1) hX dL_ill_11 rfl ?_
    refine zz_goto hX 16 dL_ill_12 rfl ?_
    refine zz_last hX h89 0 (x := S 17 (zn ax)) (by rw [(hW.2.2.2.2.2.2.2.2.2 _).resolve_left c]; rfl) rfl (by decide) (by decide) dL_ill_16 ?_
    refine zz_goto hX 24 dL_ill_17 rfl ?_
    refine zz_iconst (v := nI 0) hX dL_ill_24 rfl ?_
    exact zz_iret hX hr rfl (Nat.le_of_ble_eq_true rfl) (Nat.le_of_ble_eq_true rfl) dL_ill_25 ⟨_, rfl, Or.inl ⟨hA, hB, hC, rfl, zm_u2s, zR_same hW9 hR9 (fun l hl => ⟨rfl, zm_u2r (by unfold zr_cl at hl; omega), rfl⟩)⟩, h89, fun l hl => ⟨(hS9 l (by unfold zr_out; omega)).1, (zm_u2r (by omega)).trans (hS9 l (by unfold zr_out; omega)).2.1, (hS9 l (by unfold zr_out; omega)).2.2⟩⟩
theorem W_dub (S : zS) (sh : zm_Sh) (mi : zm_Mi) (mr : zm_Mr) (hW : zW S) (hR : zR S sh mi mr) (h8 : sh 8 = some (3, 1)) (s v : Int32) : zz_Con yL_dub (.codeWith yL_dub cL_dub 5 (some Jvm.ClassFile.FieldType.int) [((0 : Nat), (10 : Nat), (13 : Nat), (21 : Nat))]) 11 10 60 [.ref 2, .int s, .int v, .ref 8] sh mi mr (zq_w ((zs_ix s (zv_ns S)) ∧ (v = -1 ∨ zs_ix v (zv_nv S))) (True) (True) (nI 1) (nI 0) (nI 0) (S 13 (zn s)) S ((zm_u2 S 13 (zn s) (v))) sh mi mr) zz_none := by
  refine zz_beginH RL [(0, .ref 2), (1, .int s), (2, .int v), (3, .ref 8)] (by decide) rfl rfl (Nat.le_of_ble_eq_true rfl) rfl ?_
  intro Γ D E ad hX hr hT
  refine zz_aload_n hX dL_dub_0 3 rfl rfl ?_
  refine zz_iconst (v := nI 0) hX dL_dub_1 rfl ?_
  refine zz_aload_n hX dL_dub_2 0 rfl rfl ?_
  refine zz_iload_n hX dL_dub_3 1 rfl rfl ?_
  refine zz_iload_n hX dL_dub_4 2 rfl rfl ?_
  refine zz_callV hX zf_M_L_42 (As := [.int s, .int v]) (st := [.int (nI 0), .ref 8]) (P_dub S sh mi mr hW hR s v ) hR.1.1 rfl rfl rfl (by decide) (Nat.le_of_ble_eq_true rfl) (Nat.le_of_ble_eq_true rfl) (Nat.le_of_ble_eq_true rfl) dL_dub_5 ?_ ?_
  rotate_left
  · rintro e9 s9 i9 m9 ⟨hq, e2, e3, e4⟩ -
    obtain rfl := e2.symm
    obtain rfl := e3.symm
    obtain rfl := e4.symm
    rcases hq with ⟨rfl, q1⟩ | ⟨rfl, q1, q2⟩ | ⟨rfl, q1, q2, q3⟩
    · refine zz_catch hX (pre := []) (suf := []) (a := 0) (b := 10) (h9 := 13) (k := 21) (i := 4) (len := 2) hT rfl (fun _ h => nomatch h) (by decide) (by decide) zw_cl_L_21 zw_cast_I (Or.inr ⟨dL_dub_13, rfl⟩) (Nat.le_of_ble_eq_true rfl) ?_
      refine zz_iconst (v := nI 1) hX dL_dub_15 rfl ?_
      exact zz_iret hX hr rfl (Nat.le_of_ble_eq_true rfl) (Nat.le_of_ble_eq_true rfl) dL_dub_16 ⟨_, rfl, Or.inr (Or.inl ⟨q1, rfl, hR⟩), h8, fun l hl => ⟨rfl, rfl, rfl⟩⟩
    · exact absurd trivial q2
    · exact absurd trivial q3
  rintro v9 s9 i9 m9 ⟨⟨hA, hB, hC⟩, e1, hR9, hS9⟩ -
  obtain rfl := e1.symm
  have h89 : s9 8 = some (3, 1) := (hS9 8 (Or.inr ⟨by decide, by decide⟩)).1.trans h8
  have hW9 := U_dub hW s v  hA hB hC
  refine zz_i2l hX dL_dub_8 ?_
  refine zz_last hX h89 0 (x := S 13 (zn s)) rfl rfl (by decide) (by decide) dL_dub_9 ?_
  refine zz_goto hX 17 dL_dub_10 rfl ?_
  refine zz_iconst (v := nI 0) hX dL_dub_17 rfl ?_
  exact zz_iret hX hr rfl (Nat.le_of_ble_eq_true rfl) (Nat.le_of_ble_eq_true rfl) dL_dub_18 ⟨_, rfl, Or.inl ⟨hA, hB, hC, rfl, zm_u2s, zR_same hW9 hR9 (fun l hl => ⟨rfl, zm_u2r (by unfold zr_cl at hl; omega), rfl⟩)⟩, h89, fun l hl => ⟨(hS9 l (by unfold zr_out; omega)).1, (zm_u2r (by omega)).trans (hS9 l (by unfold zr_out; omega)).2.1, (hS9 l (by unfold zr_out; omega)).2.2⟩⟩
theorem W_key (S : zS) (sh : zm_Sh) (mi : zm_Mi) (mr : zm_Mr) (hW : zW S) (hR : zR S sh mi mr) (h8 : sh 8 = some (3, 1)) (s jx fx d : Int32) : zz_Con yL_key (.codeWith yL_key cL_key 7 (some Jvm.ClassFile.FieldType.int) [((0 : Nat), (14 : Nat), (17 : Nat), (21 : Nat)), ((0 : Nat), (14 : Nat), (21 : Nat), (13 : Nat)), ((0 : Nat), (14 : Nat), (25 : Nat), (15 : Nat))]) 11 10 60 [.ref 2, .int s, .int jx, .int fx, .int d, .ref 8] sh mi mr (zq_w ((zs_ix s (zv_ns S)) ∧ (zs_ix jx (zv_jn S (zv_pu S (zn s)))) ∧ (zs_ix fx (zv_fr S (zn s)))) ((nI 0 ≤ d ∧ d ≤ nI 359)) ((¬ fx < nI (zv_sk S (zn s))) ∧ (¬ zp_held S (zn s) (zn fx))) (nI 1) (nI 2) (nI 3) (zp_deg S (zn s) (zn jx) (zn fx)) S (zm_u2 S 18 (48 * (6 * zn s + zn jx) + zn fx) d) sh mi mr) zz_none := by
  refine zz_beginH RL [(0, .ref 2), (1, .int s), (2, .int jx), (3, .int fx), (4, .int d), (5, .ref 8)] (by decide) rfl rfl (Nat.le_of_ble_eq_true rfl) rfl ?_
  intro Γ D E ad hX hr hT
  refine zz_aload hX dL_key_0 5 rfl ?_
  refine zz_iconst (v := nI 0) hX dL_key_2 rfl ?_
  refine zz_aload_n hX dL_key_3 0 rfl rfl ?_
  refine zz_iload_n hX dL_key_4 1 rfl rfl ?_
  refine zz_iload_n hX dL_key_5 2 rfl rfl ?_
  refine zz_iload_n hX dL_key_6 3 rfl rfl ?_
  refine zz_iload hX dL_key_7 4 rfl ?_
  refine zz_callV hX zf_M_L_45 (As := [.int s, .int jx, .int fx, .int d]) (st := [.int (nI 0), .ref 8]) (P_key S sh mi mr hW hR s jx fx d ) hR.1.1 rfl rfl rfl (by decide) (Nat.le_of_ble_eq_true rfl) (Nat.le_of_ble_eq_true rfl) (Nat.le_of_ble_eq_true rfl) dL_key_9 ?_ ?_
  rotate_left
  · rintro e9 s9 i9 m9 ⟨hq, e2, e3, e4⟩ -
    obtain rfl := e2.symm
    obtain rfl := e3.symm
    obtain rfl := e4.symm
    rcases hq with ⟨rfl, q1⟩ | ⟨rfl, q1, q2⟩ | ⟨rfl, q1, q2, q3⟩
    · refine zz_catch hX (pre := []) (suf := [((0 : Nat), (14 : Nat), (21 : Nat), (13 : Nat)), ((0 : Nat), (14 : Nat), (25 : Nat), (15 : Nat))]) (a := 0) (b := 14) (h9 := 17) (k := 21) (i := 6) (len := 2) hT rfl (fun _ h => nomatch h) (by decide) (by decide) zw_cl_L_21 zw_cast_I (Or.inr ⟨dL_key_17, rfl⟩) (Nat.le_of_ble_eq_true rfl) ?_
      refine zz_iconst (v := nI 1) hX dL_key_19 rfl ?_
      exact zz_iret hX hr rfl (Nat.le_of_ble_eq_true rfl) (Nat.le_of_ble_eq_true rfl) dL_key_20 ⟨_, rfl, Or.inr (Or.inl ⟨q1, rfl, hR⟩), h8, fun l hl => ⟨rfl, rfl, rfl⟩⟩
    · refine zz_catch hX (pre := [((0 : Nat), (14 : Nat), (17 : Nat), (21 : Nat))]) (suf := [((0 : Nat), (14 : Nat), (25 : Nat), (15 : Nat))]) (a := 0) (b := 14) (h9 := 21) (k := 13) (i := 6) (len := 2) hT rfl (List.forall_mem_cons.mpr ⟨⟨zx_I, (by decide), zw_cl_L_21, zk_nc_AI⟩, (fun _ h => nomatch h)⟩) (by decide) (by decide) zw_cl_L_13 zw_cast_A (Or.inr ⟨dL_key_21, rfl⟩) (Nat.le_of_ble_eq_true rfl) ?_
      refine zz_iconst (v := nI 2) hX dL_key_23 rfl ?_
      exact zz_iret hX hr rfl (Nat.le_of_ble_eq_true rfl) (Nat.le_of_ble_eq_true rfl) dL_key_24 ⟨_, rfl, Or.inr (Or.inr (Or.inl ⟨q1, q2, rfl, hR⟩)), h8, fun l hl => ⟨rfl, rfl, rfl⟩⟩
    · refine zz_catch hX (pre := [((0 : Nat), (14 : Nat), (17 : Nat), (21 : Nat)), ((0 : Nat), (14 : Nat), (21 : Nat), (13 : Nat))]) (suf := []) (a := 0) (b := 14) (h9 := 25) (k := 15) (i := 6) (len := 2) hT rfl (List.forall_mem_cons.mpr ⟨⟨zx_I, (by decide), zw_cl_L_21, zk_nc_SI⟩, (List.forall_mem_cons.mpr ⟨⟨zx_A, (by decide), zw_cl_L_13, zk_nc_SA⟩, (fun _ h => nomatch h)⟩)⟩) (by decide) (by decide) zw_cl_L_15 zw_cast_S (Or.inr ⟨dL_key_25, rfl⟩) (Nat.le_of_ble_eq_true rfl) ?_
      refine zz_iconst (v := nI 3) hX dL_key_27 rfl ?_
      exact zz_iret hX hr rfl (Nat.le_of_ble_eq_true rfl) (Nat.le_of_ble_eq_true rfl) dL_key_28 ⟨_, rfl, Or.inr (Or.inr (Or.inr ⟨q1, q2, q3, rfl, hR⟩)), h8, fun l hl => ⟨rfl, rfl, rfl⟩⟩
  rintro v9 s9 i9 m9 ⟨⟨hA, hB, hC⟩, e1, hR9, hS9⟩ -
  obtain rfl := e1.symm
  have h89 : s9 8 = some (3, 1) := (hS9 8 (Or.inr ⟨by decide, by decide⟩)).1.trans h8
  have hW9 := U_key hW s jx fx d  hA hB hC
  refine zz_i2l hX dL_key_12 ?_
  refine zz_last hX h89 0 (x := zp_deg S (zn s) (zn jx) (zn fx)) rfl rfl (by decide) (by decide) dL_key_13 ?_
  refine zz_goto hX 29 dL_key_14 rfl ?_
  refine zz_iconst (v := nI 0) hX dL_key_29 rfl ?_
  exact zz_iret hX hr rfl (Nat.le_of_ble_eq_true rfl) (Nat.le_of_ble_eq_true rfl) dL_key_30 ⟨_, rfl, Or.inl ⟨hA, hB, hC, rfl, zm_u2s, zR_same hW9 hR9 (fun l hl => ⟨rfl, zm_u2r (by unfold zr_cl at hl; omega), rfl⟩)⟩, h89, fun l hl => ⟨(hS9 l (by unfold zr_out; omega)).1, (zm_u2r (by omega)).trans (hS9 l (by unfold zr_out; omega)).2.1, (hS9 l (by unfold zr_out; omega)).2.2⟩⟩
theorem W_camera (S : zS) (sh : zm_Sh) (mi : zm_Mi) (mr : zm_Mr) (hW : zW S) (hR : zR S sh mi mr) (h8 : sh 8 = some (3, 1)) (s fx x : Int32) : zz_Con yL_camera (.codeWith yL_camera cL_camera 6 (some Jvm.ClassFile.FieldType.int) [((0 : Nat), (12 : Nat), (15 : Nat), (21 : Nat)), ((0 : Nat), (12 : Nat), (19 : Nat), (13 : Nat)), ((0 : Nat), (12 : Nat), (23 : Nat), (15 : Nat))]) 11 10 60 [.ref 2, .int s, .int fx, .int x, .ref 8] sh mi mr (zq_w ((zs_ix s (zv_ns S)) ∧ (zs_ix fx (zv_fr S (zn s)))) (((-999) ≤ x ∧ x ≤ nI 999)) ((¬ fx < nI (zv_sk S (zn s)))) (nI 1) (nI 2) (nI 3) (zp_place S (zn s) (zn fx)) S (zm_u2 S 19 (48 * zn s + zn fx) x) sh mi mr) zz_none := by
  refine zz_beginH RL [(0, .ref 2), (1, .int s), (2, .int fx), (3, .int x), (4, .ref 8)] (by decide) rfl rfl (Nat.le_of_ble_eq_true rfl) rfl ?_
  intro Γ D E ad hX hr hT
  refine zz_aload hX dL_camera_0 4 rfl ?_
  refine zz_iconst (v := nI 0) hX dL_camera_2 rfl ?_
  refine zz_aload_n hX dL_camera_3 0 rfl rfl ?_
  refine zz_iload_n hX dL_camera_4 1 rfl rfl ?_
  refine zz_iload_n hX dL_camera_5 2 rfl rfl ?_
  refine zz_iload_n hX dL_camera_6 3 rfl rfl ?_
  refine zz_callV hX zf_M_L_48 (As := [.int s, .int fx, .int x]) (st := [.int (nI 0), .ref 8]) (P_camera S sh mi mr hW hR s fx x ) hR.1.1 rfl rfl rfl (by decide) (Nat.le_of_ble_eq_true rfl) (Nat.le_of_ble_eq_true rfl) (Nat.le_of_ble_eq_true rfl) dL_camera_7 ?_ ?_
  rotate_left
  · rintro e9 s9 i9 m9 ⟨hq, e2, e3, e4⟩ -
    obtain rfl := e2.symm
    obtain rfl := e3.symm
    obtain rfl := e4.symm
    rcases hq with ⟨rfl, q1⟩ | ⟨rfl, q1, q2⟩ | ⟨rfl, q1, q2, q3⟩
    · refine zz_catch hX (pre := []) (suf := [((0 : Nat), (12 : Nat), (19 : Nat), (13 : Nat)), ((0 : Nat), (12 : Nat), (23 : Nat), (15 : Nat))]) (a := 0) (b := 12) (h9 := 15) (k := 21) (i := 5) (len := 2) hT rfl (fun _ h => nomatch h) (by decide) (by decide) zw_cl_L_21 zw_cast_I (Or.inr ⟨dL_camera_15, rfl⟩) (Nat.le_of_ble_eq_true rfl) ?_
      refine zz_iconst (v := nI 1) hX dL_camera_17 rfl ?_
      exact zz_iret hX hr rfl (Nat.le_of_ble_eq_true rfl) (Nat.le_of_ble_eq_true rfl) dL_camera_18 ⟨_, rfl, Or.inr (Or.inl ⟨q1, rfl, hR⟩), h8, fun l hl => ⟨rfl, rfl, rfl⟩⟩
    · refine zz_catch hX (pre := [((0 : Nat), (12 : Nat), (15 : Nat), (21 : Nat))]) (suf := [((0 : Nat), (12 : Nat), (23 : Nat), (15 : Nat))]) (a := 0) (b := 12) (h9 := 19) (k := 13) (i := 5) (len := 2) hT rfl (List.forall_mem_cons.mpr ⟨⟨zx_I, (by decide), zw_cl_L_21, zk_nc_AI⟩, (fun _ h => nomatch h)⟩) (by decide) (by decide) zw_cl_L_13 zw_cast_A (Or.inr ⟨dL_camera_19, rfl⟩) (Nat.le_of_ble_eq_true rfl) ?_
      refine zz_iconst (v := nI 2) hX dL_camera_21 rfl ?_
      exact zz_iret hX hr rfl (Nat.le_of_ble_eq_true rfl) (Nat.le_of_ble_eq_true rfl) dL_camera_22 ⟨_, rfl, Or.inr (Or.inr (Or.inl ⟨q1, q2, rfl, hR⟩)), h8, fun l hl => ⟨rfl, rfl, rfl⟩⟩
    · refine zz_catch hX (pre := [((0 : Nat), (12 : Nat), (15 : Nat), (21 : Nat)), ((0 : Nat), (12 : Nat), (19 : Nat), (13 : Nat))]) (suf := []) (a := 0) (b := 12) (h9 := 23) (k := 15) (i := 5) (len := 2) hT rfl (List.forall_mem_cons.mpr ⟨⟨zx_I, (by decide), zw_cl_L_21, zk_nc_SI⟩, (List.forall_mem_cons.mpr ⟨⟨zx_A, (by decide), zw_cl_L_13, zk_nc_SA⟩, (fun _ h => nomatch h)⟩)⟩) (by decide) (by decide) zw_cl_L_15 zw_cast_S (Or.inr ⟨dL_camera_23, rfl⟩) (Nat.le_of_ble_eq_true rfl) ?_
      refine zz_iconst (v := nI 3) hX dL_camera_25 rfl ?_
      exact zz_iret hX hr rfl (Nat.le_of_ble_eq_true rfl) (Nat.le_of_ble_eq_true rfl) dL_camera_26 ⟨_, rfl, Or.inr (Or.inr (Or.inr ⟨q1, q2, q3, rfl, hR⟩)), h8, fun l hl => ⟨rfl, rfl, rfl⟩⟩
  rintro v9 s9 i9 m9 ⟨⟨hA, hB, hC⟩, e1, hR9, hS9⟩ -
  obtain rfl := e1.symm
  have h89 : s9 8 = some (3, 1) := (hS9 8 (Or.inr ⟨by decide, by decide⟩)).1.trans h8
  have hW9 := U_camera hW s fx x  hA hB hC
  refine zz_i2l hX dL_camera_10 ?_
  refine zz_last hX h89 0 (x := zp_place S (zn s) (zn fx)) rfl rfl (by decide) (by decide) dL_camera_11 ?_
  refine zz_goto hX 27 dL_camera_12 rfl ?_
  refine zz_iconst (v := nI 0) hX dL_camera_27 rfl ?_
  exact zz_iret hX hr rfl (Nat.le_of_ble_eq_true rfl) (Nat.le_of_ble_eq_true rfl) dL_camera_28 ⟨_, rfl, Or.inl ⟨hA, hB, hC, rfl, zm_u2s, zR_same hW9 hR9 (fun l hl => ⟨rfl, zm_u2r (by unfold zr_cl at hl; omega), rfl⟩)⟩, h89, fun l hl => ⟨(hS9 l (by unfold zr_out; omega)).1, (zm_u2r (by omega)).trans (hS9 l (by unfold zr_out; omega)).2.1, (hS9 l (by unfold zr_out; omega)).2.2⟩⟩
theorem W_play (S : zS) (sh : zm_Sh) (mi : zm_Mi) (mr : zm_Mr) (hW : zW S) (hR : zR S sh mi mr) (h8 : sh 8 = some (3, 1)) (u : Int32) : zz_Con yL_play (.codeWith yL_play cL_play 4 (some Jvm.ClassFile.FieldType.int) [((0 : Nat), (9 : Nat), (12 : Nat), (13 : Nat))]) 11 10 60 [.ref 2, .int u, .ref 8] sh mi mr (zq_w (True) ((nI 0 ≤ u ∧ u ≤ nI 20)) (True) (nI 0) (nI 1) (nI 0) (S 20 0) S ((zm_u2 S 20 (0) (u))) sh mi mr) zz_none := by
  refine zz_beginH RL [(0, .ref 2), (1, .int u), (2, .ref 8)] (by decide) rfl rfl (Nat.le_of_ble_eq_true rfl) rfl ?_
  intro Γ D E ad hX hr hT
  refine zz_aload_n hX dL_play_0 2 rfl rfl ?_
  refine zz_iconst (v := nI 0) hX dL_play_1 rfl ?_
  refine zz_aload_n hX dL_play_2 0 rfl rfl ?_
  refine zz_iload_n hX dL_play_3 1 rfl rfl ?_
  refine zz_callV hX zf_M_L_51 (As := [.int u]) (st := [.int (nI 0), .ref 8]) (P_play S sh mi mr hW hR u ) hR.1.1 rfl rfl rfl (by decide) (Nat.le_of_ble_eq_true rfl) (Nat.le_of_ble_eq_true rfl) (Nat.le_of_ble_eq_true rfl) dL_play_4 ?_ ?_
  rotate_left
  · rintro e9 s9 i9 m9 ⟨hq, e2, e3, e4⟩ -
    obtain rfl := e2.symm
    obtain rfl := e3.symm
    obtain rfl := e4.symm
    rcases hq with ⟨rfl, q1⟩ | ⟨rfl, q1, q2⟩ | ⟨rfl, q1, q2, q3⟩
    · exact absurd trivial q1
    · refine zz_catch hX (pre := []) (suf := []) (a := 0) (b := 9) (h9 := 12) (k := 13) (i := 3) (len := 1) hT rfl (fun _ h => nomatch h) (by decide) (by decide) zw_cl_L_13 zw_cast_A (Or.inl ⟨3, rfl, dL_play_12, rfl⟩) (Nat.le_of_ble_eq_true rfl) ?_
      refine zz_iconst (v := nI 1) hX dL_play_13 rfl ?_
      exact zz_iret hX hr rfl (Nat.le_of_ble_eq_true rfl) (Nat.le_of_ble_eq_true rfl) dL_play_14 ⟨_, rfl, Or.inr (Or.inr (Or.inl ⟨q1, q2, rfl, hR⟩)), h8, fun l hl => ⟨rfl, rfl, rfl⟩⟩
    · exact absurd trivial q3
  rintro v9 s9 i9 m9 ⟨⟨hA, hB, hC⟩, e1, hR9, hS9⟩ -
  obtain rfl := e1.symm
  have h89 : s9 8 = some (3, 1) := (hS9 8 (Or.inr ⟨by decide, by decide⟩)).1.trans h8
  have hW9 := U_play hW u  hA hB hC
  refine zz_i2l hX dL_play_7 ?_
  refine zz_last hX h89 0 (x := S 20 0) rfl rfl (by decide) (by decide) dL_play_8 ?_
  refine zz_goto hX 15 dL_play_9 rfl ?_
  refine zz_iconst (v := nI 0) hX dL_play_15 rfl ?_
  exact zz_iret hX hr rfl (Nat.le_of_ble_eq_true rfl) (Nat.le_of_ble_eq_true rfl) dL_play_16 ⟨_, rfl, Or.inl ⟨hA, hB, hC, rfl, zm_u2s, zR_same hW9 hR9 (fun l hl => ⟨rfl, zm_u2r (by unfold zr_cl at hl; omega), rfl⟩)⟩, h89, fun l hl => ⟨(hS9 l (by unfold zr_out; omega)).1, (zm_u2r (by omega)).trans (hS9 l (by unfold zr_out; omega)).2.1, (hS9 l (by unfold zr_out; omega)).2.2⟩⟩
theorem W_strike (S : zS) (sh : zm_Sh) (mi : zm_Mi) (mr : zm_Mr) (hW : zW S) (hR : zR S sh mi mr) (h8 : sh 8 = some (3, 1)) (s : Int32) : zz_Con yL_strike (.codeWith yL_strike cL_strike 4 (some Jvm.ClassFile.FieldType.int) [((0 : Nat), (9 : Nat), (12 : Nat), (21 : Nat)), ((0 : Nat), (9 : Nat), (15 : Nat), (15 : Nat))]) 11 10 60 [.ref 2, .int s, .ref 8] sh mi mr (zq_w ((zs_ix s (zv_ns S))) (True) ((zp_bar S (zn s) = 0)) (nI 1) (nI 0) (nI 2) (nI (zv_sk S (zn s))) S (zt_strike S (zn s)) sh mi mr) zz_none := by
  refine zz_beginH RL [(0, .ref 2), (1, .int s), (2, .ref 8)] (by decide) rfl rfl (Nat.le_of_ble_eq_true rfl) rfl ?_
  intro Γ D E ad hX hr hT
  refine zz_aload_n hX dL_strike_0 2 rfl rfl ?_
  refine zz_iconst (v := nI 0) hX dL_strike_1 rfl ?_
  refine zz_aload_n hX dL_strike_2 0 rfl rfl ?_
  refine zz_iload_n hX dL_strike_3 1 rfl rfl ?_
  refine zz_callV hX zf_M_L_54 (As := [.int s]) (st := [.int (nI 0), .ref 8]) (P_strike S sh mi mr hW hR s ) hR.1.1 rfl rfl rfl (by decide) (Nat.le_of_ble_eq_true rfl) (Nat.le_of_ble_eq_true rfl) (Nat.le_of_ble_eq_true rfl) dL_strike_4 ?_ ?_
  rotate_left
  · rintro e9 s9 i9 m9 ⟨hq, e2, e3, e4⟩ -
    obtain rfl := e2.symm
    obtain rfl := e3.symm
    obtain rfl := e4.symm
    rcases hq with ⟨rfl, q1⟩ | ⟨rfl, q1, q2⟩ | ⟨rfl, q1, q2, q3⟩
    · refine zz_catch hX (pre := []) (suf := [((0 : Nat), (9 : Nat), (15 : Nat), (15 : Nat))]) (a := 0) (b := 9) (h9 := 12) (k := 21) (i := 3) (len := 1) hT rfl (fun _ h => nomatch h) (by decide) (by decide) zw_cl_L_21 zw_cast_I (Or.inl ⟨3, rfl, dL_strike_12, rfl⟩) (Nat.le_of_ble_eq_true rfl) ?_
      refine zz_iconst (v := nI 1) hX dL_strike_13 rfl ?_
      exact zz_iret hX hr rfl (Nat.le_of_ble_eq_true rfl) (Nat.le_of_ble_eq_true rfl) dL_strike_14 ⟨_, rfl, Or.inr (Or.inl ⟨q1, rfl, hR⟩), h8, fun l hl => ⟨rfl, rfl, rfl⟩⟩
    · exact absurd trivial q2
    · refine zz_catch hX (pre := [((0 : Nat), (9 : Nat), (12 : Nat), (21 : Nat))]) (suf := []) (a := 0) (b := 9) (h9 := 15) (k := 15) (i := 3) (len := 1) hT rfl (List.forall_mem_cons.mpr ⟨⟨zx_I, (by decide), zw_cl_L_21, zk_nc_SI⟩, (fun _ h => nomatch h)⟩) (by decide) (by decide) zw_cl_L_15 zw_cast_S (Or.inl ⟨3, rfl, dL_strike_15, rfl⟩) (Nat.le_of_ble_eq_true rfl) ?_
      refine zz_iconst (v := nI 2) hX dL_strike_16 rfl ?_
      exact zz_iret hX hr rfl (Nat.le_of_ble_eq_true rfl) (Nat.le_of_ble_eq_true rfl) dL_strike_17 ⟨_, rfl, Or.inr (Or.inr (Or.inr ⟨q1, q2, q3, rfl, hR⟩)), h8, fun l hl => ⟨rfl, rfl, rfl⟩⟩
  rintro v9 s9 i9 m9 ⟨⟨hA, hB, hC⟩, e1, hR9, hS9⟩ -
  obtain rfl := e1.symm
  have h89 : s9 8 = some (3, 1) := (hS9 8 (Or.inr ⟨by decide, by decide⟩)).1.trans h8
  have hW9 := U_strike hW s  hA hB hC
  refine zz_i2l hX dL_strike_7 ?_
  refine zz_last hX h89 0 (x := nI (zv_sk S (zn s))) rfl rfl (by decide) (by decide) dL_strike_8 ?_
  refine zz_goto hX 18 dL_strike_9 rfl ?_
  refine zz_iconst (v := nI 0) hX dL_strike_18 rfl ?_
  exact zz_iret hX hr rfl (Nat.le_of_ble_eq_true rfl) (Nat.le_of_ble_eq_true rfl) dL_strike_19 ⟨_, rfl, Or.inl ⟨hA, hB, hC, rfl, zm_u2s, zR_same hW9 hR9 (fun l hl => ⟨rfl, zm_u2r (by unfold zr_cl at hl; omega), rfl⟩)⟩, h89, fun l hl => ⟨(hS9 l (by unfold zr_out; omega)).1, (zm_u2r (by omega)).trans (hS9 l (by unfold zr_out; omega)).2.1, (hS9 l (by unfold zr_out; omega)).2.2⟩⟩
theorem W_bump (S : zS) (sh : zm_Sh) (mi : zm_Mi) (mr : zm_Mr) (hW : zW S) (hR : zR S sh mi mr) (h8 : sh 8 = some (3, 1)) (s u : Int32) : zz_Con yL_bump (.codeWith yL_bump cL_bump 5 (some Jvm.ClassFile.FieldType.int) [((0 : Nat), (10 : Nat), (13 : Nat), (21 : Nat)), ((0 : Nat), (10 : Nat), (17 : Nat), (13 : Nat)), ((0 : Nat), (10 : Nat), (21 : Nat), (15 : Nat))]) 11 10 60 [.ref 2, .int s, .int u, .ref 8] sh mi mr (zq_w ((zs_ix s (zv_ns S))) (((-99) ≤ u ∧ u ≤ nI 99)) ((0 < zv_sk S (zn s))) (nI 1) (nI 2) (nI 3) (S 16 (zn s) + u) S ((zm_u2 S 16 (zn s) (S 16 (zn s) + u))) sh mi mr) zz_none := by
  refine zz_beginH RL [(0, .ref 2), (1, .int s), (2, .int u), (3, .ref 8)] (by decide) rfl rfl (Nat.le_of_ble_eq_true rfl) rfl ?_
  intro Γ D E ad hX hr hT
  refine zz_aload_n hX dL_bump_0 3 rfl rfl ?_
  refine zz_iconst (v := nI 0) hX dL_bump_1 rfl ?_
  refine zz_aload_n hX dL_bump_2 0 rfl rfl ?_
  refine zz_iload_n hX dL_bump_3 1 rfl rfl ?_
  refine zz_iload_n hX dL_bump_4 2 rfl rfl ?_
  refine zz_callV hX zf_M_L_57 (As := [.int s, .int u]) (st := [.int (nI 0), .ref 8]) (P_bump S sh mi mr hW hR s u ) hR.1.1 rfl rfl rfl (by decide) (Nat.le_of_ble_eq_true rfl) (Nat.le_of_ble_eq_true rfl) (Nat.le_of_ble_eq_true rfl) dL_bump_5 ?_ ?_
  rotate_left
  · rintro e9 s9 i9 m9 ⟨hq, e2, e3, e4⟩ -
    obtain rfl := e2.symm
    obtain rfl := e3.symm
    obtain rfl := e4.symm
    rcases hq with ⟨rfl, q1⟩ | ⟨rfl, q1, q2⟩ | ⟨rfl, q1, q2, q3⟩
    · refine zz_catch hX (pre := []) (suf := [((0 : Nat), (10 : Nat), (17 : Nat), (13 : Nat)), ((0 : Nat), (10 : Nat), (21 : Nat), (15 : Nat))]) (a := 0) (b := 10) (h9 := 13) (k := 21) (i := 4) (len := 2) hT rfl (fun _ h => nomatch h) (by decide) (by decide) zw_cl_L_21 zw_cast_I (Or.inr ⟨dL_bump_13, rfl⟩) (Nat.le_of_ble_eq_true rfl) ?_
      refine zz_iconst (v := nI 1) hX dL_bump_15 rfl ?_
      exact zz_iret hX hr rfl (Nat.le_of_ble_eq_true rfl) (Nat.le_of_ble_eq_true rfl) dL_bump_16 ⟨_, rfl, Or.inr (Or.inl ⟨q1, rfl, hR⟩), h8, fun l hl => ⟨rfl, rfl, rfl⟩⟩
    · refine zz_catch hX (pre := [((0 : Nat), (10 : Nat), (13 : Nat), (21 : Nat))]) (suf := [((0 : Nat), (10 : Nat), (21 : Nat), (15 : Nat))]) (a := 0) (b := 10) (h9 := 17) (k := 13) (i := 4) (len := 2) hT rfl (List.forall_mem_cons.mpr ⟨⟨zx_I, (by decide), zw_cl_L_21, zk_nc_AI⟩, (fun _ h => nomatch h)⟩) (by decide) (by decide) zw_cl_L_13 zw_cast_A (Or.inr ⟨dL_bump_17, rfl⟩) (Nat.le_of_ble_eq_true rfl) ?_
      refine zz_iconst (v := nI 2) hX dL_bump_19 rfl ?_
      exact zz_iret hX hr rfl (Nat.le_of_ble_eq_true rfl) (Nat.le_of_ble_eq_true rfl) dL_bump_20 ⟨_, rfl, Or.inr (Or.inr (Or.inl ⟨q1, q2, rfl, hR⟩)), h8, fun l hl => ⟨rfl, rfl, rfl⟩⟩
    · refine zz_catch hX (pre := [((0 : Nat), (10 : Nat), (13 : Nat), (21 : Nat)), ((0 : Nat), (10 : Nat), (17 : Nat), (13 : Nat))]) (suf := []) (a := 0) (b := 10) (h9 := 21) (k := 15) (i := 4) (len := 2) hT rfl (List.forall_mem_cons.mpr ⟨⟨zx_I, (by decide), zw_cl_L_21, zk_nc_SI⟩, (List.forall_mem_cons.mpr ⟨⟨zx_A, (by decide), zw_cl_L_13, zk_nc_SA⟩, (fun _ h => nomatch h)⟩)⟩) (by decide) (by decide) zw_cl_L_15 zw_cast_S (Or.inr ⟨dL_bump_21, rfl⟩) (Nat.le_of_ble_eq_true rfl) ?_
      refine zz_iconst (v := nI 3) hX dL_bump_23 rfl ?_
      exact zz_iret hX hr rfl (Nat.le_of_ble_eq_true rfl) (Nat.le_of_ble_eq_true rfl) dL_bump_24 ⟨_, rfl, Or.inr (Or.inr (Or.inr ⟨q1, q2, q3, rfl, hR⟩)), h8, fun l hl => ⟨rfl, rfl, rfl⟩⟩
  rintro v9 s9 i9 m9 ⟨⟨hA, hB, hC⟩, e1, hR9, hS9⟩ -
  obtain rfl := e1.symm
  have h89 : s9 8 = some (3, 1) := (hS9 8 (Or.inr ⟨by decide, by decide⟩)).1.trans h8
  have hW9 := U_bump hW s u  hA hB hC
  refine zz_i2l hX dL_bump_8 ?_
  refine zz_last hX h89 0 (x := S 16 (zn s) + u) rfl rfl (by decide) (by decide) dL_bump_9 ?_
  refine zz_goto hX 25 dL_bump_10 rfl ?_
  refine zz_iconst (v := nI 0) hX dL_bump_25 rfl ?_
  exact zz_iret hX hr rfl (Nat.le_of_ble_eq_true rfl) (Nat.le_of_ble_eq_true rfl) dL_bump_26 ⟨_, rfl, Or.inl ⟨hA, hB, hC, rfl, zm_u2s, zR_same hW9 hR9 (fun l hl => ⟨rfl, zm_u2r (by unfold zr_cl at hl; omega), rfl⟩)⟩, h89, fun l hl => ⟨(hS9 l (by unfold zr_out; omega)).1, (zm_u2r (by omega)).trans (hS9 l (by unfold zr_out; omega)).2.1, (hS9 l (by unfold zr_out; omega)).2.2⟩⟩
theorem W_level (S : zS) (sh : zm_Sh) (mi : zm_Mi) (mr : zm_Mr) (hW : zW S) (hR : zR S sh mi mr) (h8 : sh 8 = some (3, 1)) (s : Int32) : zz_Con yL_level (.codeWith yL_level cL_level 4 (some Jvm.ClassFile.FieldType.int) [((0 : Nat), (9 : Nat), (12 : Nat), (21 : Nat))]) 11 10 60 [.ref 2, .int s, .ref 8] sh mi mr (zq_w ((zs_ix s (zv_ns S))) (True) (True) (nI 1) (nI 0) (nI 0) (S 16 (zn s)) S ((zm_u2 S 16 (zn s) (0))) sh mi mr) zz_none := by
  refine zz_beginH RL [(0, .ref 2), (1, .int s), (2, .ref 8)] (by decide) rfl rfl (Nat.le_of_ble_eq_true rfl) rfl ?_
  intro Γ D E ad hX hr hT
  refine zz_aload_n hX dL_level_0 2 rfl rfl ?_
  refine zz_iconst (v := nI 0) hX dL_level_1 rfl ?_
  refine zz_aload_n hX dL_level_2 0 rfl rfl ?_
  refine zz_iload_n hX dL_level_3 1 rfl rfl ?_
  refine zz_callV hX zf_M_L_60 (As := [.int s]) (st := [.int (nI 0), .ref 8]) (P_level S sh mi mr hW hR s ) hR.1.1 rfl rfl rfl (by decide) (Nat.le_of_ble_eq_true rfl) (Nat.le_of_ble_eq_true rfl) (Nat.le_of_ble_eq_true rfl) dL_level_4 ?_ ?_
  rotate_left
  · rintro e9 s9 i9 m9 ⟨hq, e2, e3, e4⟩ -
    obtain rfl := e2.symm
    obtain rfl := e3.symm
    obtain rfl := e4.symm
    rcases hq with ⟨rfl, q1⟩ | ⟨rfl, q1, q2⟩ | ⟨rfl, q1, q2, q3⟩
    · refine zz_catch hX (pre := []) (suf := []) (a := 0) (b := 9) (h9 := 12) (k := 21) (i := 3) (len := 1) hT rfl (fun _ h => nomatch h) (by decide) (by decide) zw_cl_L_21 zw_cast_I (Or.inl ⟨3, rfl, dL_level_12, rfl⟩) (Nat.le_of_ble_eq_true rfl) ?_
      refine zz_iconst (v := nI 1) hX dL_level_13 rfl ?_
      exact zz_iret hX hr rfl (Nat.le_of_ble_eq_true rfl) (Nat.le_of_ble_eq_true rfl) dL_level_14 ⟨_, rfl, Or.inr (Or.inl ⟨q1, rfl, hR⟩), h8, fun l hl => ⟨rfl, rfl, rfl⟩⟩
    · exact absurd trivial q2
    · exact absurd trivial q3
  rintro v9 s9 i9 m9 ⟨⟨hA, hB, hC⟩, e1, hR9, hS9⟩ -
  obtain rfl := e1.symm
  have h89 : s9 8 = some (3, 1) := (hS9 8 (Or.inr ⟨by decide, by decide⟩)).1.trans h8
  have hW9 := U_level hW s  hA hB hC
  refine zz_i2l hX dL_level_7 ?_
  refine zz_last hX h89 0 (x := S 16 (zn s)) rfl rfl (by decide) (by decide) dL_level_8 ?_
  refine zz_goto hX 15 dL_level_9 rfl ?_
  refine zz_iconst (v := nI 0) hX dL_level_15 rfl ?_
  exact zz_iret hX hr rfl (Nat.le_of_ble_eq_true rfl) (Nat.le_of_ble_eq_true rfl) dL_level_16 ⟨_, rfl, Or.inl ⟨hA, hB, hC, rfl, zm_u2s, zR_same hW9 hR9 (fun l hl => ⟨rfl, zm_u2r (by unfold zr_cl at hl; omega), rfl⟩)⟩, h89, fun l hl => ⟨(hS9 l (by unfold zr_out; omega)).1, (zm_u2r (by omega)).trans (hS9 l (by unfold zr_out; omega)).2.1, (hS9 l (by unfold zr_out; omega)).2.2⟩⟩
theorem W_anew (S : zS) (sh : zm_Sh) (mi : zm_Mi) (mr : zm_Mr) (hW : zW S) (hR : zR S sh mi mr) (h8 : sh 8 = some (3, 1)) (s fx : Int32) : zz_Con yL_anew (.codeWith yL_anew cL_anew 5 (some Jvm.ClassFile.FieldType.int) [((0 : Nat), (10 : Nat), (13 : Nat), (21 : Nat)), ((0 : Nat), (10 : Nat), (17 : Nat), (15 : Nat))]) 11 10 60 [.ref 2, .int s, .int fx, .ref 8] sh mi mr (zq_w ((zs_ix s (zv_ns S)) ∧ (zs_ix fx (zv_fr S (zn s)))) (True) ((fx < nI (zv_sk S (zn s))) ∧ (zp_cut S s = -1)) (nI 1) (nI 0) (nI 2) (nI (zv_sk S (zn s) - zn fx)) S (zm_u2 S 15 (zn s) (nI (zn fx))) sh mi mr) zz_none := by
  refine zz_beginH RL [(0, .ref 2), (1, .int s), (2, .int fx), (3, .ref 8)] (by decide) rfl rfl (Nat.le_of_ble_eq_true rfl) rfl ?_
  intro Γ D E ad hX hr hT
  refine zz_aload_n hX dL_anew_0 3 rfl rfl ?_
  refine zz_iconst (v := nI 0) hX dL_anew_1 rfl ?_
  refine zz_aload_n hX dL_anew_2 0 rfl rfl ?_
  refine zz_iload_n hX dL_anew_3 1 rfl rfl ?_
  refine zz_iload_n hX dL_anew_4 2 rfl rfl ?_
  refine zz_callV hX zf_M_L_63 (As := [.int s, .int fx]) (st := [.int (nI 0), .ref 8]) (P_anew S sh mi mr hW hR s fx ) hR.1.1 rfl rfl rfl (by decide) (Nat.le_of_ble_eq_true rfl) (Nat.le_of_ble_eq_true rfl) (Nat.le_of_ble_eq_true rfl) dL_anew_5 ?_ ?_
  rotate_left
  · rintro e9 s9 i9 m9 ⟨hq, e2, e3, e4⟩ -
    obtain rfl := e2.symm
    obtain rfl := e3.symm
    obtain rfl := e4.symm
    rcases hq with ⟨rfl, q1⟩ | ⟨rfl, q1, q2⟩ | ⟨rfl, q1, q2, q3⟩
    · refine zz_catch hX (pre := []) (suf := [((0 : Nat), (10 : Nat), (17 : Nat), (15 : Nat))]) (a := 0) (b := 10) (h9 := 13) (k := 21) (i := 4) (len := 2) hT rfl (fun _ h => nomatch h) (by decide) (by decide) zw_cl_L_21 zw_cast_I (Or.inr ⟨dL_anew_13, rfl⟩) (Nat.le_of_ble_eq_true rfl) ?_
      refine zz_iconst (v := nI 1) hX dL_anew_15 rfl ?_
      exact zz_iret hX hr rfl (Nat.le_of_ble_eq_true rfl) (Nat.le_of_ble_eq_true rfl) dL_anew_16 ⟨_, rfl, Or.inr (Or.inl ⟨q1, rfl, hR⟩), h8, fun l hl => ⟨rfl, rfl, rfl⟩⟩
    · exact absurd trivial q2
    · refine zz_catch hX (pre := [((0 : Nat), (10 : Nat), (13 : Nat), (21 : Nat))]) (suf := []) (a := 0) (b := 10) (h9 := 17) (k := 15) (i := 4) (len := 2) hT rfl (List.forall_mem_cons.mpr ⟨⟨zx_I, (by decide), zw_cl_L_21, zk_nc_SI⟩, (fun _ h => nomatch h)⟩) (by decide) (by decide) zw_cl_L_15 zw_cast_S (Or.inr ⟨dL_anew_17, rfl⟩) (Nat.le_of_ble_eq_true rfl) ?_
      refine zz_iconst (v := nI 2) hX dL_anew_19 rfl ?_
      exact zz_iret hX hr rfl (Nat.le_of_ble_eq_true rfl) (Nat.le_of_ble_eq_true rfl) dL_anew_20 ⟨_, rfl, Or.inr (Or.inr (Or.inr ⟨q1, q2, q3, rfl, hR⟩)), h8, fun l hl => ⟨rfl, rfl, rfl⟩⟩
  rintro v9 s9 i9 m9 ⟨⟨hA, hB, hC⟩, e1, hR9, hS9⟩ -
  obtain rfl := e1.symm
  have h89 : s9 8 = some (3, 1) := (hS9 8 (Or.inr ⟨by decide, by decide⟩)).1.trans h8
  have hW9 := U_anew hW s fx  hA hB hC
  refine zz_i2l hX dL_anew_8 ?_
  refine zz_last hX h89 0 (x := nI (zv_sk S (zn s) - zn fx)) rfl rfl (by decide) (by decide) dL_anew_9 ?_
  refine zz_goto hX 21 dL_anew_10 rfl ?_
  refine zz_iconst (v := nI 0) hX dL_anew_21 rfl ?_
  exact zz_iret hX hr rfl (Nat.le_of_ble_eq_true rfl) (Nat.le_of_ble_eq_true rfl) dL_anew_22 ⟨_, rfl, Or.inl ⟨hA, hB, hC, rfl, zm_u2s, zR_same hW9 hR9 (fun l hl => ⟨rfl, zm_u2r (by unfold zr_cl at hl; omega), rfl⟩)⟩, h89, fun l hl => ⟨(hS9 l (by unfold zr_out; omega)).1, (zm_u2r (by omega)).trans (hS9 l (by unfold zr_out; omega)).2.1, (hS9 l (by unfold zr_out; omega)).2.2⟩⟩
theorem W_mend (S : zS) (sh : zm_Sh) (mi : zm_Mi) (mr : zm_Mr) (hW : zW S) (hR : zR S sh mi mr) (h8 : sh 8 = some (3, 1)) (px jx : Int32) : zz_Con yL_mend (.codeWith yL_mend cL_mend 5 (some Jvm.ClassFile.FieldType.int) [((0 : Nat), (10 : Nat), (13 : Nat), (21 : Nat))]) 11 10 60 [.ref 2, .int px, .int jx, .ref 8] sh mi mr (zq_w ((zs_ix px (zv_np S)) ∧ (zs_ix jx (zv_jn S (zn px)))) (True) (True) (nI 1) (nI 0) (nI 0) (S 3 (6 * zn px + zn jx)) S ((zm_u2 S 3 (6 * zn px + zn jx) (0))) sh mi mr) zz_none := by
  refine zz_beginH RL [(0, .ref 2), (1, .int px), (2, .int jx), (3, .ref 8)] (by decide) rfl rfl (Nat.le_of_ble_eq_true rfl) rfl ?_
  intro Γ D E ad hX hr hT
  refine zz_aload_n hX dL_mend_0 3 rfl rfl ?_
  refine zz_iconst (v := nI 0) hX dL_mend_1 rfl ?_
  refine zz_aload_n hX dL_mend_2 0 rfl rfl ?_
  refine zz_iload_n hX dL_mend_3 1 rfl rfl ?_
  refine zz_iload_n hX dL_mend_4 2 rfl rfl ?_
  refine zz_callV hX zf_M_L_66 (As := [.int px, .int jx]) (st := [.int (nI 0), .ref 8]) (P_mend S sh mi mr hW hR px jx ) hR.1.1 rfl rfl rfl (by decide) (Nat.le_of_ble_eq_true rfl) (Nat.le_of_ble_eq_true rfl) (Nat.le_of_ble_eq_true rfl) dL_mend_5 ?_ ?_
  rotate_left
  · rintro e9 s9 i9 m9 ⟨hq, e2, e3, e4⟩ -
    obtain rfl := e2.symm
    obtain rfl := e3.symm
    obtain rfl := e4.symm
    rcases hq with ⟨rfl, q1⟩ | ⟨rfl, q1, q2⟩ | ⟨rfl, q1, q2, q3⟩
    · refine zz_catch hX (pre := []) (suf := []) (a := 0) (b := 10) (h9 := 13) (k := 21) (i := 4) (len := 2) hT rfl (fun _ h => nomatch h) (by decide) (by decide) zw_cl_L_21 zw_cast_I (Or.inr ⟨dL_mend_13, rfl⟩) (Nat.le_of_ble_eq_true rfl) ?_
      refine zz_iconst (v := nI 1) hX dL_mend_15 rfl ?_
      exact zz_iret hX hr rfl (Nat.le_of_ble_eq_true rfl) (Nat.le_of_ble_eq_true rfl) dL_mend_16 ⟨_, rfl, Or.inr (Or.inl ⟨q1, rfl, hR⟩), h8, fun l hl => ⟨rfl, rfl, rfl⟩⟩
    · exact absurd trivial q2
    · exact absurd trivial q3
  rintro v9 s9 i9 m9 ⟨⟨hA, hB, hC⟩, e1, hR9, hS9⟩ -
  obtain rfl := e1.symm
  have h89 : s9 8 = some (3, 1) := (hS9 8 (Or.inr ⟨by decide, by decide⟩)).1.trans h8
  have hW9 := U_mend hW px jx  hA hB hC
  refine zz_i2l hX dL_mend_8 ?_
  refine zz_last hX h89 0 (x := S 3 (6 * zn px + zn jx)) rfl rfl (by decide) (by decide) dL_mend_9 ?_
  refine zz_goto hX 17 dL_mend_10 rfl ?_
  refine zz_iconst (v := nI 0) hX dL_mend_17 rfl ?_
  exact zz_iret hX hr rfl (Nat.le_of_ble_eq_true rfl) (Nat.le_of_ble_eq_true rfl) dL_mend_18 ⟨_, rfl, Or.inl ⟨hA, hB, hC, rfl, zm_u2s, zR_same hW9 hR9 (fun l hl => ⟨rfl, zm_u2r (by unfold zr_cl at hl; omega), rfl⟩)⟩, h89, fun l hl => ⟨(hS9 l (by unfold zr_out; omega)).1, (zm_u2r (by omega)).trans (hS9 l (by unfold zr_out; omega)).2.1, (hS9 l (by unfold zr_out; omega)).2.2⟩⟩
theorem W_cut (S : zS) (sh : zm_Sh) (mi : zm_Mi) (mr : zm_Mr) (hW : zW S) (hR : zR S sh mi mr) (h8 : sh 8 = some (3, 1)) (s : Int32) : zz_Con yL_cut (.codeWith yL_cut cL_cut 4 (some Jvm.ClassFile.FieldType.int) [((0 : Nat), (9 : Nat), (12 : Nat), (21 : Nat)), ((0 : Nat), (9 : Nat), (15 : Nat), (15 : Nat))]) 11 10 60 [.ref 2, .int s, .ref 8] sh mi mr (zq_w ((zs_ix s (zv_ns S))) (True) ((zv_fr S (zn s) ≤ zv_sk S (zn s)) ∧ (zp_cut S s = -1)) (nI 1) (nI 0) (nI 2) (zp_film (zt_cut S (zn s))) S (zt_cut S (zn s)) sh mi mr) zz_none := by
  refine zz_beginH RL [(0, .ref 2), (1, .int s), (2, .ref 8)] (by decide) rfl rfl (Nat.le_of_ble_eq_true rfl) rfl ?_
  intro Γ D E ad hX hr hT
  refine zz_aload_n hX dL_cut_0 2 rfl rfl ?_
  refine zz_iconst (v := nI 0) hX dL_cut_1 rfl ?_
  refine zz_aload_n hX dL_cut_2 0 rfl rfl ?_
  refine zz_iload_n hX dL_cut_3 1 rfl rfl ?_
  refine zz_callV hX zf_M_L_69 (As := [.int s]) (st := [.int (nI 0), .ref 8]) (P_cut S sh mi mr hW hR s ) hR.1.1 rfl rfl rfl (by decide) (Nat.le_of_ble_eq_true rfl) (Nat.le_of_ble_eq_true rfl) (Nat.le_of_ble_eq_true rfl) dL_cut_4 ?_ ?_
  rotate_left
  · rintro e9 s9 i9 m9 ⟨hq, e2, e3, e4⟩ -
    obtain rfl := e2.symm
    obtain rfl := e3.symm
    obtain rfl := e4.symm
    rcases hq with ⟨rfl, q1⟩ | ⟨rfl, q1, q2⟩ | ⟨rfl, q1, q2, q3⟩
    · refine zz_catch hX (pre := []) (suf := [((0 : Nat), (9 : Nat), (15 : Nat), (15 : Nat))]) (a := 0) (b := 9) (h9 := 12) (k := 21) (i := 3) (len := 1) hT rfl (fun _ h => nomatch h) (by decide) (by decide) zw_cl_L_21 zw_cast_I (Or.inl ⟨3, rfl, dL_cut_12, rfl⟩) (Nat.le_of_ble_eq_true rfl) ?_
      refine zz_iconst (v := nI 1) hX dL_cut_13 rfl ?_
      exact zz_iret hX hr rfl (Nat.le_of_ble_eq_true rfl) (Nat.le_of_ble_eq_true rfl) dL_cut_14 ⟨_, rfl, Or.inr (Or.inl ⟨q1, rfl, hR⟩), h8, fun l hl => ⟨rfl, rfl, rfl⟩⟩
    · exact absurd trivial q2
    · refine zz_catch hX (pre := [((0 : Nat), (9 : Nat), (12 : Nat), (21 : Nat))]) (suf := []) (a := 0) (b := 9) (h9 := 15) (k := 15) (i := 3) (len := 1) hT rfl (List.forall_mem_cons.mpr ⟨⟨zx_I, (by decide), zw_cl_L_21, zk_nc_SI⟩, (fun _ h => nomatch h)⟩) (by decide) (by decide) zw_cl_L_15 zw_cast_S (Or.inl ⟨3, rfl, dL_cut_15, rfl⟩) (Nat.le_of_ble_eq_true rfl) ?_
      refine zz_iconst (v := nI 2) hX dL_cut_16 rfl ?_
      exact zz_iret hX hr rfl (Nat.le_of_ble_eq_true rfl) (Nat.le_of_ble_eq_true rfl) dL_cut_17 ⟨_, rfl, Or.inr (Or.inr (Or.inr ⟨q1, q2, q3, rfl, hR⟩)), h8, fun l hl => ⟨rfl, rfl, rfl⟩⟩
  rintro v9 s9 i9 m9 ⟨⟨hA, hB, hC⟩, e1, hR9, hS9⟩ -
  obtain rfl := e1.symm
  have h89 : s9 8 = some (3, 1) := (hS9 8 (Or.inr ⟨by decide, by decide⟩)).1.trans h8
  have hW9 := U_cut hW s  hA hB hC
  refine zz_i2l hX dL_cut_7 ?_
  refine zz_last hX h89 0 (x := zp_film (zt_cut S (zn s))) rfl rfl (by decide) (by decide) dL_cut_8 ?_
  refine zz_goto hX 18 dL_cut_9 rfl ?_
  refine zz_iconst (v := nI 0) hX dL_cut_18 rfl ?_
  exact zz_iret hX hr rfl (Nat.le_of_ble_eq_true rfl) (Nat.le_of_ble_eq_true rfl) dL_cut_19 ⟨_, rfl, Or.inl ⟨hA, hB, hC, rfl, zm_u2s, zR_same hW9 hR9 (fun l hl => ⟨rfl, zm_u2r (by unfold zr_cl at hl; omega), rfl⟩)⟩, h89, fun l hl => ⟨(hS9 l (by unfold zr_out; omega)).1, (zm_u2r (by omega)).trans (hS9 l (by unfold zr_out; omega)).2.1, (hS9 l (by unfold zr_out; omega)).2.2⟩⟩
theorem W_cutOut (S : zS) (sh : zm_Sh) (mi : zm_Mi) (mr : zm_Mr) (hW : zW S) (hR : zR S sh mi mr) (h8 : sh 8 = some (3, 1)) (s : Int32) : zz_Con yL_cutOut (.codeWith yL_cutOut cL_cutOut 4 (some Jvm.ClassFile.FieldType.int) [((0 : Nat), (9 : Nat), (12 : Nat), (21 : Nat)), ((0 : Nat), (9 : Nat), (15 : Nat), (15 : Nat))]) 11 10 60 [.ref 2, .int s, .ref 8] sh mi mr (zq_w ((zs_ix s (zv_ns S))) (True) ((¬ zp_cut S s = -1)) (nI 1) (nI 0) (nI 2) (zp_film (zt_out S (zn (zp_cut S s)))) S (zt_out S (zn (zp_cut S s))) sh mi mr) zz_none := by
  refine zz_beginH RL [(0, .ref 2), (1, .int s), (2, .ref 8)] (by decide) rfl rfl (Nat.le_of_ble_eq_true rfl) rfl ?_
  intro Γ D E ad hX hr hT
  refine zz_aload_n hX dL_cutOut_0 2 rfl rfl ?_
  refine zz_iconst (v := nI 0) hX dL_cutOut_1 rfl ?_
  refine zz_aload_n hX dL_cutOut_2 0 rfl rfl ?_
  refine zz_iload_n hX dL_cutOut_3 1 rfl rfl ?_
  refine zz_callV hX zf_M_L_72 (As := [.int s]) (st := [.int (nI 0), .ref 8]) (P_cutOut S sh mi mr hW hR s ) hR.1.1 rfl rfl rfl (by decide) (Nat.le_of_ble_eq_true rfl) (Nat.le_of_ble_eq_true rfl) (Nat.le_of_ble_eq_true rfl) dL_cutOut_4 ?_ ?_
  rotate_left
  · rintro e9 s9 i9 m9 ⟨hq, e2, e3, e4⟩ -
    obtain rfl := e2.symm
    obtain rfl := e3.symm
    obtain rfl := e4.symm
    rcases hq with ⟨rfl, q1⟩ | ⟨rfl, q1, q2⟩ | ⟨rfl, q1, q2, q3⟩
    · refine zz_catch hX (pre := []) (suf := [((0 : Nat), (9 : Nat), (15 : Nat), (15 : Nat))]) (a := 0) (b := 9) (h9 := 12) (k := 21) (i := 3) (len := 1) hT rfl (fun _ h => nomatch h) (by decide) (by decide) zw_cl_L_21 zw_cast_I (Or.inl ⟨3, rfl, dL_cutOut_12, rfl⟩) (Nat.le_of_ble_eq_true rfl) ?_
      refine zz_iconst (v := nI 1) hX dL_cutOut_13 rfl ?_
      exact zz_iret hX hr rfl (Nat.le_of_ble_eq_true rfl) (Nat.le_of_ble_eq_true rfl) dL_cutOut_14 ⟨_, rfl, Or.inr (Or.inl ⟨q1, rfl, hR⟩), h8, fun l hl => ⟨rfl, rfl, rfl⟩⟩
    · exact absurd trivial q2
    · refine zz_catch hX (pre := [((0 : Nat), (9 : Nat), (12 : Nat), (21 : Nat))]) (suf := []) (a := 0) (b := 9) (h9 := 15) (k := 15) (i := 3) (len := 1) hT rfl (List.forall_mem_cons.mpr ⟨⟨zx_I, (by decide), zw_cl_L_21, zk_nc_SI⟩, (fun _ h => nomatch h)⟩) (by decide) (by decide) zw_cl_L_15 zw_cast_S (Or.inl ⟨3, rfl, dL_cutOut_15, rfl⟩) (Nat.le_of_ble_eq_true rfl) ?_
      refine zz_iconst (v := nI 2) hX dL_cutOut_16 rfl ?_
      exact zz_iret hX hr rfl (Nat.le_of_ble_eq_true rfl) (Nat.le_of_ble_eq_true rfl) dL_cutOut_17 ⟨_, rfl, Or.inr (Or.inr (Or.inr ⟨q1, q2, q3, rfl, hR⟩)), h8, fun l hl => ⟨rfl, rfl, rfl⟩⟩
  rintro v9 s9 i9 m9 ⟨⟨hA, hB, hC⟩, e1, hR9, hS9⟩ -
  obtain rfl := e1.symm
  have h89 : s9 8 = some (3, 1) := (hS9 8 (Or.inr ⟨by decide, by decide⟩)).1.trans h8
  have hW9 := U_cutOut hW s  hA hB hC
  refine zz_i2l hX dL_cutOut_7 ?_
  refine zz_last hX h89 0 (x := zp_film (zt_out S (zn (zp_cut S s)))) rfl rfl (by decide) (by decide) dL_cutOut_8 ?_
  refine zz_goto hX 18 dL_cutOut_9 rfl ?_
  refine zz_iconst (v := nI 0) hX dL_cutOut_18 rfl ?_
  exact zz_iret hX hr rfl (Nat.le_of_ble_eq_true rfl) (Nat.le_of_ble_eq_true rfl) dL_cutOut_19 ⟨_, rfl, Or.inl ⟨hA, hB, hC, rfl, zm_u2s, zR_same hW9 hR9 (fun l hl => ⟨rfl, zm_u2r (by unfold zr_cl at hl; omega), rfl⟩)⟩, h89, fun l hl => ⟨(hS9 l (by unfold zr_out; omega)).1, (zm_u2r (by omega)).trans (hS9 l (by unfold zr_out; omega)).2.1, (hS9 l (by unfold zr_out; omega)).2.2⟩⟩
theorem W_degree (S : zS) (sh : zm_Sh) (mi : zm_Mi) (mr : zm_Mr) (hW : zW S) (hR : zR S sh mi mr) (h8 : sh 8 = some (3, 1)) (s jx fx : Int32) : zz_Con yL_degree (.codeWith yL_degree cL_degree 6 (some Jvm.ClassFile.FieldType.int) [((0 : Nat), (12 : Nat), (15 : Nat), (21 : Nat))]) 11 10 60 [.ref 2, .int s, .int jx, .int fx, .ref 8] sh mi mr (zq_w ((zs_ix s (zv_ns S)) ∧ (zs_ix jx (zv_jn S (zv_pu S (zn s)))) ∧ (zs_ix fx (zv_fr S (zn s)))) (True) (True) (nI 1) (nI 0) (nI 0) (zp_deg S (zn s) (zn jx) (zn fx)) S (S) sh mi mr) zz_none := by
  refine zz_beginH RL [(0, .ref 2), (1, .int s), (2, .int jx), (3, .int fx), (4, .ref 8)] (by decide) rfl rfl (Nat.le_of_ble_eq_true rfl) rfl ?_
  intro Γ D E ad hX hr hT
  refine zz_aload hX dL_degree_0 4 rfl ?_
  refine zz_iconst (v := nI 0) hX dL_degree_2 rfl ?_
  refine zz_aload_n hX dL_degree_3 0 rfl rfl ?_
  refine zz_iload_n hX dL_degree_4 1 rfl rfl ?_
  refine zz_iload_n hX dL_degree_5 2 rfl rfl ?_
  refine zz_iload_n hX dL_degree_6 3 rfl rfl ?_
  refine zz_callV hX zf_M_L_75 (As := [.int s, .int jx, .int fx]) (st := [.int (nI 0), .ref 8]) (P_degree S sh mi mr hW hR s jx fx ) hR.1.1 rfl rfl rfl (by decide) (Nat.le_of_ble_eq_true rfl) (Nat.le_of_ble_eq_true rfl) (Nat.le_of_ble_eq_true rfl) dL_degree_7 ?_ ?_
  rotate_left
  · rintro e9 s9 i9 m9 ⟨hq, e2, e3, e4⟩ -
    obtain rfl := e2.symm
    obtain rfl := e3.symm
    obtain rfl := e4.symm
    rcases hq with ⟨rfl, q1⟩ | ⟨rfl, q1, q2⟩ | ⟨rfl, q1, q2, q3⟩
    · refine zz_catch hX (pre := []) (suf := []) (a := 0) (b := 12) (h9 := 15) (k := 21) (i := 5) (len := 2) hT rfl (fun _ h => nomatch h) (by decide) (by decide) zw_cl_L_21 zw_cast_I (Or.inr ⟨dL_degree_15, rfl⟩) (Nat.le_of_ble_eq_true rfl) ?_
      refine zz_iconst (v := nI 1) hX dL_degree_17 rfl ?_
      exact zz_iret hX hr rfl (Nat.le_of_ble_eq_true rfl) (Nat.le_of_ble_eq_true rfl) dL_degree_18 ⟨_, rfl, Or.inr (Or.inl ⟨q1, rfl, hR⟩), h8, fun l hl => ⟨rfl, rfl, rfl⟩⟩
    · exact absurd trivial q2
    · exact absurd trivial q3
  rintro v9 s9 i9 m9 ⟨⟨hA, hB, hC⟩, e1, hR9, hS9⟩ -
  obtain rfl := e1.symm
  have h89 : s9 8 = some (3, 1) := (hS9 8 (Or.inr ⟨by decide, by decide⟩)).1.trans h8
  have hW9 := U_degree hW s jx fx  hA hB hC
  refine zz_i2l hX dL_degree_10 ?_
  refine zz_last hX h89 0 (x := zp_deg S (zn s) (zn jx) (zn fx)) rfl rfl (by decide) (by decide) dL_degree_11 ?_
  refine zz_goto hX 19 dL_degree_12 rfl ?_
  refine zz_iconst (v := nI 0) hX dL_degree_19 rfl ?_
  exact zz_iret hX hr rfl (Nat.le_of_ble_eq_true rfl) (Nat.le_of_ble_eq_true rfl) dL_degree_20 ⟨_, rfl, Or.inl ⟨hA, hB, hC, rfl, zm_u2s, zR_same hW9 hR9 (fun l hl => ⟨rfl, zm_u2r (by unfold zr_cl at hl; omega), rfl⟩)⟩, h89, fun l hl => ⟨(hS9 l (by unfold zr_out; omega)).1, (zm_u2r (by omega)).trans (hS9 l (by unfold zr_out; omega)).2.1, (hS9 l (by unfold zr_out; omega)).2.2⟩⟩
theorem W_mouth (S : zS) (sh : zm_Sh) (mi : zm_Mi) (mr : zm_Mr) (hW : zW S) (hR : zR S sh mi mr) (h8 : sh 8 = some (3, 1)) (s fx : Int32) : zz_Con yL_mouth (.codeWith yL_mouth cL_mouth 5 (some Jvm.ClassFile.FieldType.int) [((0 : Nat), (10 : Nat), (13 : Nat), (21 : Nat))]) 11 10 60 [.ref 2, .int s, .int fx, .ref 8] sh mi mr (zq_w ((zs_ix s (zv_ns S)) ∧ (zs_ix fx (zv_fr S (zn s)))) (True) (True) (nI 1) (nI 0) (nI 0) (zp_mouth S (zn s) (zn fx)) S (S) sh mi mr) zz_none := by
  refine zz_beginH RL [(0, .ref 2), (1, .int s), (2, .int fx), (3, .ref 8)] (by decide) rfl rfl (Nat.le_of_ble_eq_true rfl) rfl ?_
  intro Γ D E ad hX hr hT
  refine zz_aload_n hX dL_mouth_0 3 rfl rfl ?_
  refine zz_iconst (v := nI 0) hX dL_mouth_1 rfl ?_
  refine zz_aload_n hX dL_mouth_2 0 rfl rfl ?_
  refine zz_iload_n hX dL_mouth_3 1 rfl rfl ?_
  refine zz_iload_n hX dL_mouth_4 2 rfl rfl ?_
  refine zz_callV hX zf_M_L_78 (As := [.int s, .int fx]) (st := [.int (nI 0), .ref 8]) (P_mouth S sh mi mr hW hR s fx ) hR.1.1 rfl rfl rfl (by decide) (Nat.le_of_ble_eq_true rfl) (Nat.le_of_ble_eq_true rfl) (Nat.le_of_ble_eq_true rfl) dL_mouth_5 ?_ ?_
  rotate_left
  · rintro e9 s9 i9 m9 ⟨hq, e2, e3, e4⟩ -
    obtain rfl := e2.symm
    obtain rfl := e3.symm
    obtain rfl := e4.symm
    rcases hq with ⟨rfl, q1⟩ | ⟨rfl, q1, q2⟩ | ⟨rfl, q1, q2, q3⟩
    · refine zz_catch hX (pre := []) (suf := []) (a := 0) (b := 10) (h9 := 13) (k := 21) (i := 4) (len := 2) hT rfl (fun _ h => nomatch h) (by decide) (by decide) zw_cl_L_21 zw_cast_I (Or.inr ⟨dL_mouth_13, rfl⟩) (Nat.le_of_ble_eq_true rfl) ?_
      refine zz_iconst (v := nI 1) hX dL_mouth_15 rfl ?_
      exact zz_iret hX hr rfl (Nat.le_of_ble_eq_true rfl) (Nat.le_of_ble_eq_true rfl) dL_mouth_16 ⟨_, rfl, Or.inr (Or.inl ⟨q1, rfl, hR⟩), h8, fun l hl => ⟨rfl, rfl, rfl⟩⟩
    · exact absurd trivial q2
    · exact absurd trivial q3
  rintro v9 s9 i9 m9 ⟨⟨hA, hB, hC⟩, e1, hR9, hS9⟩ -
  obtain rfl := e1.symm
  have h89 : s9 8 = some (3, 1) := (hS9 8 (Or.inr ⟨by decide, by decide⟩)).1.trans h8
  have hW9 := U_mouth hW s fx  hA hB hC
  refine zz_i2l hX dL_mouth_8 ?_
  refine zz_last hX h89 0 (x := zp_mouth S (zn s) (zn fx)) rfl rfl (by decide) (by decide) dL_mouth_9 ?_
  refine zz_goto hX 17 dL_mouth_10 rfl ?_
  refine zz_iconst (v := nI 0) hX dL_mouth_17 rfl ?_
  exact zz_iret hX hr rfl (Nat.le_of_ble_eq_true rfl) (Nat.le_of_ble_eq_true rfl) dL_mouth_18 ⟨_, rfl, Or.inl ⟨hA, hB, hC, rfl, zm_u2s, zR_same hW9 hR9 (fun l hl => ⟨rfl, zm_u2r (by unfold zr_cl at hl; omega), rfl⟩)⟩, h89, fun l hl => ⟨(hS9 l (by unfold zr_out; omega)).1, (zm_u2r (by omega)).trans (hS9 l (by unfold zr_out; omega)).2.1, (hS9 l (by unfold zr_out; omega)).2.2⟩⟩
theorem W_place (S : zS) (sh : zm_Sh) (mi : zm_Mi) (mr : zm_Mr) (hW : zW S) (hR : zR S sh mi mr) (h8 : sh 8 = some (3, 1)) (s fx : Int32) : zz_Con yL_place (.codeWith yL_place cL_place 5 (some Jvm.ClassFile.FieldType.int) [((0 : Nat), (10 : Nat), (13 : Nat), (21 : Nat))]) 11 10 60 [.ref 2, .int s, .int fx, .ref 8] sh mi mr (zq_w ((zs_ix s (zv_ns S)) ∧ (zs_ix fx (zv_fr S (zn s)))) (True) (True) (nI 1) (nI 0) (nI 0) (zp_place S (zn s) (zn fx)) S (S) sh mi mr) zz_none := by
  refine zz_beginH RL [(0, .ref 2), (1, .int s), (2, .int fx), (3, .ref 8)] (by decide) rfl rfl (Nat.le_of_ble_eq_true rfl) rfl ?_
  intro Γ D E ad hX hr hT
  refine zz_aload_n hX dL_place_0 3 rfl rfl ?_
  refine zz_iconst (v := nI 0) hX dL_place_1 rfl ?_
  refine zz_aload_n hX dL_place_2 0 rfl rfl ?_
  refine zz_iload_n hX dL_place_3 1 rfl rfl ?_
  refine zz_iload_n hX dL_place_4 2 rfl rfl ?_
  refine zz_callV hX zf_M_L_81 (As := [.int s, .int fx]) (st := [.int (nI 0), .ref 8]) (P_place S sh mi mr hW hR s fx ) hR.1.1 rfl rfl rfl (by decide) (Nat.le_of_ble_eq_true rfl) (Nat.le_of_ble_eq_true rfl) (Nat.le_of_ble_eq_true rfl) dL_place_5 ?_ ?_
  rotate_left
  · rintro e9 s9 i9 m9 ⟨hq, e2, e3, e4⟩ -
    obtain rfl := e2.symm
    obtain rfl := e3.symm
    obtain rfl := e4.symm
    rcases hq with ⟨rfl, q1⟩ | ⟨rfl, q1, q2⟩ | ⟨rfl, q1, q2, q3⟩
    · refine zz_catch hX (pre := []) (suf := []) (a := 0) (b := 10) (h9 := 13) (k := 21) (i := 4) (len := 2) hT rfl (fun _ h => nomatch h) (by decide) (by decide) zw_cl_L_21 zw_cast_I (Or.inr ⟨dL_place_13, rfl⟩) (Nat.le_of_ble_eq_true rfl) ?_
      refine zz_iconst (v := nI 1) hX dL_place_15 rfl ?_
      exact zz_iret hX hr rfl (Nat.le_of_ble_eq_true rfl) (Nat.le_of_ble_eq_true rfl) dL_place_16 ⟨_, rfl, Or.inr (Or.inl ⟨q1, rfl, hR⟩), h8, fun l hl => ⟨rfl, rfl, rfl⟩⟩
    · exact absurd trivial q2
    · exact absurd trivial q3
  rintro v9 s9 i9 m9 ⟨⟨hA, hB, hC⟩, e1, hR9, hS9⟩ -
  obtain rfl := e1.symm
  have h89 : s9 8 = some (3, 1) := (hS9 8 (Or.inr ⟨by decide, by decide⟩)).1.trans h8
  have hW9 := U_place hW s fx  hA hB hC
  refine zz_i2l hX dL_place_8 ?_
  refine zz_last hX h89 0 (x := zp_place S (zn s) (zn fx)) rfl rfl (by decide) (by decide) dL_place_9 ?_
  refine zz_goto hX 17 dL_place_10 rfl ?_
  refine zz_iconst (v := nI 0) hX dL_place_17 rfl ?_
  exact zz_iret hX hr rfl (Nat.le_of_ble_eq_true rfl) (Nat.le_of_ble_eq_true rfl) dL_place_18 ⟨_, rfl, Or.inl ⟨hA, hB, hC, rfl, zm_u2s, zR_same hW9 hR9 (fun l hl => ⟨rfl, zm_u2r (by unfold zr_cl at hl; omega), rfl⟩)⟩, h89, fun l hl => ⟨(hS9 l (by unfold zr_out; omega)).1, (zm_u2r (by omega)).trans (hS9 l (by unfold zr_out; omega)).2.1, (hS9 l (by unfold zr_out; omega)).2.2⟩⟩
theorem W_wants (S : zS) (sh : zm_Sh) (mi : zm_Mi) (mr : zm_Mr) (hW : zW S) (hR : zR S sh mi mr) (h8 : sh 8 = some (3, 1)) (s x : Int32) : zz_Con yL_wants (.codeWith yL_wants cL_wants 5 (some Jvm.ClassFile.FieldType.int) [((0 : Nat), (10 : Nat), (13 : Nat), (21 : Nat)), ((0 : Nat), (10 : Nat), (17 : Nat), (13 : Nat))]) 11 10 60 [.ref 2, .int s, .int x, .ref 8] sh mi mr (zq_w ((zs_ix s (zv_ns S))) ((nI 0 ≤ x ∧ x ≤ nI 9)) (True) (nI 1) (nI 2) (nI 0) (zp_wants S (zn s) x (zv_fr S (zn s))) S (S) sh mi mr) zz_none := by
  refine zz_beginH RL [(0, .ref 2), (1, .int s), (2, .int x), (3, .ref 8)] (by decide) rfl rfl (Nat.le_of_ble_eq_true rfl) rfl ?_
  intro Γ D E ad hX hr hT
  refine zz_aload_n hX dL_wants_0 3 rfl rfl ?_
  refine zz_iconst (v := nI 0) hX dL_wants_1 rfl ?_
  refine zz_aload_n hX dL_wants_2 0 rfl rfl ?_
  refine zz_iload_n hX dL_wants_3 1 rfl rfl ?_
  refine zz_iload_n hX dL_wants_4 2 rfl rfl ?_
  refine zz_callV hX zf_M_L_84 (As := [.int s, .int x]) (st := [.int (nI 0), .ref 8]) (P_wants S sh mi mr hW hR s x ) hR.1.1 rfl rfl rfl (by decide) (Nat.le_of_ble_eq_true rfl) (Nat.le_of_ble_eq_true rfl) (Nat.le_of_ble_eq_true rfl) dL_wants_5 ?_ ?_
  rotate_left
  · rintro e9 s9 i9 m9 ⟨hq, e2, e3, e4⟩ -
    obtain rfl := e2.symm
    obtain rfl := e3.symm
    obtain rfl := e4.symm
    rcases hq with ⟨rfl, q1⟩ | ⟨rfl, q1, q2⟩ | ⟨rfl, q1, q2, q3⟩
    · refine zz_catch hX (pre := []) (suf := [((0 : Nat), (10 : Nat), (17 : Nat), (13 : Nat))]) (a := 0) (b := 10) (h9 := 13) (k := 21) (i := 4) (len := 2) hT rfl (fun _ h => nomatch h) (by decide) (by decide) zw_cl_L_21 zw_cast_I (Or.inr ⟨dL_wants_13, rfl⟩) (Nat.le_of_ble_eq_true rfl) ?_
      refine zz_iconst (v := nI 1) hX dL_wants_15 rfl ?_
      exact zz_iret hX hr rfl (Nat.le_of_ble_eq_true rfl) (Nat.le_of_ble_eq_true rfl) dL_wants_16 ⟨_, rfl, Or.inr (Or.inl ⟨q1, rfl, hR⟩), h8, fun l hl => ⟨rfl, rfl, rfl⟩⟩
    · refine zz_catch hX (pre := [((0 : Nat), (10 : Nat), (13 : Nat), (21 : Nat))]) (suf := []) (a := 0) (b := 10) (h9 := 17) (k := 13) (i := 4) (len := 2) hT rfl (List.forall_mem_cons.mpr ⟨⟨zx_I, (by decide), zw_cl_L_21, zk_nc_AI⟩, (fun _ h => nomatch h)⟩) (by decide) (by decide) zw_cl_L_13 zw_cast_A (Or.inr ⟨dL_wants_17, rfl⟩) (Nat.le_of_ble_eq_true rfl) ?_
      refine zz_iconst (v := nI 2) hX dL_wants_19 rfl ?_
      exact zz_iret hX hr rfl (Nat.le_of_ble_eq_true rfl) (Nat.le_of_ble_eq_true rfl) dL_wants_20 ⟨_, rfl, Or.inr (Or.inr (Or.inl ⟨q1, q2, rfl, hR⟩)), h8, fun l hl => ⟨rfl, rfl, rfl⟩⟩
    · exact absurd trivial q3
  rintro v9 s9 i9 m9 ⟨⟨hA, hB, hC⟩, e1, hR9, hS9⟩ -
  obtain rfl := e1.symm
  have h89 : s9 8 = some (3, 1) := (hS9 8 (Or.inr ⟨by decide, by decide⟩)).1.trans h8
  have hW9 := U_wants hW s x  hA hB hC
  refine zz_i2l hX dL_wants_8 ?_
  refine zz_last hX h89 0 (x := zp_wants S (zn s) x (zv_fr S (zn s))) rfl rfl (by decide) (by decide) dL_wants_9 ?_
  refine zz_goto hX 21 dL_wants_10 rfl ?_
  refine zz_iconst (v := nI 0) hX dL_wants_21 rfl ?_
  exact zz_iret hX hr rfl (Nat.le_of_ble_eq_true rfl) (Nat.le_of_ble_eq_true rfl) dL_wants_22 ⟨_, rfl, Or.inl ⟨hA, hB, hC, rfl, zm_u2s, zR_same hW9 hR9 (fun l hl => ⟨rfl, zm_u2r (by unfold zr_cl at hl; omega), rfl⟩)⟩, h89, fun l hl => ⟨(hS9 l (by unfold zr_out; omega)).1, (zm_u2r (by omega)).trans (hS9 l (by unfold zr_out; omega)).2.1, (hS9 l (by unfold zr_out; omega)).2.2⟩⟩
theorem W_bars (S : zS) (sh : zm_Sh) (mi : zm_Mi) (mr : zm_Mr) (hW : zW S) (hR : zR S sh mi mr) (h8 : sh 8 = some (3, 1)) (s : Int32) : zz_Con yL_bars (.codeWith yL_bars cL_bars 4 (some Jvm.ClassFile.FieldType.int) [((0 : Nat), (9 : Nat), (12 : Nat), (21 : Nat))]) 11 10 60 [.ref 2, .int s, .ref 8] sh mi mr (zq_w ((zs_ix s (zv_ns S))) (True) (True) (nI 1) (nI 0) (nI 0) (nI (zp_bar S (zn s))) S (S) sh mi mr) zz_none := by
  refine zz_beginH RL [(0, .ref 2), (1, .int s), (2, .ref 8)] (by decide) rfl rfl (Nat.le_of_ble_eq_true rfl) rfl ?_
  intro Γ D E ad hX hr hT
  refine zz_aload_n hX dL_bars_0 2 rfl rfl ?_
  refine zz_iconst (v := nI 0) hX dL_bars_1 rfl ?_
  refine zz_aload_n hX dL_bars_2 0 rfl rfl ?_
  refine zz_iload_n hX dL_bars_3 1 rfl rfl ?_
  refine zz_callV hX zf_M_L_87 (As := [.int s]) (st := [.int (nI 0), .ref 8]) (P_bars S sh mi mr hW hR s ) hR.1.1 rfl rfl rfl (by decide) (Nat.le_of_ble_eq_true rfl) (Nat.le_of_ble_eq_true rfl) (Nat.le_of_ble_eq_true rfl) dL_bars_4 ?_ ?_
  rotate_left
  · rintro e9 s9 i9 m9 ⟨hq, e2, e3, e4⟩ -
    obtain rfl := e2.symm
    obtain rfl := e3.symm
    obtain rfl := e4.symm
    rcases hq with ⟨rfl, q1⟩ | ⟨rfl, q1, q2⟩ | ⟨rfl, q1, q2, q3⟩
    · refine zz_catch hX (pre := []) (suf := []) (a := 0) (b := 9) (h9 := 12) (k := 21) (i := 3) (len := 1) hT rfl (fun _ h => nomatch h) (by decide) (by decide) zw_cl_L_21 zw_cast_I (Or.inl ⟨3, rfl, dL_bars_12, rfl⟩) (Nat.le_of_ble_eq_true rfl) ?_
      refine zz_iconst (v := nI 1) hX dL_bars_13 rfl ?_
      exact zz_iret hX hr rfl (Nat.le_of_ble_eq_true rfl) (Nat.le_of_ble_eq_true rfl) dL_bars_14 ⟨_, rfl, Or.inr (Or.inl ⟨q1, rfl, hR⟩), h8, fun l hl => ⟨rfl, rfl, rfl⟩⟩
    · exact absurd trivial q2
    · exact absurd trivial q3
  rintro v9 s9 i9 m9 ⟨⟨hA, hB, hC⟩, e1, hR9, hS9⟩ -
  obtain rfl := e1.symm
  have h89 : s9 8 = some (3, 1) := (hS9 8 (Or.inr ⟨by decide, by decide⟩)).1.trans h8
  have hW9 := U_bars hW s  hA hB hC
  refine zz_i2l hX dL_bars_7 ?_
  refine zz_last hX h89 0 (x := nI (zp_bar S (zn s))) rfl rfl (by decide) (by decide) dL_bars_8 ?_
  refine zz_goto hX 15 dL_bars_9 rfl ?_
  refine zz_iconst (v := nI 0) hX dL_bars_15 rfl ?_
  exact zz_iret hX hr rfl (Nat.le_of_ble_eq_true rfl) (Nat.le_of_ble_eq_true rfl) dL_bars_16 ⟨_, rfl, Or.inl ⟨hA, hB, hC, rfl, zm_u2s, zR_same hW9 hR9 (fun l hl => ⟨rfl, zm_u2r (by unfold zr_cl at hl; omega), rfl⟩)⟩, h89, fun l hl => ⟨(hS9 l (by unfold zr_out; omega)).1, (zm_u2r (by omega)).trans (hS9 l (by unfold zr_out; omega)).2.1, (hS9 l (by unfold zr_out; omega)).2.2⟩⟩
theorem W_wears (S : zS) (sh : zm_Sh) (mi : zm_Mi) (mr : zm_Mr) (hW : zW S) (hR : zR S sh mi mr) (h8 : sh 8 = some (3, 1)) (s jx : Int32) : zz_Con yL_wears (.codeWith yL_wears cL_wears 5 (some Jvm.ClassFile.FieldType.int) [((0 : Nat), (10 : Nat), (13 : Nat), (21 : Nat))]) 11 10 60 [.ref 2, .int s, .int jx, .ref 8] sh mi mr (zq_w ((zs_ix s (zv_ns S)) ∧ (zs_ix jx (zv_jn S (zv_pu S (zn s))))) (True) (True) (nI 1) (nI 0) (nI 0) ((zp_wr S (zn s) (zn jx) (zv_fr S (zn s) - zv_sk S (zn s))).2) S (S) sh mi mr) zz_none := by
  refine zz_beginH RL [(0, .ref 2), (1, .int s), (2, .int jx), (3, .ref 8)] (by decide) rfl rfl (Nat.le_of_ble_eq_true rfl) rfl ?_
  intro Γ D E ad hX hr hT
  refine zz_aload_n hX dL_wears_0 3 rfl rfl ?_
  refine zz_iconst (v := nI 0) hX dL_wears_1 rfl ?_
  refine zz_aload_n hX dL_wears_2 0 rfl rfl ?_
  refine zz_iload_n hX dL_wears_3 1 rfl rfl ?_
  refine zz_iload_n hX dL_wears_4 2 rfl rfl ?_
  refine zz_callV hX zf_M_L_90 (As := [.int s, .int jx]) (st := [.int (nI 0), .ref 8]) (P_wears S sh mi mr hW hR s jx ) hR.1.1 rfl rfl rfl (by decide) (Nat.le_of_ble_eq_true rfl) (Nat.le_of_ble_eq_true rfl) (Nat.le_of_ble_eq_true rfl) dL_wears_5 ?_ ?_
  rotate_left
  · rintro e9 s9 i9 m9 ⟨hq, e2, e3, e4⟩ -
    obtain rfl := e2.symm
    obtain rfl := e3.symm
    obtain rfl := e4.symm
    rcases hq with ⟨rfl, q1⟩ | ⟨rfl, q1, q2⟩ | ⟨rfl, q1, q2, q3⟩
    · refine zz_catch hX (pre := []) (suf := []) (a := 0) (b := 10) (h9 := 13) (k := 21) (i := 4) (len := 2) hT rfl (fun _ h => nomatch h) (by decide) (by decide) zw_cl_L_21 zw_cast_I (Or.inr ⟨dL_wears_13, rfl⟩) (Nat.le_of_ble_eq_true rfl) ?_
      refine zz_iconst (v := nI 1) hX dL_wears_15 rfl ?_
      exact zz_iret hX hr rfl (Nat.le_of_ble_eq_true rfl) (Nat.le_of_ble_eq_true rfl) dL_wears_16 ⟨_, rfl, Or.inr (Or.inl ⟨q1, rfl, hR⟩), h8, fun l hl => ⟨rfl, rfl, rfl⟩⟩
    · exact absurd trivial q2
    · exact absurd trivial q3
  rintro v9 s9 i9 m9 ⟨⟨hA, hB, hC⟩, e1, hR9, hS9⟩ -
  obtain rfl := e1.symm
  have h89 : s9 8 = some (3, 1) := (hS9 8 (Or.inr ⟨by decide, by decide⟩)).1.trans h8
  have hW9 := U_wears hW s jx  hA hB hC
  refine zz_i2l hX dL_wears_8 ?_
  refine zz_last hX h89 0 (x := (zp_wr S (zn s) (zn jx) (zv_fr S (zn s) - zv_sk S (zn s))).2) rfl rfl (by decide) (by decide) dL_wears_9 ?_
  refine zz_goto hX 17 dL_wears_10 rfl ?_
  refine zz_iconst (v := nI 0) hX dL_wears_17 rfl ?_
  exact zz_iret hX hr rfl (Nat.le_of_ble_eq_true rfl) (Nat.le_of_ble_eq_true rfl) dL_wears_18 ⟨_, rfl, Or.inl ⟨hA, hB, hC, rfl, zm_u2s, zR_same hW9 hR9 (fun l hl => ⟨rfl, zm_u2r (by unfold zr_cl at hl; omega), rfl⟩)⟩, h89, fun l hl => ⟨(hS9 l (by unfold zr_out; omega)).1, (zm_u2r (by omega)).trans (hS9 l (by unfold zr_out; omega)).2.1, (hS9 l (by unfold zr_out; omega)).2.2⟩⟩
theorem W_struck (S : zS) (sh : zm_Sh) (mi : zm_Mi) (mr : zm_Mr) (hW : zW S) (hR : zR S sh mi mr) (h8 : sh 8 = some (3, 1)) (s : Int32) : zz_Con yL_struck (.codeWith yL_struck cL_struck 4 (some Jvm.ClassFile.FieldType.int) [((0 : Nat), (9 : Nat), (12 : Nat), (21 : Nat))]) 11 10 60 [.ref 2, .int s, .ref 8] sh mi mr (zq_w ((zs_ix s (zv_ns S))) (True) (True) (nI 1) (nI 0) (nI 0) (nI (zv_sk S (zn s))) S (S) sh mi mr) zz_none := by
  refine zz_beginH RL [(0, .ref 2), (1, .int s), (2, .ref 8)] (by decide) rfl rfl (Nat.le_of_ble_eq_true rfl) rfl ?_
  intro Γ D E ad hX hr hT
  refine zz_aload_n hX dL_struck_0 2 rfl rfl ?_
  refine zz_iconst (v := nI 0) hX dL_struck_1 rfl ?_
  refine zz_aload_n hX dL_struck_2 0 rfl rfl ?_
  refine zz_iload_n hX dL_struck_3 1 rfl rfl ?_
  refine zz_callV hX zf_M_L_93 (As := [.int s]) (st := [.int (nI 0), .ref 8]) (P_struck S sh mi mr hW hR s ) hR.1.1 rfl rfl rfl (by decide) (Nat.le_of_ble_eq_true rfl) (Nat.le_of_ble_eq_true rfl) (Nat.le_of_ble_eq_true rfl) dL_struck_4 ?_ ?_
  rotate_left
  · rintro e9 s9 i9 m9 ⟨hq, e2, e3, e4⟩ -
    obtain rfl := e2.symm
    obtain rfl := e3.symm
    obtain rfl := e4.symm
    rcases hq with ⟨rfl, q1⟩ | ⟨rfl, q1, q2⟩ | ⟨rfl, q1, q2, q3⟩
    · refine zz_catch hX (pre := []) (suf := []) (a := 0) (b := 9) (h9 := 12) (k := 21) (i := 3) (len := 1) hT rfl (fun _ h => nomatch h) (by decide) (by decide) zw_cl_L_21 zw_cast_I (Or.inl ⟨3, rfl, dL_struck_12, rfl⟩) (Nat.le_of_ble_eq_true rfl) ?_
      refine zz_iconst (v := nI 1) hX dL_struck_13 rfl ?_
      exact zz_iret hX hr rfl (Nat.le_of_ble_eq_true rfl) (Nat.le_of_ble_eq_true rfl) dL_struck_14 ⟨_, rfl, Or.inr (Or.inl ⟨q1, rfl, hR⟩), h8, fun l hl => ⟨rfl, rfl, rfl⟩⟩
    · exact absurd trivial q2
    · exact absurd trivial q3
  rintro v9 s9 i9 m9 ⟨⟨hA, hB, hC⟩, e1, hR9, hS9⟩ -
  obtain rfl := e1.symm
  have h89 : s9 8 = some (3, 1) := (hS9 8 (Or.inr ⟨by decide, by decide⟩)).1.trans h8
  have hW9 := U_struck hW s  hA hB hC
  refine zz_i2l hX dL_struck_7 ?_
  refine zz_last hX h89 0 (x := nI (zv_sk S (zn s))) rfl rfl (by decide) (by decide) dL_struck_8 ?_
  refine zz_goto hX 15 dL_struck_9 rfl ?_
  refine zz_iconst (v := nI 0) hX dL_struck_15 rfl ?_
  exact zz_iret hX hr rfl (Nat.le_of_ble_eq_true rfl) (Nat.le_of_ble_eq_true rfl) dL_struck_16 ⟨_, rfl, Or.inl ⟨hA, hB, hC, rfl, zm_u2s, zR_same hW9 hR9 (fun l hl => ⟨rfl, zm_u2r (by unfold zr_cl at hl; omega), rfl⟩)⟩, h89, fun l hl => ⟨(hS9 l (by unfold zr_out; omega)).1, (zm_u2r (by omega)).trans (hS9 l (by unfold zr_out; omega)).2.1, (hS9 l (by unfold zr_out; omega)).2.2⟩⟩
theorem W_pose (S : zS) (sh : zm_Sh) (mi : zm_Mi) (mr : zm_Mr) (hW : zW S) (hR : zR S sh mi mr) (h8 : sh 8 = some (3, 1)) (s jx fx : Int32) : zz_Con yL_pose (.codeWith yL_pose cL_pose 6 (some Jvm.ClassFile.FieldType.int) [((0 : Nat), (12 : Nat), (15 : Nat), (21 : Nat))]) 11 10 60 [.ref 2, .int s, .int jx, .int fx, .ref 8] sh mi mr (zq_w ((zs_ix s (zv_ns S)) ∧ (zs_ix jx (zv_jn S (zv_pu S (zn s)))) ∧ (zs_ix fx (zv_sk S (zn s)))) (True) (True) (nI 1) (nI 0) (nI 0) (S 22 (48 * (6 * zn s + zn jx) + zn fx)) S (S) sh mi mr) zz_none := by
  refine zz_beginH RL [(0, .ref 2), (1, .int s), (2, .int jx), (3, .int fx), (4, .ref 8)] (by decide) rfl rfl (Nat.le_of_ble_eq_true rfl) rfl ?_
  intro Γ D E ad hX hr hT
  refine zz_aload hX dL_pose_0 4 rfl ?_
  refine zz_iconst (v := nI 0) hX dL_pose_2 rfl ?_
  refine zz_aload_n hX dL_pose_3 0 rfl rfl ?_
  refine zz_iload_n hX dL_pose_4 1 rfl rfl ?_
  refine zz_iload_n hX dL_pose_5 2 rfl rfl ?_
  refine zz_iload_n hX dL_pose_6 3 rfl rfl ?_
  refine zz_callV hX zf_M_L_96 (As := [.int s, .int jx, .int fx]) (st := [.int (nI 0), .ref 8]) (P_pose S sh mi mr hW hR s jx fx ) hR.1.1 rfl rfl rfl (by decide) (Nat.le_of_ble_eq_true rfl) (Nat.le_of_ble_eq_true rfl) (Nat.le_of_ble_eq_true rfl) dL_pose_7 ?_ ?_
  rotate_left
  · rintro e9 s9 i9 m9 ⟨hq, e2, e3, e4⟩ -
    obtain rfl := e2.symm
    obtain rfl := e3.symm
    obtain rfl := e4.symm
    rcases hq with ⟨rfl, q1⟩ | ⟨rfl, q1, q2⟩ | ⟨rfl, q1, q2, q3⟩
    · refine zz_catch hX (pre := []) (suf := []) (a := 0) (b := 12) (h9 := 15) (k := 21) (i := 5) (len := 2) hT rfl (fun _ h => nomatch h) (by decide) (by decide) zw_cl_L_21 zw_cast_I (Or.inr ⟨dL_pose_15, rfl⟩) (Nat.le_of_ble_eq_true rfl) ?_
      refine zz_iconst (v := nI 1) hX dL_pose_17 rfl ?_
      exact zz_iret hX hr rfl (Nat.le_of_ble_eq_true rfl) (Nat.le_of_ble_eq_true rfl) dL_pose_18 ⟨_, rfl, Or.inr (Or.inl ⟨q1, rfl, hR⟩), h8, fun l hl => ⟨rfl, rfl, rfl⟩⟩
    · exact absurd trivial q2
    · exact absurd trivial q3
  rintro v9 s9 i9 m9 ⟨⟨hA, hB, hC⟩, e1, hR9, hS9⟩ -
  obtain rfl := e1.symm
  have h89 : s9 8 = some (3, 1) := (hS9 8 (Or.inr ⟨by decide, by decide⟩)).1.trans h8
  have hW9 := U_pose hW s jx fx  hA hB hC
  refine zz_i2l hX dL_pose_10 ?_
  refine zz_last hX h89 0 (x := S 22 (48 * (6 * zn s + zn jx) + zn fx)) rfl rfl (by decide) (by decide) dL_pose_11 ?_
  refine zz_goto hX 19 dL_pose_12 rfl ?_
  refine zz_iconst (v := nI 0) hX dL_pose_19 rfl ?_
  exact zz_iret hX hr rfl (Nat.le_of_ble_eq_true rfl) (Nat.le_of_ble_eq_true rfl) dL_pose_20 ⟨_, rfl, Or.inl ⟨hA, hB, hC, rfl, zm_u2s, zR_same hW9 hR9 (fun l hl => ⟨rfl, zm_u2r (by unfold zr_cl at hl; omega), rfl⟩)⟩, h89, fun l hl => ⟨(hS9 l (by unfold zr_out; omega)).1, (zm_u2r (by omega)).trans (hS9 l (by unfold zr_out; omega)).2.1, (hS9 l (by unfold zr_out; omega)).2.2⟩⟩
theorem W_ofFrame (S : zS) (sh : zm_Sh) (mi : zm_Mi) (mr : zm_Mr) (hW : zW S) (hR : zR S sh mi mr) (h8 : sh 8 = some (3, 1)) (s fx x : Int32) : zz_Con yL_ofFrame (.codeWith yL_ofFrame cL_ofFrame 6 (some Jvm.ClassFile.FieldType.int) [((0 : Nat), (12 : Nat), (15 : Nat), (21 : Nat)), ((0 : Nat), (12 : Nat), (19 : Nat), (13 : Nat))]) 11 10 60 [.ref 2, .int s, .int fx, .int x, .ref 8] sh mi mr (zq_w ((zs_ix s (zv_ns S)) ∧ (zs_ix fx (zv_sk S (zn s)))) ((nI 0 ≤ x ∧ x ≤ nI 3)) (True) (nI 1) (nI 2) (nI 0) (if x = nI 0 then S 23 (48 * zn s + zn fx) else if x = nI 1 then S 25 (48 * zn s + zn fx) else if x = nI 2 then S 26 (48 * zn s + zn fx) else S 27 (48 * zn s + zn fx)) S (S) sh mi mr) zz_none := by
  refine zz_beginH RL [(0, .ref 2), (1, .int s), (2, .int fx), (3, .int x), (4, .ref 8)] (by decide) rfl rfl (Nat.le_of_ble_eq_true rfl) rfl ?_
  intro Γ D E ad hX hr hT
  refine zz_aload hX dL_ofFrame_0 4 rfl ?_
  refine zz_iconst (v := nI 0) hX dL_ofFrame_2 rfl ?_
  refine zz_aload_n hX dL_ofFrame_3 0 rfl rfl ?_
  refine zz_iload_n hX dL_ofFrame_4 1 rfl rfl ?_
  refine zz_iload_n hX dL_ofFrame_5 2 rfl rfl ?_
  refine zz_iload_n hX dL_ofFrame_6 3 rfl rfl ?_
  refine zz_callV hX zf_M_L_99 (As := [.int s, .int fx, .int x]) (st := [.int (nI 0), .ref 8]) (P_ofFrame S sh mi mr hW hR s fx x ) hR.1.1 rfl rfl rfl (by decide) (Nat.le_of_ble_eq_true rfl) (Nat.le_of_ble_eq_true rfl) (Nat.le_of_ble_eq_true rfl) dL_ofFrame_7 ?_ ?_
  rotate_left
  · rintro e9 s9 i9 m9 ⟨hq, e2, e3, e4⟩ -
    obtain rfl := e2.symm
    obtain rfl := e3.symm
    obtain rfl := e4.symm
    rcases hq with ⟨rfl, q1⟩ | ⟨rfl, q1, q2⟩ | ⟨rfl, q1, q2, q3⟩
    · refine zz_catch hX (pre := []) (suf := [((0 : Nat), (12 : Nat), (19 : Nat), (13 : Nat))]) (a := 0) (b := 12) (h9 := 15) (k := 21) (i := 5) (len := 2) hT rfl (fun _ h => nomatch h) (by decide) (by decide) zw_cl_L_21 zw_cast_I (Or.inr ⟨dL_ofFrame_15, rfl⟩) (Nat.le_of_ble_eq_true rfl) ?_
      refine zz_iconst (v := nI 1) hX dL_ofFrame_17 rfl ?_
      exact zz_iret hX hr rfl (Nat.le_of_ble_eq_true rfl) (Nat.le_of_ble_eq_true rfl) dL_ofFrame_18 ⟨_, rfl, Or.inr (Or.inl ⟨q1, rfl, hR⟩), h8, fun l hl => ⟨rfl, rfl, rfl⟩⟩
    · refine zz_catch hX (pre := [((0 : Nat), (12 : Nat), (15 : Nat), (21 : Nat))]) (suf := []) (a := 0) (b := 12) (h9 := 19) (k := 13) (i := 5) (len := 2) hT rfl (List.forall_mem_cons.mpr ⟨⟨zx_I, (by decide), zw_cl_L_21, zk_nc_AI⟩, (fun _ h => nomatch h)⟩) (by decide) (by decide) zw_cl_L_13 zw_cast_A (Or.inr ⟨dL_ofFrame_19, rfl⟩) (Nat.le_of_ble_eq_true rfl) ?_
      refine zz_iconst (v := nI 2) hX dL_ofFrame_21 rfl ?_
      exact zz_iret hX hr rfl (Nat.le_of_ble_eq_true rfl) (Nat.le_of_ble_eq_true rfl) dL_ofFrame_22 ⟨_, rfl, Or.inr (Or.inr (Or.inl ⟨q1, q2, rfl, hR⟩)), h8, fun l hl => ⟨rfl, rfl, rfl⟩⟩
    · exact absurd trivial q3
  rintro v9 s9 i9 m9 ⟨⟨hA, hB, hC⟩, e1, hR9, hS9⟩ -
  obtain rfl := e1.symm
  have h89 : s9 8 = some (3, 1) := (hS9 8 (Or.inr ⟨by decide, by decide⟩)).1.trans h8
  have hW9 := U_ofFrame hW s fx x  hA hB hC
  refine zz_i2l hX dL_ofFrame_10 ?_
  refine zz_last hX h89 0 (x := if x = nI 0 then S 23 (48 * zn s + zn fx) else if x = nI 1 then S 25 (48 * zn s + zn fx) else if x = nI 2 then S 26 (48 * zn s + zn fx) else S 27 (48 * zn s + zn fx)) rfl rfl (by decide) (by decide) dL_ofFrame_11 ?_
  refine zz_goto hX 23 dL_ofFrame_12 rfl ?_
  refine zz_iconst (v := nI 0) hX dL_ofFrame_23 rfl ?_
  exact zz_iret hX hr rfl (Nat.le_of_ble_eq_true rfl) (Nat.le_of_ble_eq_true rfl) dL_ofFrame_24 ⟨_, rfl, Or.inl ⟨hA, hB, hC, rfl, zm_u2s, zR_same hW9 hR9 (fun l hl => ⟨rfl, zm_u2r (by unfold zr_cl at hl; omega), rfl⟩)⟩, h89, fun l hl => ⟨(hS9 l (by unfold zr_out; omega)).1, (zm_u2r (by omega)).trans (hS9 l (by unfold zr_out; omega)).2.1, (hS9 l (by unfold zr_out; omega)).2.2⟩⟩
theorem W_faults (S : zS) (sh : zm_Sh) (mi : zm_Mi) (mr : zm_Mr) (hW : zW S) (hR : zR S sh mi mr) (h8 : sh 8 = some (3, 1)) (s fx : Int32) : zz_Con yL_faults (.codeWith yL_faults cL_faults 5 (some Jvm.ClassFile.FieldType.int) [((0 : Nat), (10 : Nat), (13 : Nat), (21 : Nat))]) 11 10 60 [.ref 2, .int s, .int fx, .ref 8] sh mi mr (zq_w ((zs_ix s (zv_ns S)) ∧ (zs_ix fx (zv_sk S (zn s)))) (True) (True) (nI 1) (nI 0) (nI 0) (zp_faults S (zn s) (zn fx)) S (S) sh mi mr) zz_none := by
  refine zz_beginH RL [(0, .ref 2), (1, .int s), (2, .int fx), (3, .ref 8)] (by decide) rfl rfl (Nat.le_of_ble_eq_true rfl) rfl ?_
  intro Γ D E ad hX hr hT
  refine zz_aload_n hX dL_faults_0 3 rfl rfl ?_
  refine zz_iconst (v := nI 0) hX dL_faults_1 rfl ?_
  refine zz_aload_n hX dL_faults_2 0 rfl rfl ?_
  refine zz_iload_n hX dL_faults_3 1 rfl rfl ?_
  refine zz_iload_n hX dL_faults_4 2 rfl rfl ?_
  refine zz_callV hX zf_M_L_102 (As := [.int s, .int fx]) (st := [.int (nI 0), .ref 8]) (P_faults S sh mi mr hW hR s fx ) hR.1.1 rfl rfl rfl (by decide) (Nat.le_of_ble_eq_true rfl) (Nat.le_of_ble_eq_true rfl) (Nat.le_of_ble_eq_true rfl) dL_faults_5 ?_ ?_
  rotate_left
  · rintro e9 s9 i9 m9 ⟨hq, e2, e3, e4⟩ -
    obtain rfl := e2.symm
    obtain rfl := e3.symm
    obtain rfl := e4.symm
    rcases hq with ⟨rfl, q1⟩ | ⟨rfl, q1, q2⟩ | ⟨rfl, q1, q2, q3⟩
    · refine zz_catch hX (pre := []) (suf := []) (a := 0) (b := 10) (h9 := 13) (k := 21) (i := 4) (len := 2) hT rfl (fun _ h => nomatch h) (by decide) (by decide) zw_cl_L_21 zw_cast_I (Or.inr ⟨dL_faults_13, rfl⟩) (Nat.le_of_ble_eq_true rfl) ?_
      refine zz_iconst (v := nI 1) hX dL_faults_15 rfl ?_
      exact zz_iret hX hr rfl (Nat.le_of_ble_eq_true rfl) (Nat.le_of_ble_eq_true rfl) dL_faults_16 ⟨_, rfl, Or.inr (Or.inl ⟨q1, rfl, hR⟩), h8, fun l hl => ⟨rfl, rfl, rfl⟩⟩
    · exact absurd trivial q2
    · exact absurd trivial q3
  rintro v9 s9 i9 m9 ⟨⟨hA, hB, hC⟩, e1, hR9, hS9⟩ -
  obtain rfl := e1.symm
  have h89 : s9 8 = some (3, 1) := (hS9 8 (Or.inr ⟨by decide, by decide⟩)).1.trans h8
  have hW9 := U_faults hW s fx  hA hB hC
  refine zz_i2l hX dL_faults_8 ?_
  refine zz_last hX h89 0 (x := zp_faults S (zn s) (zn fx)) rfl rfl (by decide) (by decide) dL_faults_9 ?_
  refine zz_goto hX 17 dL_faults_10 rfl ?_
  refine zz_iconst (v := nI 0) hX dL_faults_17 rfl ?_
  exact zz_iret hX hr rfl (Nat.le_of_ble_eq_true rfl) (Nat.le_of_ble_eq_true rfl) dL_faults_18 ⟨_, rfl, Or.inl ⟨hA, hB, hC, rfl, zm_u2s, zR_same hW9 hR9 (fun l hl => ⟨rfl, zm_u2r (by unfold zr_cl at hl; omega), rfl⟩)⟩, h89, fun l hl => ⟨(hS9 l (by unfold zr_out; omega)).1, (zm_u2r (by omega)).trans (hS9 l (by unfold zr_out; omega)).2.1, (hS9 l (by unfold zr_out; omega)).2.2⟩⟩
theorem W_ofJoint (S : zS) (sh : zm_Sh) (mi : zm_Mi) (mr : zm_Mr) (hW : zW S) (hR : zR S sh mi mr) (h8 : sh 8 = some (3, 1)) (px jx x : Int32) : zz_Con yL_ofJoint (.codeWith yL_ofJoint cL_ofJoint 6 (some Jvm.ClassFile.FieldType.int) [((0 : Nat), (12 : Nat), (15 : Nat), (21 : Nat)), ((0 : Nat), (12 : Nat), (19 : Nat), (13 : Nat))]) 11 10 60 [.ref 2, .int px, .int jx, .int x, .ref 8] sh mi mr (zq_w ((zs_ix px (zv_np S)) ∧ (zs_ix jx (zv_jn S (zn px)))) ((nI 0 ≤ x ∧ x ≤ nI 1)) (True) (nI 1) (nI 2) (nI 0) (if x = 0 then S 2 (6 * zn px + zn jx) else S 3 (6 * zn px + zn jx)) S (S) sh mi mr) zz_none := by
  refine zz_beginH RL [(0, .ref 2), (1, .int px), (2, .int jx), (3, .int x), (4, .ref 8)] (by decide) rfl rfl (Nat.le_of_ble_eq_true rfl) rfl ?_
  intro Γ D E ad hX hr hT
  refine zz_aload hX dL_ofJoint_0 4 rfl ?_
  refine zz_iconst (v := nI 0) hX dL_ofJoint_2 rfl ?_
  refine zz_aload_n hX dL_ofJoint_3 0 rfl rfl ?_
  refine zz_iload_n hX dL_ofJoint_4 1 rfl rfl ?_
  refine zz_iload_n hX dL_ofJoint_5 2 rfl rfl ?_
  refine zz_iload_n hX dL_ofJoint_6 3 rfl rfl ?_
  refine zz_callV hX zf_M_L_105 (As := [.int px, .int jx, .int x]) (st := [.int (nI 0), .ref 8]) (P_ofJoint S sh mi mr hW hR px jx x ) hR.1.1 rfl rfl rfl (by decide) (Nat.le_of_ble_eq_true rfl) (Nat.le_of_ble_eq_true rfl) (Nat.le_of_ble_eq_true rfl) dL_ofJoint_7 ?_ ?_
  rotate_left
  · rintro e9 s9 i9 m9 ⟨hq, e2, e3, e4⟩ -
    obtain rfl := e2.symm
    obtain rfl := e3.symm
    obtain rfl := e4.symm
    rcases hq with ⟨rfl, q1⟩ | ⟨rfl, q1, q2⟩ | ⟨rfl, q1, q2, q3⟩
    · refine zz_catch hX (pre := []) (suf := [((0 : Nat), (12 : Nat), (19 : Nat), (13 : Nat))]) (a := 0) (b := 12) (h9 := 15) (k := 21) (i := 5) (len := 2) hT rfl (fun _ h => nomatch h) (by decide) (by decide) zw_cl_L_21 zw_cast_I (Or.inr ⟨dL_ofJoint_15, rfl⟩) (Nat.le_of_ble_eq_true rfl) ?_
      refine zz_iconst (v := nI 1) hX dL_ofJoint_17 rfl ?_
      exact zz_iret hX hr rfl (Nat.le_of_ble_eq_true rfl) (Nat.le_of_ble_eq_true rfl) dL_ofJoint_18 ⟨_, rfl, Or.inr (Or.inl ⟨q1, rfl, hR⟩), h8, fun l hl => ⟨rfl, rfl, rfl⟩⟩
    · refine zz_catch hX (pre := [((0 : Nat), (12 : Nat), (15 : Nat), (21 : Nat))]) (suf := []) (a := 0) (b := 12) (h9 := 19) (k := 13) (i := 5) (len := 2) hT rfl (List.forall_mem_cons.mpr ⟨⟨zx_I, (by decide), zw_cl_L_21, zk_nc_AI⟩, (fun _ h => nomatch h)⟩) (by decide) (by decide) zw_cl_L_13 zw_cast_A (Or.inr ⟨dL_ofJoint_19, rfl⟩) (Nat.le_of_ble_eq_true rfl) ?_
      refine zz_iconst (v := nI 2) hX dL_ofJoint_21 rfl ?_
      exact zz_iret hX hr rfl (Nat.le_of_ble_eq_true rfl) (Nat.le_of_ble_eq_true rfl) dL_ofJoint_22 ⟨_, rfl, Or.inr (Or.inr (Or.inl ⟨q1, q2, rfl, hR⟩)), h8, fun l hl => ⟨rfl, rfl, rfl⟩⟩
    · exact absurd trivial q3
  rintro v9 s9 i9 m9 ⟨⟨hA, hB, hC⟩, e1, hR9, hS9⟩ -
  obtain rfl := e1.symm
  have h89 : s9 8 = some (3, 1) := (hS9 8 (Or.inr ⟨by decide, by decide⟩)).1.trans h8
  have hW9 := U_ofJoint hW px jx x  hA hB hC
  refine zz_i2l hX dL_ofJoint_10 ?_
  refine zz_last hX h89 0 (x := if x = 0 then S 2 (6 * zn px + zn jx) else S 3 (6 * zn px + zn jx)) rfl rfl (by decide) (by decide) dL_ofJoint_11 ?_
  refine zz_goto hX 23 dL_ofJoint_12 rfl ?_
  refine zz_iconst (v := nI 0) hX dL_ofJoint_23 rfl ?_
  exact zz_iret hX hr rfl (Nat.le_of_ble_eq_true rfl) (Nat.le_of_ble_eq_true rfl) dL_ofJoint_24 ⟨_, rfl, Or.inl ⟨hA, hB, hC, rfl, zm_u2s, zR_same hW9 hR9 (fun l hl => ⟨rfl, zm_u2r (by unfold zr_cl at hl; omega), rfl⟩)⟩, h89, fun l hl => ⟨(hS9 l (by unfold zr_out; omega)).1, (zm_u2r (by omega)).trans (hS9 l (by unfold zr_out; omega)).2.1, (hS9 l (by unfold zr_out; omega)).2.2⟩⟩
theorem W_left (S : zS) (sh : zm_Sh) (mi : zm_Mi) (mr : zm_Mr) (hW : zW S) (hR : zR S sh mi mr) (h8 : sh 8 = some (3, 1)) (px s : Int32) : zz_Con yL_left (.codeWith yL_left cL_left 5 (some Jvm.ClassFile.FieldType.int) [((0 : Nat), (10 : Nat), (13 : Nat), (21 : Nat)), ((0 : Nat), (10 : Nat), (17 : Nat), (13 : Nat))]) 11 10 60 [.ref 2, .int px, .int s, .ref 8] sh mi mr (zq_w ((zs_ix px (zv_np S))) ((nI 0 ≤ s ∧ s ≤ nI 9)) (True) (nI 1) (nI 2) (nI 0) (S 4 (10 * zn px + zn s)) S (S) sh mi mr) zz_none := by
  refine zz_beginH RL [(0, .ref 2), (1, .int px), (2, .int s), (3, .ref 8)] (by decide) rfl rfl (Nat.le_of_ble_eq_true rfl) rfl ?_
  intro Γ D E ad hX hr hT
  refine zz_aload_n hX dL_left_0 3 rfl rfl ?_
  refine zz_iconst (v := nI 0) hX dL_left_1 rfl ?_
  refine zz_aload_n hX dL_left_2 0 rfl rfl ?_
  refine zz_iload_n hX dL_left_3 1 rfl rfl ?_
  refine zz_iload_n hX dL_left_4 2 rfl rfl ?_
  refine zz_callV hX zf_M_L_108 (As := [.int px, .int s]) (st := [.int (nI 0), .ref 8]) (P_left S sh mi mr hW hR px s ) hR.1.1 rfl rfl rfl (by decide) (Nat.le_of_ble_eq_true rfl) (Nat.le_of_ble_eq_true rfl) (Nat.le_of_ble_eq_true rfl) dL_left_5 ?_ ?_
  rotate_left
  · rintro e9 s9 i9 m9 ⟨hq, e2, e3, e4⟩ -
    obtain rfl := e2.symm
    obtain rfl := e3.symm
    obtain rfl := e4.symm
    rcases hq with ⟨rfl, q1⟩ | ⟨rfl, q1, q2⟩ | ⟨rfl, q1, q2, q3⟩
    · refine zz_catch hX (pre := []) (suf := [((0 : Nat), (10 : Nat), (17 : Nat), (13 : Nat))]) (a := 0) (b := 10) (h9 := 13) (k := 21) (i := 4) (len := 2) hT rfl (fun _ h => nomatch h) (by decide) (by decide) zw_cl_L_21 zw_cast_I (Or.inr ⟨dL_left_13, rfl⟩) (Nat.le_of_ble_eq_true rfl) ?_
      refine zz_iconst (v := nI 1) hX dL_left_15 rfl ?_
      exact zz_iret hX hr rfl (Nat.le_of_ble_eq_true rfl) (Nat.le_of_ble_eq_true rfl) dL_left_16 ⟨_, rfl, Or.inr (Or.inl ⟨q1, rfl, hR⟩), h8, fun l hl => ⟨rfl, rfl, rfl⟩⟩
    · refine zz_catch hX (pre := [((0 : Nat), (10 : Nat), (13 : Nat), (21 : Nat))]) (suf := []) (a := 0) (b := 10) (h9 := 17) (k := 13) (i := 4) (len := 2) hT rfl (List.forall_mem_cons.mpr ⟨⟨zx_I, (by decide), zw_cl_L_21, zk_nc_AI⟩, (fun _ h => nomatch h)⟩) (by decide) (by decide) zw_cl_L_13 zw_cast_A (Or.inr ⟨dL_left_17, rfl⟩) (Nat.le_of_ble_eq_true rfl) ?_
      refine zz_iconst (v := nI 2) hX dL_left_19 rfl ?_
      exact zz_iret hX hr rfl (Nat.le_of_ble_eq_true rfl) (Nat.le_of_ble_eq_true rfl) dL_left_20 ⟨_, rfl, Or.inr (Or.inr (Or.inl ⟨q1, q2, rfl, hR⟩)), h8, fun l hl => ⟨rfl, rfl, rfl⟩⟩
    · exact absurd trivial q3
  rintro v9 s9 i9 m9 ⟨⟨hA, hB, hC⟩, e1, hR9, hS9⟩ -
  obtain rfl := e1.symm
  have h89 : s9 8 = some (3, 1) := (hS9 8 (Or.inr ⟨by decide, by decide⟩)).1.trans h8
  have hW9 := U_left hW px s  hA hB hC
  refine zz_i2l hX dL_left_8 ?_
  refine zz_last hX h89 0 (x := S 4 (10 * zn px + zn s)) rfl rfl (by decide) (by decide) dL_left_9 ?_
  refine zz_goto hX 21 dL_left_10 rfl ?_
  refine zz_iconst (v := nI 0) hX dL_left_21 rfl ?_
  exact zz_iret hX hr rfl (Nat.le_of_ble_eq_true rfl) (Nat.le_of_ble_eq_true rfl) dL_left_22 ⟨_, rfl, Or.inl ⟨hA, hB, hC, rfl, zm_u2s, zR_same hW9 hR9 (fun l hl => ⟨rfl, zm_u2r (by unfold zr_cl at hl; omega), rfl⟩)⟩, h89, fun l hl => ⟨(hS9 l (by unfold zr_out; omega)).1, (zm_u2r (by omega)).trans (hS9 l (by unfold zr_out; omega)).2.1, (hS9 l (by unfold zr_out; omega)).2.2⟩⟩
theorem W_film (S : zS) (sh : zm_Sh) (mi : zm_Mi) (mr : zm_Mr) (hW : zW S) (hR : zR S sh mi mr) (h8 : sh 8 = some (3, 1)) (x : Int32) : zz_Con yL_film (.codeWith yL_film cL_film 4 (some Jvm.ClassFile.FieldType.int) [((0 : Nat), (9 : Nat), (12 : Nat), (21 : Nat))]) 11 10 60 [.ref 2, .int x, .ref 8] sh mi mr (zq_w (((0 : Int32) ≤ x)) (True) (True) (nI 1) (nI 0) (nI 0) (zp_atfilm S x) S (S) sh mi mr) zz_none := by
  refine zz_beginH RL [(0, .ref 2), (1, .int x), (2, .ref 8)] (by decide) rfl rfl (Nat.le_of_ble_eq_true rfl) rfl ?_
  intro Γ D E ad hX hr hT
  refine zz_aload_n hX dL_film_0 2 rfl rfl ?_
  refine zz_iconst (v := nI 0) hX dL_film_1 rfl ?_
  refine zz_aload_n hX dL_film_2 0 rfl rfl ?_
  refine zz_iload_n hX dL_film_3 1 rfl rfl ?_
  refine zz_callV hX zf_M_L_111 (As := [.int x]) (st := [.int (nI 0), .ref 8]) (P_film S sh mi mr hW hR x ) hR.1.1 rfl rfl rfl (by decide) (Nat.le_of_ble_eq_true rfl) (Nat.le_of_ble_eq_true rfl) (Nat.le_of_ble_eq_true rfl) dL_film_4 ?_ ?_
  rotate_left
  · rintro e9 s9 i9 m9 ⟨hq, e2, e3, e4⟩ -
    obtain rfl := e2.symm
    obtain rfl := e3.symm
    obtain rfl := e4.symm
    rcases hq with ⟨rfl, q1⟩ | ⟨rfl, q1, q2⟩ | ⟨rfl, q1, q2, q3⟩
    · refine zz_catch hX (pre := []) (suf := []) (a := 0) (b := 9) (h9 := 12) (k := 21) (i := 3) (len := 1) hT rfl (fun _ h => nomatch h) (by decide) (by decide) zw_cl_L_21 zw_cast_I (Or.inl ⟨3, rfl, dL_film_12, rfl⟩) (Nat.le_of_ble_eq_true rfl) ?_
      refine zz_iconst (v := nI 1) hX dL_film_13 rfl ?_
      exact zz_iret hX hr rfl (Nat.le_of_ble_eq_true rfl) (Nat.le_of_ble_eq_true rfl) dL_film_14 ⟨_, rfl, Or.inr (Or.inl ⟨q1, rfl, hR⟩), h8, fun l hl => ⟨rfl, rfl, rfl⟩⟩
    · exact absurd trivial q2
    · exact absurd trivial q3
  rintro v9 s9 i9 m9 ⟨⟨hA, hB, hC⟩, e1, hR9, hS9⟩ -
  obtain rfl := e1.symm
  have h89 : s9 8 = some (3, 1) := (hS9 8 (Or.inr ⟨by decide, by decide⟩)).1.trans h8
  have hW9 := U_film hW x  hA hB hC
  refine zz_i2l hX dL_film_7 ?_
  refine zz_last hX h89 0 (x := zp_atfilm S x) rfl rfl (by decide) (by decide) dL_film_8 ?_
  refine zz_goto hX 15 dL_film_9 rfl ?_
  refine zz_iconst (v := nI 0) hX dL_film_15 rfl ?_
  exact zz_iret hX hr rfl (Nat.le_of_ble_eq_true rfl) (Nat.le_of_ble_eq_true rfl) dL_film_16 ⟨_, rfl, Or.inl ⟨hA, hB, hC, rfl, zm_u2s, zR_same hW9 hR9 (fun l hl => ⟨rfl, zm_u2r (by unfold zr_cl at hl; omega), rfl⟩)⟩, h89, fun l hl => ⟨(hS9 l (by unfold zr_out; omega)).1, (zm_u2r (by omega)).trans (hS9 l (by unfold zr_out; omega)).2.1, (hS9 l (by unfold zr_out; omega)).2.2⟩⟩
