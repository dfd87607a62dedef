/-! ===== the law's caller: an answer, or a code for what is thrown ===== -/
def zq_d (A B C : Prop) (a : Int32) (S S' : zS) (sh : zm_Sh) (mi : zm_Mi) (mr : zm_Mr) : Option Value → zm_Sh → zm_Mi → zm_Mr → Prop := fun v s i m => ∃ k : Int32, v = some (.int k) ∧ ((A ∧ B ∧ C ∧ k = a ∧ zR S' s i m) ∨ (¬ A ∧ k = -3000000 ∧ zR S s i m) ∨ (A ∧ ¬ B ∧ k = -2000000 ∧ zR S s i m) ∨ (A ∧ B ∧ ¬ C ∧ k = -1000000 ∧ zR S s i m)) ∧ zr_same zr_out sh mi mr s i m
theorem zq_d_of {A B C A' B' C' : Prop} {a k : Int32} {S S' : zS} {s : zm_Sh} {i : zm_Mi} {m : zm_Mr} (ea : A ↔ A') (eb : A' → (B ↔ B')) (ec : A' → B' → (C ↔ C')) (h : (A ∧ B ∧ C ∧ k = a ∧ zR S' s i m) ∨ (¬ A ∧ k = -3000000 ∧ zR S s i m) ∨ (A ∧ ¬ B ∧ k = -2000000 ∧ zR S s i m) ∨ (A ∧ B ∧ ¬ C ∧ k = -1000000 ∧ zR S s i m)) :
    (A' ∧ B' ∧ C' ∧ k = a ∧ zR S' s i m) ∨ (¬ A' ∧ k = -3000000 ∧ zR S s i m) ∨ (A' ∧ ¬ B' ∧ k = -2000000 ∧ zR S s i m) ∨ (A' ∧ B' ∧ ¬ C' ∧ k = -1000000 ∧ zR S s i m) := by
  rcases h with ⟨h1, h2, h3, h4⟩ | ⟨h1, h4⟩ | ⟨h1, h2, h4⟩ | ⟨h1, h2, h3, h4⟩
  · have a1 := ea.mp h1
    have b1 := (eb a1).mp h2
    exact Or.inl ⟨a1, b1, (ec a1 b1).mp h3, h4⟩
  · exact Or.inr (Or.inl ⟨fun q => h1 (ea.mpr q), h4⟩)
  · have a1 := ea.mp h1
    exact Or.inr (Or.inr (Or.inl ⟨a1, fun q => h2 ((eb a1).mpr q), h4⟩))
  · have a1 := ea.mp h1
    have b1 := (eb a1).mp h2
    exact Or.inr (Or.inr (Or.inr ⟨a1, b1, fun q => h3 ((ec a1 b1).mpr q), h4⟩))
theorem zw_cast_I : Cond.castable zx_I zx_I ∈ lw_tbl := (List.mem_of_getElem? (i := 110) (by decide +kernel))
theorem zw_cast_A : Cond.castable zx_A zx_A ∈ lw_tbl := (List.mem_of_getElem? (i := 195) (by decide +kernel))
theorem zw_cast_S : Cond.castable zx_S zx_S ∈ lw_tbl := (List.mem_of_getElem? (i := 211) (by decide +kernel))
theorem zk_nc_IA : (zx_I, zx_A) ∈ zk_nc := by decide +kernel
theorem zk_nc_IS : (zx_I, zx_S) ∈ zk_nc := by decide +kernel
theorem zk_nc_AI : (zx_A, zx_I) ∈ zk_nc := by decide +kernel
theorem zk_nc_AS : (zx_A, zx_S) ∈ zk_nc := by decide +kernel
theorem zk_nc_SI : (zx_S, zx_I) ∈ zk_nc := by decide +kernel
theorem zk_nc_SA : (zx_S, zx_A) ∈ zk_nc := by decide +kernel
theorem ql_one {S : zS} (h : zW S) {a : Nat} (hn : ¬ S 17 a = 0) : S 17 a = nI 1 := (h.2.2.2.2.2.2.2.2.2 a).resolve_left hn
set_option maxRecDepth 20000 in
theorem D_puppet (S : zS) (sh : zm_Sh) (mi : zm_Mi) (mr : zm_Mr) (hW : zW S) (hR : zR S sh mi mr) (x w1 w2 w3 : Int32) : zz_Con yL_does (.codeWith yL_does cL_does 7 (some Jvm.ClassFile.FieldType.int) [((0 : Nat), (338 : Nat), (339 : Nat), (82 : Nat)), ((0 : Nat), (338 : Nat), (344 : Nat), (85 : Nat)), ((0 : Nat), (338 : Nat), (349 : Nat), (88 : Nat))]) 11 10 60 [.ref 2, .int (nI 0), .int x, .int w1, .int w2, .int w3] sh mi mr (zq_d (True) ((nI 1 ≤ x ∧ x ≤ nI 6)) ((zv_np S < 5)) (nI (zv_np S)) S (zt_puppet S x) sh mi mr) zz_none := by
  refine zz_beginH RL [(0, .ref 2), (1, .int (nI 0)), (2, .int x), (3, .int w1), (4, .int w2), (5, .int w3)] (by decide) rfl rfl (Nat.le_of_ble_eq_true rfl) rfl ?_
  intro Γ D E ad hX hr hT
  refine zz_iload_n hX dL_does_0 1 rfl rfl ?_
  refine zz_if_ne hX 12 dL_does_1 (by decide) (fun c => absurd c (by decide)) (fun _ => ?_)
  refine zz_aload_n hX dL_does_4 0 rfl rfl ?_
  refine zz_iload_n hX dL_does_5 2 rfl rfl ?_
  refine zz_callV hX zf_M_L_8 (As := [.int x]) (st := []) (P_puppet S sh mi mr hW hR x) hR.1.1 rfl rfl rfl (by decide) (Nat.le_of_ble_eq_true rfl) (Nat.le_of_ble_eq_true rfl) (Nat.le_of_ble_eq_true rfl) dL_does_6 ?_ ?_
  rotate_left
  · rintro e9 s9 i9 m9 ⟨hq, e2, e3, e4⟩ -
    obtain rfl := e2.symm
    obtain rfl := e3.symm
    obtain rfl := e4.symm
    rcases hq with ⟨rfl, q1⟩ | ⟨rfl, q1, q2⟩ | ⟨rfl, q1, q2, q3⟩
    · skip
      refine zz_catch hX (pre := []) (suf := [((0 : Nat), (338 : Nat), (344 : Nat), (85 : Nat)), ((0 : Nat), (338 : Nat), (349 : Nat), (88 : Nat))]) (a := 0) (b := 338) (h9 := 339) (k := 82) (i := 6) (len := 2) hT rfl (fun _ h => nomatch h) (by decide) (by decide) zw_cl_L_82 zw_cast_I (Or.inr ⟨dL_does_339, rfl⟩) (Nat.le_of_ble_eq_true rfl) ?_
      refine zz_ldc (v := -3000000) hX zw_con_L_84 dL_does_341 ?_
      exact zz_iret hX hr rfl (Nat.le_of_ble_eq_true rfl) (Nat.le_of_ble_eq_true rfl) dL_does_343 ⟨_, rfl, Or.inr (Or.inl ⟨q1, rfl, hR⟩), zr_same.rfl'⟩
    · skip
      refine zz_catch hX (pre := [((0 : Nat), (338 : Nat), (339 : Nat), (82 : Nat))]) (suf := [((0 : Nat), (338 : Nat), (349 : Nat), (88 : Nat))]) (a := 0) (b := 338) (h9 := 344) (k := 85) (i := 6) (len := 2) hT rfl (List.forall_mem_cons.mpr ⟨⟨zx_I, (by decide), zw_cl_L_82, zk_nc_AI⟩, (fun _ h => nomatch h)⟩) (by decide) (by decide) zw_cl_L_85 zw_cast_A (Or.inr ⟨dL_does_344, rfl⟩) (Nat.le_of_ble_eq_true rfl) ?_
      refine zz_ldc (v := -2000000) hX zw_con_L_87 dL_does_346 ?_
      exact zz_iret hX hr rfl (Nat.le_of_ble_eq_true rfl) (Nat.le_of_ble_eq_true rfl) dL_does_348 ⟨_, rfl, Or.inr (Or.inr (Or.inl ⟨q1, q2, rfl, hR⟩)), zr_same.rfl'⟩
    · skip
      refine zz_catch hX (pre := [((0 : Nat), (338 : Nat), (339 : Nat), (82 : Nat)), ((0 : Nat), (338 : Nat), (344 : Nat), (85 : Nat))]) (suf := []) (a := 0) (b := 338) (h9 := 349) (k := 88) (i := 6) (len := 2) hT rfl (List.forall_mem_cons.mpr ⟨⟨zx_I, (by decide), zw_cl_L_82, zk_nc_SI⟩, (List.forall_mem_cons.mpr ⟨⟨zx_A, (by decide), zw_cl_L_85, zk_nc_SA⟩, (fun _ h => nomatch h)⟩)⟩) (by decide) (by decide) zw_cl_L_88 zw_cast_S (Or.inr ⟨dL_does_349, rfl⟩) (Nat.le_of_ble_eq_true rfl) ?_
      refine zz_ldc (v := -1000000) hX zw_con_L_90 dL_does_351 ?_
      exact zz_iret hX hr rfl (Nat.le_of_ble_eq_true rfl) (Nat.le_of_ble_eq_true rfl) dL_does_353 ⟨_, rfl, Or.inr (Or.inr (Or.inr ⟨q1, q2, q3, rfl, hR⟩)), zr_same.rfl'⟩
  rintro v9 s9 i9 m9 ⟨⟨hA, hB, hC⟩, e1, hR9, hS9⟩ -
  obtain rfl := e1.symm
  refine zz_goto hX 338 dL_does_9 (by decide) ?_
  refine zz_iret hX hr rfl (Nat.le_of_ble_eq_true rfl) (Nat.le_of_ble_eq_true rfl) dL_does_338 ?_
  exact ⟨_, rfl, Or.inl ⟨hA, hB, hC, rfl, hR9⟩, hS9⟩
set_option maxRecDepth 20000 in
theorem D_mouths (S : zS) (sh : zm_Sh) (mi : zm_Mi) (mr : zm_Mr) (hW : zW S) (hR : zR S sh mi mr) (px s n w3 : Int32) : zz_Con yL_does (.codeWith yL_does cL_does 7 (some Jvm.ClassFile.FieldType.int) [((0 : Nat), (338 : Nat), (339 : Nat), (82 : Nat)), ((0 : Nat), (338 : Nat), (344 : Nat), (85 : Nat)), ((0 : Nat), (338 : Nat), (349 : Nat), (88 : Nat))]) 11 10 60 [.ref 2, .int (nI 1), .int px, .int s, .int n, .int w3] sh mi mr (zq_d ((zs_ix px (zv_np S))) ((nI 0 ≤ s ∧ s ≤ nI 9) ∧ (nI 1 ≤ n ∧ n ≤ nI 9)) ((S 4 (10 * zn px + zn s) + n ≤ nI 9)) (S 4 (10 * zn px + zn s) + n) S ((zm_u2 S 4 (10 * zn px + zn s) (S 4 (10 * zn px + zn s) + n))) sh mi mr) zz_none := by
  refine zz_beginH RL [(0, .ref 2), (1, .int (nI 1)), (2, .int px), (3, .int s), (4, .int n), (5, .int w3)] (by decide) rfl rfl (Nat.le_of_ble_eq_true rfl) rfl ?_
  intro Γ D E ad hX hr hT
  refine zz_iload_n hX dL_does_0 1 rfl rfl ?_
  refine zz_if_ne hX 12 dL_does_1 (by decide) (fun _ => ?_) (fun c => absurd c (by decide))
  refine zz_iload_n hX dL_does_12 1 rfl rfl ?_
  refine zz_iconst (v := nI 1) hX dL_does_13 rfl ?_
  refine zz_icmp_ne hX 28 dL_does_14 (by decide) (fun c => absurd c (by decide)) (fun _ => ?_)
  refine zz_aload_n hX dL_does_17 0 rfl rfl ?_
  refine zz_iload_n hX dL_does_18 2 rfl rfl ?_
  refine zz_iload_n hX dL_does_19 3 rfl rfl ?_
  refine zz_iload hX dL_does_20 4 rfl ?_
  refine zz_callV hX zf_M_L_14 (As := [.int px, .int s, .int n]) (st := []) (P_mouths S sh mi mr hW hR px s n) hR.1.1 rfl rfl rfl (by decide) (Nat.le_of_ble_eq_true rfl) (Nat.le_of_ble_eq_true rfl) (Nat.le_of_ble_eq_true rfl) dL_does_22 ?_ ?_
  rotate_left
  · rintro e9 s9 i9 m9 ⟨hq, e2, e3, e4⟩ -
    obtain rfl := e2.symm
    obtain rfl := e3.symm
    obtain rfl := e4.symm
    rcases hq with ⟨rfl, q1⟩ | ⟨rfl, q1, q2⟩ | ⟨rfl, q1, q2, q3⟩
    · skip
      refine zz_catch hX (pre := []) (suf := [((0 : Nat), (338 : Nat), (344 : Nat), (85 : Nat)), ((0 : Nat), (338 : Nat), (349 : Nat), (88 : Nat))]) (a := 0) (b := 338) (h9 := 339) (k := 82) (i := 6) (len := 2) hT rfl (fun _ h => nomatch h) (by decide) (by decide) zw_cl_L_82 zw_cast_I (Or.inr ⟨dL_does_339, rfl⟩) (Nat.le_of_ble_eq_true rfl) ?_
      refine zz_ldc (v := -3000000) hX zw_con_L_84 dL_does_341 ?_
      exact zz_iret hX hr rfl (Nat.le_of_ble_eq_true rfl) (Nat.le_of_ble_eq_true rfl) dL_does_343 ⟨_, rfl, Or.inr (Or.inl ⟨q1, rfl, hR⟩), zr_same.rfl'⟩
    · skip
      refine zz_catch hX (pre := [((0 : Nat), (338 : Nat), (339 : Nat), (82 : Nat))]) (suf := [((0 : Nat), (338 : Nat), (349 : Nat), (88 : Nat))]) (a := 0) (b := 338) (h9 := 344) (k := 85) (i := 6) (len := 2) hT rfl (List.forall_mem_cons.mpr ⟨⟨zx_I, (by decide), zw_cl_L_82, zk_nc_AI⟩, (fun _ h => nomatch h)⟩) (by decide) (by decide) zw_cl_L_85 zw_cast_A (Or.inr ⟨dL_does_344, rfl⟩) (Nat.le_of_ble_eq_true rfl) ?_
      refine zz_ldc (v := -2000000) hX zw_con_L_87 dL_does_346 ?_
      exact zz_iret hX hr rfl (Nat.le_of_ble_eq_true rfl) (Nat.le_of_ble_eq_true rfl) dL_does_348 ⟨_, rfl, Or.inr (Or.inr (Or.inl ⟨q1, q2, rfl, hR⟩)), zr_same.rfl'⟩
    · skip
      refine zz_catch hX (pre := [((0 : Nat), (338 : Nat), (339 : Nat), (82 : Nat)), ((0 : Nat), (338 : Nat), (344 : Nat), (85 : Nat))]) (suf := []) (a := 0) (b := 338) (h9 := 349) (k := 88) (i := 6) (len := 2) hT rfl (List.forall_mem_cons.mpr ⟨⟨zx_I, (by decide), zw_cl_L_82, zk_nc_SI⟩, (List.forall_mem_cons.mpr ⟨⟨zx_A, (by decide), zw_cl_L_85, zk_nc_SA⟩, (fun _ h => nomatch h)⟩)⟩) (by decide) (by decide) zw_cl_L_88 zw_cast_S (Or.inr ⟨dL_does_349, rfl⟩) (Nat.le_of_ble_eq_true rfl) ?_
      refine zz_ldc (v := -1000000) hX zw_con_L_90 dL_does_351 ?_
      exact zz_iret hX hr rfl (Nat.le_of_ble_eq_true rfl) (Nat.le_of_ble_eq_true rfl) dL_does_353 ⟨_, rfl, Or.inr (Or.inr (Or.inr ⟨q1, q2, q3, rfl, hR⟩)), zr_same.rfl'⟩
  rintro v9 s9 i9 m9 ⟨⟨hA, hB, hC⟩, e1, hR9, hS9⟩ -
  obtain rfl := e1.symm
  refine zz_goto hX 338 dL_does_25 (by decide) ?_
  refine zz_iret hX hr rfl (Nat.le_of_ble_eq_true rfl) (Nat.le_of_ble_eq_true rfl) dL_does_338 ?_
  exact ⟨_, rfl, Or.inl ⟨hA, hB, hC, rfl, hR9⟩, hS9⟩
set_option maxRecDepth 20000 in
theorem D_sound (S : zS) (sh : zm_Sh) (mi : zm_Mi) (mr : zm_Mr) (hW : zW S) (hR : zR S sh mi mr) (x f w2 w3 : Int32) : zz_Con yL_does (.codeWith yL_does cL_does 7 (some Jvm.ClassFile.FieldType.int) [((0 : Nat), (338 : Nat), (339 : Nat), (82 : Nat)), ((0 : Nat), (338 : Nat), (344 : Nat), (85 : Nat)), ((0 : Nat), (338 : Nat), (349 : Nat), (88 : Nat))]) 11 10 60 [.ref 2, .int (nI 2), .int x, .int f, .int w2, .int w3] sh mi mr (zq_d (True) ((nI 0 ≤ x ∧ x ≤ nI 9) ∧ (nI 1 ≤ f ∧ f ≤ nI 24)) ((zv_sc S (zv_nv S) < 12)) (nI (zv_sc S (zv_nv S) + 1)) S (zt_sound S x f) sh mi mr) zz_none := by
  refine zz_beginH RL [(0, .ref 2), (1, .int (nI 2)), (2, .int x), (3, .int f), (4, .int w2), (5, .int w3)] (by decide) rfl rfl (Nat.le_of_ble_eq_true rfl) rfl ?_
  intro Γ D E ad hX hr hT
  refine zz_iload_n hX dL_does_0 1 rfl rfl ?_
  refine zz_if_ne hX 12 dL_does_1 (by decide) (fun _ => ?_) (fun c => absurd c (by decide))
  refine zz_iload_n hX dL_does_12 1 rfl rfl ?_
  refine zz_iconst (v := nI 1) hX dL_does_13 rfl ?_
  refine zz_icmp_ne hX 28 dL_does_14 (by decide) (fun _ => ?_) (fun c => absurd c (by decide))
  refine zz_iload_n hX dL_does_28 1 rfl rfl ?_
  refine zz_iconst (v := nI 2) hX dL_does_29 rfl ?_
  refine zz_icmp_ne hX 42 dL_does_30 (by decide) (fun c => absurd c (by decide)) (fun _ => ?_)
  refine zz_aload_n hX dL_does_33 0 rfl rfl ?_
  refine zz_iload_n hX dL_does_34 2 rfl rfl ?_
  refine zz_iload_n hX dL_does_35 3 rfl rfl ?_
  refine zz_callV hX zf_M_L_18 (As := [.int x, .int f]) (st := []) (P_sound S sh mi mr hW hR x f) hR.1.1 rfl rfl rfl (by decide) (Nat.le_of_ble_eq_true rfl) (Nat.le_of_ble_eq_true rfl) (Nat.le_of_ble_eq_true rfl) dL_does_36 ?_ ?_
  rotate_left
  · rintro e9 s9 i9 m9 ⟨hq, e2, e3, e4⟩ -
    obtain rfl := e2.symm
    obtain rfl := e3.symm
    obtain rfl := e4.symm
    rcases hq with ⟨rfl, q1⟩ | ⟨rfl, q1, q2⟩ | ⟨rfl, q1, q2, q3⟩
    · skip
      refine zz_catch hX (pre := []) (suf := [((0 : Nat), (338 : Nat), (344 : Nat), (85 : Nat)), ((0 : Nat), (338 : Nat), (349 : Nat), (88 : Nat))]) (a := 0) (b := 338) (h9 := 339) (k := 82) (i := 6) (len := 2) hT rfl (fun _ h => nomatch h) (by decide) (by decide) zw_cl_L_82 zw_cast_I (Or.inr ⟨dL_does_339, rfl⟩) (Nat.le_of_ble_eq_true rfl) ?_
      refine zz_ldc (v := -3000000) hX zw_con_L_84 dL_does_341 ?_
      exact zz_iret hX hr rfl (Nat.le_of_ble_eq_true rfl) (Nat.le_of_ble_eq_true rfl) dL_does_343 ⟨_, rfl, Or.inr (Or.inl ⟨q1, rfl, hR⟩), zr_same.rfl'⟩
    · skip
      refine zz_catch hX (pre := [((0 : Nat), (338 : Nat), (339 : Nat), (82 : Nat))]) (suf := [((0 : Nat), (338 : Nat), (349 : Nat), (88 : Nat))]) (a := 0) (b := 338) (h9 := 344) (k := 85) (i := 6) (len := 2) hT rfl (List.forall_mem_cons.mpr ⟨⟨zx_I, (by decide), zw_cl_L_82, zk_nc_AI⟩, (fun _ h => nomatch h)⟩) (by decide) (by decide) zw_cl_L_85 zw_cast_A (Or.inr ⟨dL_does_344, rfl⟩) (Nat.le_of_ble_eq_true rfl) ?_
      refine zz_ldc (v := -2000000) hX zw_con_L_87 dL_does_346 ?_
      exact zz_iret hX hr rfl (Nat.le_of_ble_eq_true rfl) (Nat.le_of_ble_eq_true rfl) dL_does_348 ⟨_, rfl, Or.inr (Or.inr (Or.inl ⟨q1, q2, rfl, hR⟩)), zr_same.rfl'⟩
    · skip
      refine zz_catch hX (pre := [((0 : Nat), (338 : Nat), (339 : Nat), (82 : Nat)), ((0 : Nat), (338 : Nat), (344 : Nat), (85 : Nat))]) (suf := []) (a := 0) (b := 338) (h9 := 349) (k := 88) (i := 6) (len := 2) hT rfl (List.forall_mem_cons.mpr ⟨⟨zx_I, (by decide), zw_cl_L_82, zk_nc_SI⟩, (List.forall_mem_cons.mpr ⟨⟨zx_A, (by decide), zw_cl_L_85, zk_nc_SA⟩, (fun _ h => nomatch h)⟩)⟩) (by decide) (by decide) zw_cl_L_88 zw_cast_S (Or.inr ⟨dL_does_349, rfl⟩) (Nat.le_of_ble_eq_true rfl) ?_
      refine zz_ldc (v := -1000000) hX zw_con_L_90 dL_does_351 ?_
      exact zz_iret hX hr rfl (Nat.le_of_ble_eq_true rfl) (Nat.le_of_ble_eq_true rfl) dL_does_353 ⟨_, rfl, Or.inr (Or.inr (Or.inr ⟨q1, q2, q3, rfl, hR⟩)), zr_same.rfl'⟩
  rintro v9 s9 i9 m9 ⟨⟨hA, hB, hC⟩, e1, hR9, hS9⟩ -
  obtain rfl := e1.symm
  refine zz_goto hX 338 dL_does_39 (by decide) ?_
  refine zz_iret hX hr rfl (Nat.le_of_ble_eq_true rfl) (Nat.le_of_ble_eq_true rfl) dL_does_338 ?_
  exact ⟨_, rfl, Or.inl ⟨hA, hB, hC, rfl, hR9⟩, hS9⟩
set_option maxRecDepth 20000 in
theorem D_voice (S : zS) (sh : zm_Sh) (mi : zm_Mi) (mr : zm_Mr) (hW : zW S) (hR : zR S sh mi mr) (w0 w1 w2 w3 : Int32) : zz_Con yL_does (.codeWith yL_does cL_does 7 (some Jvm.ClassFile.FieldType.int) [((0 : Nat), (338 : Nat), (339 : Nat), (82 : Nat)), ((0 : Nat), (338 : Nat), (344 : Nat), (85 : Nat)), ((0 : Nat), (338 : Nat), (349 : Nat), (88 : Nat))]) 11 10 60 [.ref 2, .int (nI 3), .int w0, .int w1, .int w2, .int w3] sh mi mr (zq_d (True) (True) ((¬ zv_sc S (zv_nv S) = 0) ∧ (zv_nv S < 6)) (nI (zv_nv S)) S (zt_voice S) sh mi mr) zz_none := by
  refine zz_beginH RL [(0, .ref 2), (1, .int (nI 3)), (2, .int w0), (3, .int w1), (4, .int w2), (5, .int w3)] (by decide) rfl rfl (Nat.le_of_ble_eq_true rfl) rfl ?_
  intro Γ D E ad hX hr hT
  refine zz_iload_n hX dL_does_0 1 rfl rfl ?_
  refine zz_if_ne hX 12 dL_does_1 (by decide) (fun _ => ?_) (fun c => absurd c (by decide))
  refine zz_iload_n hX dL_does_12 1 rfl rfl ?_
  refine zz_iconst (v := nI 1) hX dL_does_13 rfl ?_
  refine zz_icmp_ne hX 28 dL_does_14 (by decide) (fun _ => ?_) (fun c => absurd c (by decide))
  refine zz_iload_n hX dL_does_28 1 rfl rfl ?_
  refine zz_iconst (v := nI 2) hX dL_does_29 rfl ?_
  refine zz_icmp_ne hX 42 dL_does_30 (by decide) (fun _ => ?_) (fun c => absurd c (by decide))
  refine zz_iload_n hX dL_does_42 1 rfl rfl ?_
  refine zz_iconst (v := nI 3) hX dL_does_43 rfl ?_
  refine zz_icmp_ne hX 54 dL_does_44 (by decide) (fun c => absurd c (by decide)) (fun _ => ?_)
  refine zz_aload_n hX dL_does_47 0 rfl rfl ?_
  refine zz_callV hX zf_M_L_22 (As := []) (st := []) (P_voice S sh mi mr hW hR ) hR.1.1 rfl rfl rfl (by decide) (Nat.le_of_ble_eq_true rfl) (Nat.le_of_ble_eq_true rfl) (Nat.le_of_ble_eq_true rfl) dL_does_48 ?_ ?_
  rotate_left
  · rintro e9 s9 i9 m9 ⟨hq, e2, e3, e4⟩ -
    obtain rfl := e2.symm
    obtain rfl := e3.symm
    obtain rfl := e4.symm
    rcases hq with ⟨rfl, q1⟩ | ⟨rfl, q1, q2⟩ | ⟨rfl, q1, q2, q3⟩
    · skip
      refine zz_catch hX (pre := []) (suf := [((0 : Nat), (338 : Nat), (344 : Nat), (85 : Nat)), ((0 : Nat), (338 : Nat), (349 : Nat), (88 : Nat))]) (a := 0) (b := 338) (h9 := 339) (k := 82) (i := 6) (len := 2) hT rfl (fun _ h => nomatch h) (by decide) (by decide) zw_cl_L_82 zw_cast_I (Or.inr ⟨dL_does_339, rfl⟩) (Nat.le_of_ble_eq_true rfl) ?_
      refine zz_ldc (v := -3000000) hX zw_con_L_84 dL_does_341 ?_
      exact zz_iret hX hr rfl (Nat.le_of_ble_eq_true rfl) (Nat.le_of_ble_eq_true rfl) dL_does_343 ⟨_, rfl, Or.inr (Or.inl ⟨q1, rfl, hR⟩), zr_same.rfl'⟩
    · skip
      refine zz_catch hX (pre := [((0 : Nat), (338 : Nat), (339 : Nat), (82 : Nat))]) (suf := [((0 : Nat), (338 : Nat), (349 : Nat), (88 : Nat))]) (a := 0) (b := 338) (h9 := 344) (k := 85) (i := 6) (len := 2) hT rfl (List.forall_mem_cons.mpr ⟨⟨zx_I, (by decide), zw_cl_L_82, zk_nc_AI⟩, (fun _ h => nomatch h)⟩) (by decide) (by decide) zw_cl_L_85 zw_cast_A (Or.inr ⟨dL_does_344, rfl⟩) (Nat.le_of_ble_eq_true rfl) ?_
      refine zz_ldc (v := -2000000) hX zw_con_L_87 dL_does_346 ?_
      exact zz_iret hX hr rfl (Nat.le_of_ble_eq_true rfl) (Nat.le_of_ble_eq_true rfl) dL_does_348 ⟨_, rfl, Or.inr (Or.inr (Or.inl ⟨q1, q2, rfl, hR⟩)), zr_same.rfl'⟩
    · skip
      refine zz_catch hX (pre := [((0 : Nat), (338 : Nat), (339 : Nat), (82 : Nat)), ((0 : Nat), (338 : Nat), (344 : Nat), (85 : Nat))]) (suf := []) (a := 0) (b := 338) (h9 := 349) (k := 88) (i := 6) (len := 2) hT rfl (List.forall_mem_cons.mpr ⟨⟨zx_I, (by decide), zw_cl_L_82, zk_nc_SI⟩, (List.forall_mem_cons.mpr ⟨⟨zx_A, (by decide), zw_cl_L_85, zk_nc_SA⟩, (fun _ h => nomatch h)⟩)⟩) (by decide) (by decide) zw_cl_L_88 zw_cast_S (Or.inr ⟨dL_does_349, rfl⟩) (Nat.le_of_ble_eq_true rfl) ?_
      refine zz_ldc (v := -1000000) hX zw_con_L_90 dL_does_351 ?_
      exact zz_iret hX hr rfl (Nat.le_of_ble_eq_true rfl) (Nat.le_of_ble_eq_true rfl) dL_does_353 ⟨_, rfl, Or.inr (Or.inr (Or.inr ⟨q1, q2, q3, rfl, hR⟩)), zr_same.rfl'⟩
  rintro v9 s9 i9 m9 ⟨⟨hA, hB, hC⟩, e1, hR9, hS9⟩ -
  obtain rfl := e1.symm
  refine zz_goto hX 338 dL_does_51 (by decide) ?_
  refine zz_iret hX hr rfl (Nat.le_of_ble_eq_true rfl) (Nat.le_of_ble_eq_true rfl) dL_does_338 ?_
  exact ⟨_, rfl, Or.inl ⟨hA, hB, hC, rfl, hR9⟩, hS9⟩
set_option maxRecDepth 20000 in
theorem D_shot (S : zS) (sh : zm_Sh) (mi : zm_Mi) (mr : zm_Mr) (hW : zW S) (hR : zR S sh mi mr) (px nx tx v : Int32) : zz_Con yL_does (.codeWith yL_does cL_does 7 (some Jvm.ClassFile.FieldType.int) [((0 : Nat), (338 : Nat), (339 : Nat), (82 : Nat)), ((0 : Nat), (338 : Nat), (344 : Nat), (85 : Nat)), ((0 : Nat), (338 : Nat), (349 : Nat), (88 : Nat))]) 11 50 1400 [.ref 2, .int (nI 4), .int px, .int nx, .int tx, .int v] sh mi mr (zq_d ((zs_ix px (zv_np S)) ∧ (v = -1 ∨ zs_ix v (zv_nv S))) ((nI 1 ≤ nx ∧ nx ≤ nI 48) ∧ (nI 1 ≤ tx ∧ tx ≤ nI 2)) ((zv_ns S < 8)) (nI (zv_ns S)) S (zt_shot S px nx tx v) sh mi mr) zz_none := by
  refine zz_beginH RL [(0, .ref 2), (1, .int (nI 4)), (2, .int px), (3, .int nx), (4, .int tx), (5, .int v)] (by decide) rfl rfl (Nat.le_of_ble_eq_true rfl) rfl ?_
  intro Γ D E ad hX hr hT
  refine zz_iload_n hX dL_does_0 1 rfl rfl ?_
  refine zz_if_ne hX 12 dL_does_1 (by decide) (fun _ => ?_) (fun c => absurd c (by decide))
  refine zz_iload_n hX dL_does_12 1 rfl rfl ?_
  refine zz_iconst (v := nI 1) hX dL_does_13 rfl ?_
  refine zz_icmp_ne hX 28 dL_does_14 (by decide) (fun _ => ?_) (fun c => absurd c (by decide))
  refine zz_iload_n hX dL_does_28 1 rfl rfl ?_
  refine zz_iconst (v := nI 2) hX dL_does_29 rfl ?_
  refine zz_icmp_ne hX 42 dL_does_30 (by decide) (fun _ => ?_) (fun c => absurd c (by decide))
  refine zz_iload_n hX dL_does_42 1 rfl rfl ?_
  refine zz_iconst (v := nI 3) hX dL_does_43 rfl ?_
  refine zz_icmp_ne hX 54 dL_does_44 (by decide) (fun _ => ?_) (fun c => absurd c (by decide))
  refine zz_iload_n hX dL_does_54 1 rfl rfl ?_
  refine zz_iconst (v := nI 4) hX dL_does_55 rfl ?_
  refine zz_icmp_ne hX 72 dL_does_56 (by decide) (fun c => absurd c (by decide)) (fun _ => ?_)
  refine zz_aload_n hX dL_does_59 0 rfl rfl ?_
  refine zz_iload_n hX dL_does_60 2 rfl rfl ?_
  refine zz_iload_n hX dL_does_61 3 rfl rfl ?_
  refine zz_iload hX dL_does_62 4 rfl ?_
  refine zz_iload hX dL_does_64 5 rfl ?_
  refine zz_callV hX zf_M_L_26 (As := [.int px, .int nx, .int tx, .int v]) (st := []) (P_shot S sh mi mr hW hR px nx tx v) hR.1.1 rfl rfl rfl (by decide) (Nat.le_of_ble_eq_true rfl) (Nat.le_of_ble_eq_true rfl) (Nat.le_of_ble_eq_true rfl) dL_does_66 ?_ ?_
  rotate_left
  · rintro e9 s9 i9 m9 ⟨hq, e2, e3, e4⟩ -
    obtain rfl := e2.symm
    obtain rfl := e3.symm
    obtain rfl := e4.symm
    rcases hq with ⟨rfl, q1⟩ | ⟨rfl, q1, q2⟩ | ⟨rfl, q1, q2, q3⟩
    · skip
      refine zz_catch hX (pre := []) (suf := [((0 : Nat), (338 : Nat), (344 : Nat), (85 : Nat)), ((0 : Nat), (338 : Nat), (349 : Nat), (88 : Nat))]) (a := 0) (b := 338) (h9 := 339) (k := 82) (i := 6) (len := 2) hT rfl (fun _ h => nomatch h) (by decide) (by decide) zw_cl_L_82 zw_cast_I (Or.inr ⟨dL_does_339, rfl⟩) (Nat.le_of_ble_eq_true rfl) ?_
      refine zz_ldc (v := -3000000) hX zw_con_L_84 dL_does_341 ?_
      exact zz_iret hX hr rfl (Nat.le_of_ble_eq_true rfl) (Nat.le_of_ble_eq_true rfl) dL_does_343 ⟨_, rfl, Or.inr (Or.inl ⟨q1, rfl, hR⟩), zr_same.rfl'⟩
    · skip
      refine zz_catch hX (pre := [((0 : Nat), (338 : Nat), (339 : Nat), (82 : Nat))]) (suf := [((0 : Nat), (338 : Nat), (349 : Nat), (88 : Nat))]) (a := 0) (b := 338) (h9 := 344) (k := 85) (i := 6) (len := 2) hT rfl (List.forall_mem_cons.mpr ⟨⟨zx_I, (by decide), zw_cl_L_82, zk_nc_AI⟩, (fun _ h => nomatch h)⟩) (by decide) (by decide) zw_cl_L_85 zw_cast_A (Or.inr ⟨dL_does_344, rfl⟩) (Nat.le_of_ble_eq_true rfl) ?_
      refine zz_ldc (v := -2000000) hX zw_con_L_87 dL_does_346 ?_
      exact zz_iret hX hr rfl (Nat.le_of_ble_eq_true rfl) (Nat.le_of_ble_eq_true rfl) dL_does_348 ⟨_, rfl, Or.inr (Or.inr (Or.inl ⟨q1, q2, rfl, hR⟩)), zr_same.rfl'⟩
    · skip
      refine zz_catch hX (pre := [((0 : Nat), (338 : Nat), (339 : Nat), (82 : Nat)), ((0 : Nat), (338 : Nat), (344 : Nat), (85 : Nat))]) (suf := []) (a := 0) (b := 338) (h9 := 349) (k := 88) (i := 6) (len := 2) hT rfl (List.forall_mem_cons.mpr ⟨⟨zx_I, (by decide), zw_cl_L_82, zk_nc_SI⟩, (List.forall_mem_cons.mpr ⟨⟨zx_A, (by decide), zw_cl_L_85, zk_nc_SA⟩, (fun _ h => nomatch h)⟩)⟩) (by decide) (by decide) zw_cl_L_88 zw_cast_S (Or.inr ⟨dL_does_349, rfl⟩) (Nat.le_of_ble_eq_true rfl) ?_
      refine zz_ldc (v := -1000000) hX zw_con_L_90 dL_does_351 ?_
      exact zz_iret hX hr rfl (Nat.le_of_ble_eq_true rfl) (Nat.le_of_ble_eq_true rfl) dL_does_353 ⟨_, rfl, Or.inr (Or.inr (Or.inr ⟨q1, q2, q3, rfl, hR⟩)), zr_same.rfl'⟩
  rintro v9 s9 i9 m9 ⟨⟨hA, hB, hC⟩, e1, hR9, hS9⟩ -
  obtain rfl := e1.symm
  refine zz_goto hX 338 dL_does_69 (by decide) ?_
  refine zz_iret hX hr rfl (Nat.le_of_ble_eq_true rfl) (Nat.le_of_ble_eq_true rfl) dL_does_338 ?_
  exact ⟨_, rfl, Or.inl ⟨hA, hB, hC, rfl, hR9⟩, hS9⟩
set_option maxRecDepth 20000 in
theorem D_assign (S : zS) (sh : zm_Sh) (mi : zm_Mi) (mr : zm_Mr) (hW : zW S) (hR : zR S sh mi mr) (s ax w2 w3 : Int32) : zz_Con yL_does (.codeWith yL_does cL_does 7 (some Jvm.ClassFile.FieldType.int) [((0 : Nat), (338 : Nat), (339 : Nat), (82 : Nat)), ((0 : Nat), (338 : Nat), (344 : Nat), (85 : Nat)), ((0 : Nat), (338 : Nat), (349 : Nat), (88 : Nat))]) 11 10 60 [.ref 2, .int (nI 5), .int s, .int ax, .int w2, .int w3] sh mi mr (zq_d ((zs_ix s (zv_ns S)) ∧ (zs_ix ax 5)) (True) ((¬ zv_fr S (zn s) ≤ zv_sk S (zn s)) ∧ (0 < zv_sk S (zn s) → (¬ S 14 (zn s) = -1 ∧ ¬ S 17 (zn (S 14 (zn s))) = 0))) (S 14 (zn s)) S ((zm_u2 S 14 (zn s) (ax))) sh mi mr) zz_none := by
  refine zz_beginH RL [(0, .ref 2), (1, .int (nI 5)), (2, .int s), (3, .int ax), (4, .int w2), (5, .int w3)] (by decide) rfl rfl (Nat.le_of_ble_eq_true rfl) rfl ?_
  intro Γ D E ad hX hr hT
  refine zz_iload_n hX dL_does_0 1 rfl rfl ?_
  refine zz_if_ne hX 12 dL_does_1 (by decide) (fun _ => ?_) (fun c => absurd c (by decide))
  refine zz_iload_n hX dL_does_12 1 rfl rfl ?_
  refine zz_iconst (v := nI 1) hX dL_does_13 rfl ?_
  refine zz_icmp_ne hX 28 dL_does_14 (by decide) (fun _ => ?_) (fun c => absurd c (by decide))
  refine zz_iload_n hX dL_does_28 1 rfl rfl ?_
  refine zz_iconst (v := nI 2) hX dL_does_29 rfl ?_
  refine zz_icmp_ne hX 42 dL_does_30 (by decide) (fun _ => ?_) (fun c => absurd c (by decide))
  refine zz_iload_n hX dL_does_42 1 rfl rfl ?_
  refine zz_iconst (v := nI 3) hX dL_does_43 rfl ?_
  refine zz_icmp_ne hX 54 dL_does_44 (by decide) (fun _ => ?_) (fun c => absurd c (by decide))
  refine zz_iload_n hX dL_does_54 1 rfl rfl ?_
  refine zz_iconst (v := nI 4) hX dL_does_55 rfl ?_
  refine zz_icmp_ne hX 72 dL_does_56 (by decide) (fun _ => ?_) (fun c => absurd c (by decide))
  refine zz_iload_n hX dL_does_72 1 rfl rfl ?_
  refine zz_iconst (v := nI 5) hX dL_does_73 rfl ?_
  refine zz_icmp_ne hX 86 dL_does_74 (by decide) (fun c => absurd c (by decide)) (fun _ => ?_)
  refine zz_aload_n hX dL_does_77 0 rfl rfl ?_
  refine zz_iload_n hX dL_does_78 2 rfl rfl ?_
  refine zz_iload_n hX dL_does_79 3 rfl rfl ?_
  refine zz_callV hX zf_M_L_30 (As := [.int s, .int ax]) (st := []) (P_assign S sh mi mr hW hR s ax) hR.1.1 rfl rfl rfl (by decide) (Nat.le_of_ble_eq_true rfl) (Nat.le_of_ble_eq_true rfl) (Nat.le_of_ble_eq_true rfl) dL_does_80 ?_ ?_
  rotate_left
  · rintro e9 s9 i9 m9 ⟨hq, e2, e3, e4⟩ -
    obtain rfl := e2.symm
    obtain rfl := e3.symm
    obtain rfl := e4.symm
    rcases hq with ⟨rfl, q1⟩ | ⟨rfl, q1, q2⟩ | ⟨rfl, q1, q2, q3⟩
    · skip
      refine zz_catch hX (pre := []) (suf := [((0 : Nat), (338 : Nat), (344 : Nat), (85 : Nat)), ((0 : Nat), (338 : Nat), (349 : Nat), (88 : Nat))]) (a := 0) (b := 338) (h9 := 339) (k := 82) (i := 6) (len := 2) hT rfl (fun _ h => nomatch h) (by decide) (by decide) zw_cl_L_82 zw_cast_I (Or.inr ⟨dL_does_339, rfl⟩) (Nat.le_of_ble_eq_true rfl) ?_
      refine zz_ldc (v := -3000000) hX zw_con_L_84 dL_does_341 ?_
      exact zz_iret hX hr rfl (Nat.le_of_ble_eq_true rfl) (Nat.le_of_ble_eq_true rfl) dL_does_343 ⟨_, rfl, Or.inr (Or.inl ⟨q1, rfl, hR⟩), zr_same.rfl'⟩
    · skip
      refine zz_catch hX (pre := [((0 : Nat), (338 : Nat), (339 : Nat), (82 : Nat))]) (suf := [((0 : Nat), (338 : Nat), (349 : Nat), (88 : Nat))]) (a := 0) (b := 338) (h9 := 344) (k := 85) (i := 6) (len := 2) hT rfl (List.forall_mem_cons.mpr ⟨⟨zx_I, (by decide), zw_cl_L_82, zk_nc_AI⟩, (fun _ h => nomatch h)⟩) (by decide) (by decide) zw_cl_L_85 zw_cast_A (Or.inr ⟨dL_does_344, rfl⟩) (Nat.le_of_ble_eq_true rfl) ?_
      refine zz_ldc (v := -2000000) hX zw_con_L_87 dL_does_346 ?_
      exact zz_iret hX hr rfl (Nat.le_of_ble_eq_true rfl) (Nat.le_of_ble_eq_true rfl) dL_does_348 ⟨_, rfl, Or.inr (Or.inr (Or.inl ⟨q1, q2, rfl, hR⟩)), zr_same.rfl'⟩
    · skip
      refine zz_catch hX (pre := [((0 : Nat), (338 : Nat), (339 : Nat), (82 : Nat)), ((0 : Nat), (338 : Nat), (344 : Nat), (85 : Nat))]) (suf := []) (a := 0) (b := 338) (h9 := 349) (k := 88) (i := 6) (len := 2) hT rfl (List.forall_mem_cons.mpr ⟨⟨zx_I, (by decide), zw_cl_L_82, zk_nc_SI⟩, (List.forall_mem_cons.mpr ⟨⟨zx_A, (by decide), zw_cl_L_85, zk_nc_SA⟩, (fun _ h => nomatch h)⟩)⟩) (by decide) (by decide) zw_cl_L_88 zw_cast_S (Or.inr ⟨dL_does_349, rfl⟩) (Nat.le_of_ble_eq_true rfl) ?_
      refine zz_ldc (v := -1000000) hX zw_con_L_90 dL_does_351 ?_
      exact zz_iret hX hr rfl (Nat.le_of_ble_eq_true rfl) (Nat.le_of_ble_eq_true rfl) dL_does_353 ⟨_, rfl, Or.inr (Or.inr (Or.inr ⟨q1, q2, q3, rfl, hR⟩)), zr_same.rfl'⟩
  rintro v9 s9 i9 m9 ⟨⟨hA, hB, hC⟩, e1, hR9, hS9⟩ -
  obtain rfl := e1.symm
  refine zz_goto hX 338 dL_does_83 (by decide) ?_
  refine zz_iret hX hr rfl (Nat.le_of_ble_eq_true rfl) (Nat.le_of_ble_eq_true rfl) dL_does_338 ?_
  exact ⟨_, rfl, Or.inl ⟨hA, hB, hC, rfl, hR9⟩, hS9⟩
set_option maxRecDepth 20000 in
theorem D_ill (S : zS) (sh : zm_Sh) (mi : zm_Mi) (mr : zm_Mr) (hW : zW S) (hR : zR S sh mi mr) (ax w2 w3 : Int32) (g : Nat) (hg : g ≤ 1) : zz_Con yL_does (.codeWith yL_does cL_does 7 (some Jvm.ClassFile.FieldType.int) [((0 : Nat), (338 : Nat), (339 : Nat), (82 : Nat)), ((0 : Nat), (338 : Nat), (344 : Nat), (85 : Nat)), ((0 : Nat), (338 : Nat), (349 : Nat), (88 : Nat))]) 11 10 60 [.ref 2, .int (nI 6), .int ax, .int (nI g), .int w2, .int w3] sh mi mr (zq_d ((zs_ix ax 5)) True True (S 17 (zn ax)) S (zm_u2 S 17 (zn ax) (nI g)) sh mi mr) zz_none := by
  have hg2 : g = 0 ∨ g = 1 := by omega
  rcases hg2 with rfl | rfl
  · skip
    refine zz_beginH RL [(0, .ref 2), (1, .int (nI 6)), (2, .int ax), (3, .int (nI 0)), (4, .int w2), (5, .int w3)] (by decide) rfl rfl (Nat.le_of_ble_eq_true rfl) rfl ?_
    intro Γ D E ad hX hr hT
    refine zz_iload_n hX dL_does_0 1 rfl rfl ?_
    refine zz_if_ne hX 12 dL_does_1 (by decide) (fun _ => ?_) (fun c => absurd c (by decide))
    refine zz_iload_n hX dL_does_12 1 rfl rfl ?_
    refine zz_iconst (v := nI 1) hX dL_does_13 rfl ?_
    refine zz_icmp_ne hX 28 dL_does_14 (by decide) (fun _ => ?_) (fun c => absurd c (by decide))
    refine zz_iload_n hX dL_does_28 1 rfl rfl ?_
    refine zz_iconst (v := nI 2) hX dL_does_29 rfl ?_
    refine zz_icmp_ne hX 42 dL_does_30 (by decide) (fun _ => ?_) (fun c => absurd c (by decide))
    refine zz_iload_n hX dL_does_42 1 rfl rfl ?_
    refine zz_iconst (v := nI 3) hX dL_does_43 rfl ?_
    refine zz_icmp_ne hX 54 dL_does_44 (by decide) (fun _ => ?_) (fun c => absurd c (by decide))
    refine zz_iload_n hX dL_does_54 1 rfl rfl ?_
    refine zz_iconst (v := nI 4) hX dL_does_55 rfl ?_
    refine zz_icmp_ne hX 72 dL_does_56 (by decide) (fun _ => ?_) (fun c => absurd c (by decide))
    refine zz_iload_n hX dL_does_72 1 rfl rfl ?_
    refine zz_iconst (v := nI 5) hX dL_does_73 rfl ?_
    refine zz_icmp_ne hX 86 dL_does_74 (by decide) (fun _ => ?_) (fun c => absurd c (by decide))
    refine zz_iload_n hX dL_does_86 1 rfl rfl ?_
    refine zz_bipush (v := nI 6) hX dL_does_87 rfl ?_
    refine zz_icmp_ne hX 118 dL_does_89 (by decide) (fun c => absurd c (by decide)) (fun _ => ?_)
    refine zz_aload_n hX dL_does_92 0 rfl rfl ?_
    refine zz_iload_n hX dL_does_93 2 rfl rfl ?_
    refine zz_iload_n hX dL_does_94 3 rfl rfl ?_
    refine zz_iconst (v := nI 1) hX dL_does_95 rfl ?_
    refine zz_icmp_ne hX 103 dL_does_96 (by decide) (fun _ => ?_) (fun c => absurd c (by decide))
    refine zz_iconst (v := nI 0) hX dL_does_103 rfl ?_
    refine zz_callV hX zf_M_L_33 (As := [.int ax, .int (nI 0)]) (st := []) (P_ill S sh mi mr hW hR ax (nI 0) (Or.inl rfl)) hR.1.1 rfl rfl rfl (by decide) (Nat.le_of_ble_eq_true rfl) (Nat.le_of_ble_eq_true rfl) (Nat.le_of_ble_eq_true rfl) dL_does_104 ?_ ?_
    rotate_left
    · rintro e9 s9 i9 m9 ⟨hq, e2, e3, e4⟩ -
      obtain rfl := e2.symm
      obtain rfl := e3.symm
      obtain rfl := e4.symm
      rcases hq with ⟨rfl, q1⟩ | ⟨rfl, q1, q2⟩ | ⟨rfl, q1, q2, q3⟩
      · skip
        refine zz_catch hX (pre := []) (suf := [((0 : Nat), (338 : Nat), (344 : Nat), (85 : Nat)), ((0 : Nat), (338 : Nat), (349 : Nat), (88 : Nat))]) (a := 0) (b := 338) (h9 := 339) (k := 82) (i := 6) (len := 2) hT rfl (fun _ h => nomatch h) (by decide) (by decide) zw_cl_L_82 zw_cast_I (Or.inr ⟨dL_does_339, rfl⟩) (Nat.le_of_ble_eq_true rfl) ?_
        refine zz_ldc (v := -3000000) hX zw_con_L_84 dL_does_341 ?_
        exact zz_iret hX hr rfl (Nat.le_of_ble_eq_true rfl) (Nat.le_of_ble_eq_true rfl) dL_does_343 ⟨_, rfl, Or.inr (Or.inl ⟨q1, rfl, hR⟩), zr_same.rfl'⟩
      · skip
        refine zz_catch hX (pre := [((0 : Nat), (338 : Nat), (339 : Nat), (82 : Nat))]) (suf := [((0 : Nat), (338 : Nat), (349 : Nat), (88 : Nat))]) (a := 0) (b := 338) (h9 := 344) (k := 85) (i := 6) (len := 2) hT rfl (List.forall_mem_cons.mpr ⟨⟨zx_I, (by decide), zw_cl_L_82, zk_nc_AI⟩, (fun _ h => nomatch h)⟩) (by decide) (by decide) zw_cl_L_85 zw_cast_A (Or.inr ⟨dL_does_344, rfl⟩) (Nat.le_of_ble_eq_true rfl) ?_
        refine zz_ldc (v := -2000000) hX zw_con_L_87 dL_does_346 ?_
        exact zz_iret hX hr rfl (Nat.le_of_ble_eq_true rfl) (Nat.le_of_ble_eq_true rfl) dL_does_348 ⟨_, rfl, Or.inr (Or.inr (Or.inl ⟨q1, q2, rfl, hR⟩)), zr_same.rfl'⟩
      · skip
        refine zz_catch hX (pre := [((0 : Nat), (338 : Nat), (339 : Nat), (82 : Nat)), ((0 : Nat), (338 : Nat), (344 : Nat), (85 : Nat))]) (suf := []) (a := 0) (b := 338) (h9 := 349) (k := 88) (i := 6) (len := 2) hT rfl (List.forall_mem_cons.mpr ⟨⟨zx_I, (by decide), zw_cl_L_82, zk_nc_SI⟩, (List.forall_mem_cons.mpr ⟨⟨zx_A, (by decide), zw_cl_L_85, zk_nc_SA⟩, (fun _ h => nomatch h)⟩)⟩) (by decide) (by decide) zw_cl_L_88 zw_cast_S (Or.inr ⟨dL_does_349, rfl⟩) (Nat.le_of_ble_eq_true rfl) ?_
        refine zz_ldc (v := -1000000) hX zw_con_L_90 dL_does_351 ?_
        exact zz_iret hX hr rfl (Nat.le_of_ble_eq_true rfl) (Nat.le_of_ble_eq_true rfl) dL_does_353 ⟨_, rfl, Or.inr (Or.inr (Or.inr ⟨q1, q2, q3, rfl, hR⟩)), zr_same.rfl'⟩
    rintro v9 s9 i9 m9 ⟨⟨hA, hB, hC⟩, e1, hR9, hS9⟩ -
    obtain rfl := e1.symm
    refine zz_if_eq hX 114 dL_does_107 (by decide) (fun c107 => ?_) (fun c107 => ?_)
    · skip
      refine zz_iconst (v := nI 0) hX dL_does_114 rfl ?_
      refine zz_goto hX 338 dL_does_115 (by decide) ?_
      refine zz_iret hX hr rfl (Nat.le_of_ble_eq_true rfl) (Nat.le_of_ble_eq_true rfl) dL_does_338 ?_
      exact ⟨_, rfl, Or.inl ⟨hA, hB, hC, c107.symm, hR9⟩, hS9⟩
    · skip
      refine zz_iconst (v := nI 1) hX dL_does_110 rfl ?_
      refine zz_goto hX 338 dL_does_111 (by decide) ?_
      refine zz_iret hX hr rfl (Nat.le_of_ble_eq_true rfl) (Nat.le_of_ble_eq_true rfl) dL_does_338 ?_
      exact ⟨_, rfl, Or.inl ⟨hA, hB, hC, (ql_one hW c107).symm, hR9⟩, hS9⟩
  · skip
    refine zz_beginH RL [(0, .ref 2), (1, .int (nI 6)), (2, .int ax), (3, .int (nI 1)), (4, .int w2), (5, .int w3)] (by decide) rfl rfl (Nat.le_of_ble_eq_true rfl) rfl ?_
    intro Γ D E ad hX hr hT
    refine zz_iload_n hX dL_does_0 1 rfl rfl ?_
    refine zz_if_ne hX 12 dL_does_1 (by decide) (fun _ => ?_) (fun c => absurd c (by decide))
    refine zz_iload_n hX dL_does_12 1 rfl rfl ?_
    refine zz_iconst (v := nI 1) hX dL_does_13 rfl ?_
    refine zz_icmp_ne hX 28 dL_does_14 (by decide) (fun _ => ?_) (fun c => absurd c (by decide))
    refine zz_iload_n hX dL_does_28 1 rfl rfl ?_
    refine zz_iconst (v := nI 2) hX dL_does_29 rfl ?_
    refine zz_icmp_ne hX 42 dL_does_30 (by decide) (fun _ => ?_) (fun c => absurd c (by decide))
    refine zz_iload_n hX dL_does_42 1 rfl rfl ?_
    refine zz_iconst (v := nI 3) hX dL_does_43 rfl ?_
    refine zz_icmp_ne hX 54 dL_does_44 (by decide) (fun _ => ?_) (fun c => absurd c (by decide))
    refine zz_iload_n hX dL_does_54 1 rfl rfl ?_
    refine zz_iconst (v := nI 4) hX dL_does_55 rfl ?_
    refine zz_icmp_ne hX 72 dL_does_56 (by decide) (fun _ => ?_) (fun c => absurd c (by decide))
    refine zz_iload_n hX dL_does_72 1 rfl rfl ?_
    refine zz_iconst (v := nI 5) hX dL_does_73 rfl ?_
    refine zz_icmp_ne hX 86 dL_does_74 (by decide) (fun _ => ?_) (fun c => absurd c (by decide))
    refine zz_iload_n hX dL_does_86 1 rfl rfl ?_
    refine zz_bipush (v := nI 6) hX dL_does_87 rfl ?_
    refine zz_icmp_ne hX 118 dL_does_89 (by decide) (fun c => absurd c (by decide)) (fun _ => ?_)
    refine zz_aload_n hX dL_does_92 0 rfl rfl ?_
    refine zz_iload_n hX dL_does_93 2 rfl rfl ?_
    refine zz_iload_n hX dL_does_94 3 rfl rfl ?_
    refine zz_iconst (v := nI 1) hX dL_does_95 rfl ?_
    refine zz_icmp_ne hX 103 dL_does_96 (by decide) (fun c => absurd c (by decide)) (fun _ => ?_)
    refine zz_iconst (v := nI 1) hX dL_does_99 rfl ?_
    refine zz_goto hX 104 dL_does_100 (by decide) ?_
    refine zz_callV hX zf_M_L_33 (As := [.int ax, .int (nI 1)]) (st := []) (P_ill S sh mi mr hW hR ax (nI 1) (Or.inr rfl)) hR.1.1 rfl rfl rfl (by decide) (Nat.le_of_ble_eq_true rfl) (Nat.le_of_ble_eq_true rfl) (Nat.le_of_ble_eq_true rfl) dL_does_104 ?_ ?_
    rotate_left
    · rintro e9 s9 i9 m9 ⟨hq, e2, e3, e4⟩ -
      obtain rfl := e2.symm
      obtain rfl := e3.symm
      obtain rfl := e4.symm
      rcases hq with ⟨rfl, q1⟩ | ⟨rfl, q1, q2⟩ | ⟨rfl, q1, q2, q3⟩
      · skip
        refine zz_catch hX (pre := []) (suf := [((0 : Nat), (338 : Nat), (344 : Nat), (85 : Nat)), ((0 : Nat), (338 : Nat), (349 : Nat), (88 : Nat))]) (a := 0) (b := 338) (h9 := 339) (k := 82) (i := 6) (len := 2) hT rfl (fun _ h => nomatch h) (by decide) (by decide) zw_cl_L_82 zw_cast_I (Or.inr ⟨dL_does_339, rfl⟩) (Nat.le_of_ble_eq_true rfl) ?_
        refine zz_ldc (v := -3000000) hX zw_con_L_84 dL_does_341 ?_
        exact zz_iret hX hr rfl (Nat.le_of_ble_eq_true rfl) (Nat.le_of_ble_eq_true rfl) dL_does_343 ⟨_, rfl, Or.inr (Or.inl ⟨q1, rfl, hR⟩), zr_same.rfl'⟩
      · skip
        refine zz_catch hX (pre := [((0 : Nat), (338 : Nat), (339 : Nat), (82 : Nat))]) (suf := [((0 : Nat), (338 : Nat), (349 : Nat), (88 : Nat))]) (a := 0) (b := 338) (h9 := 344) (k := 85) (i := 6) (len := 2) hT rfl (List.forall_mem_cons.mpr ⟨⟨zx_I, (by decide), zw_cl_L_82, zk_nc_AI⟩, (fun _ h => nomatch h)⟩) (by decide) (by decide) zw_cl_L_85 zw_cast_A (Or.inr ⟨dL_does_344, rfl⟩) (Nat.le_of_ble_eq_true rfl) ?_
        refine zz_ldc (v := -2000000) hX zw_con_L_87 dL_does_346 ?_
        exact zz_iret hX hr rfl (Nat.le_of_ble_eq_true rfl) (Nat.le_of_ble_eq_true rfl) dL_does_348 ⟨_, rfl, Or.inr (Or.inr (Or.inl ⟨q1, q2, rfl, hR⟩)), zr_same.rfl'⟩
      · skip
        refine zz_catch hX (pre := [((0 : Nat), (338 : Nat), (339 : Nat), (82 : Nat)), ((0 : Nat), (338 : Nat), (344 : Nat), (85 : Nat))]) (suf := []) (a := 0) (b := 338) (h9 := 349) (k := 88) (i := 6) (len := 2) hT rfl (List.forall_mem_cons.mpr ⟨⟨zx_I, (by decide), zw_cl_L_82, zk_nc_SI⟩, (List.forall_mem_cons.mpr ⟨⟨zx_A, (by decide), zw_cl_L_85, zk_nc_SA⟩, (fun _ h => nomatch h)⟩)⟩) (by decide) (by decide) zw_cl_L_88 zw_cast_S (Or.inr ⟨dL_does_349, rfl⟩) (Nat.le_of_ble_eq_true rfl) ?_
        refine zz_ldc (v := -1000000) hX zw_con_L_90 dL_does_351 ?_
        exact zz_iret hX hr rfl (Nat.le_of_ble_eq_true rfl) (Nat.le_of_ble_eq_true rfl) dL_does_353 ⟨_, rfl, Or.inr (Or.inr (Or.inr ⟨q1, q2, q3, rfl, hR⟩)), zr_same.rfl'⟩
    rintro v9 s9 i9 m9 ⟨⟨hA, hB, hC⟩, e1, hR9, hS9⟩ -
    obtain rfl := e1.symm
    refine zz_if_eq hX 114 dL_does_107 (by decide) (fun c107 => ?_) (fun c107 => ?_)
    · skip
      refine zz_iconst (v := nI 0) hX dL_does_114 rfl ?_
      refine zz_goto hX 338 dL_does_115 (by decide) ?_
      refine zz_iret hX hr rfl (Nat.le_of_ble_eq_true rfl) (Nat.le_of_ble_eq_true rfl) dL_does_338 ?_
      exact ⟨_, rfl, Or.inl ⟨hA, hB, hC, c107.symm, hR9⟩, hS9⟩
    · skip
      refine zz_iconst (v := nI 1) hX dL_does_110 rfl ?_
      refine zz_goto hX 338 dL_does_111 (by decide) ?_
      refine zz_iret hX hr rfl (Nat.le_of_ble_eq_true rfl) (Nat.le_of_ble_eq_true rfl) dL_does_338 ?_
      exact ⟨_, rfl, Or.inl ⟨hA, hB, hC, (ql_one hW c107).symm, hR9⟩, hS9⟩
set_option maxRecDepth 20000 in
theorem D_dub (S : zS) (sh : zm_Sh) (mi : zm_Mi) (mr : zm_Mr) (hW : zW S) (hR : zR S sh mi mr) (s v w2 w3 : Int32) : zz_Con yL_does (.codeWith yL_does cL_does 7 (some Jvm.ClassFile.FieldType.int) [((0 : Nat), (338 : Nat), (339 : Nat), (82 : Nat)), ((0 : Nat), (338 : Nat), (344 : Nat), (85 : Nat)), ((0 : Nat), (338 : Nat), (349 : Nat), (88 : Nat))]) 11 10 60 [.ref 2, .int (nI 7), .int s, .int v, .int w2, .int w3] sh mi mr (zq_d ((zs_ix s (zv_ns S)) ∧ (v = -1 ∨ zs_ix v (zv_nv S))) (True) (True) (S 13 (zn s)) S ((zm_u2 S 13 (zn s) (v))) sh mi mr) zz_none := by
  refine zz_beginH RL [(0, .ref 2), (1, .int (nI 7)), (2, .int s), (3, .int v), (4, .int w2), (5, .int w3)] (by decide) rfl rfl (Nat.le_of_ble_eq_true rfl) rfl ?_
  intro Γ D E ad hX hr hT
  refine zz_iload_n hX dL_does_0 1 rfl rfl ?_
  refine zz_if_ne hX 12 dL_does_1 (by decide) (fun _ => ?_) (fun c => absurd c (by decide))
  refine zz_iload_n hX dL_does_12 1 rfl rfl ?_
  refine zz_iconst (v := nI 1) hX dL_does_13 rfl ?_
  refine zz_icmp_ne hX 28 dL_does_14 (by decide) (fun _ => ?_) (fun c => absurd c (by decide))
  refine zz_iload_n hX dL_does_28 1 rfl rfl ?_
  refine zz_iconst (v := nI 2) hX dL_does_29 rfl ?_
  refine zz_icmp_ne hX 42 dL_does_30 (by decide) (fun _ => ?_) (fun c => absurd c (by decide))
  refine zz_iload_n hX dL_does_42 1 rfl rfl ?_
  refine zz_iconst (v := nI 3) hX dL_does_43 rfl ?_
  refine zz_icmp_ne hX 54 dL_does_44 (by decide) (fun _ => ?_) (fun c => absurd c (by decide))
  refine zz_iload_n hX dL_does_54 1 rfl rfl ?_
  refine zz_iconst (v := nI 4) hX dL_does_55 rfl ?_
  refine zz_icmp_ne hX 72 dL_does_56 (by decide) (fun _ => ?_) (fun c => absurd c (by decide))
  refine zz_iload_n hX dL_does_72 1 rfl rfl ?_
  refine zz_iconst (v := nI 5) hX dL_does_73 rfl ?_
  refine zz_icmp_ne hX 86 dL_does_74 (by decide) (fun _ => ?_) (fun c => absurd c (by decide))
  refine zz_iload_n hX dL_does_86 1 rfl rfl ?_
  refine zz_bipush (v := nI 6) hX dL_does_87 rfl ?_
  refine zz_icmp_ne hX 118 dL_does_89 (by decide) (fun _ => ?_) (fun c => absurd c (by decide))
  refine zz_iload_n hX dL_does_118 1 rfl rfl ?_
  refine zz_bipush (v := nI 7) hX dL_does_119 rfl ?_
  refine zz_icmp_ne hX 133 dL_does_121 (by decide) (fun c => absurd c (by decide)) (fun _ => ?_)
  refine zz_aload_n hX dL_does_124 0 rfl rfl ?_
  refine zz_iload_n hX dL_does_125 2 rfl rfl ?_
  refine zz_iload_n hX dL_does_126 3 rfl rfl ?_
  refine zz_callV hX zf_M_L_37 (As := [.int s, .int v]) (st := []) (P_dub S sh mi mr hW hR s v) hR.1.1 rfl rfl rfl (by decide) (Nat.le_of_ble_eq_true rfl) (Nat.le_of_ble_eq_true rfl) (Nat.le_of_ble_eq_true rfl) dL_does_127 ?_ ?_
  rotate_left
  · rintro e9 s9 i9 m9 ⟨hq, e2, e3, e4⟩ -
    obtain rfl := e2.symm
    obtain rfl := e3.symm
    obtain rfl := e4.symm
    rcases hq with ⟨rfl, q1⟩ | ⟨rfl, q1, q2⟩ | ⟨rfl, q1, q2, q3⟩
    · skip
      refine zz_catch hX (pre := []) (suf := [((0 : Nat), (338 : Nat), (344 : Nat), (85 : Nat)), ((0 : Nat), (338 : Nat), (349 : Nat), (88 : Nat))]) (a := 0) (b := 338) (h9 := 339) (k := 82) (i := 6) (len := 2) hT rfl (fun _ h => nomatch h) (by decide) (by decide) zw_cl_L_82 zw_cast_I (Or.inr ⟨dL_does_339, rfl⟩) (Nat.le_of_ble_eq_true rfl) ?_
      refine zz_ldc (v := -3000000) hX zw_con_L_84 dL_does_341 ?_
      exact zz_iret hX hr rfl (Nat.le_of_ble_eq_true rfl) (Nat.le_of_ble_eq_true rfl) dL_does_343 ⟨_, rfl, Or.inr (Or.inl ⟨q1, rfl, hR⟩), zr_same.rfl'⟩
    · skip
      refine zz_catch hX (pre := [((0 : Nat), (338 : Nat), (339 : Nat), (82 : Nat))]) (suf := [((0 : Nat), (338 : Nat), (349 : Nat), (88 : Nat))]) (a := 0) (b := 338) (h9 := 344) (k := 85) (i := 6) (len := 2) hT rfl (List.forall_mem_cons.mpr ⟨⟨zx_I, (by decide), zw_cl_L_82, zk_nc_AI⟩, (fun _ h => nomatch h)⟩) (by decide) (by decide) zw_cl_L_85 zw_cast_A (Or.inr ⟨dL_does_344, rfl⟩) (Nat.le_of_ble_eq_true rfl) ?_
      refine zz_ldc (v := -2000000) hX zw_con_L_87 dL_does_346 ?_
      exact zz_iret hX hr rfl (Nat.le_of_ble_eq_true rfl) (Nat.le_of_ble_eq_true rfl) dL_does_348 ⟨_, rfl, Or.inr (Or.inr (Or.inl ⟨q1, q2, rfl, hR⟩)), zr_same.rfl'⟩
    · skip
      refine zz_catch hX (pre := [((0 : Nat), (338 : Nat), (339 : Nat), (82 : Nat)), ((0 : Nat), (338 : Nat), (344 : Nat), (85 : Nat))]) (suf := []) (a := 0) (b := 338) (h9 := 349) (k := 88) (i := 6) (len := 2) hT rfl (List.forall_mem_cons.mpr ⟨⟨zx_I, (by decide), zw_cl_L_82, zk_nc_SI⟩, (List.forall_mem_cons.mpr ⟨⟨zx_A, (by decide), zw_cl_L_85, zk_nc_SA⟩, (fun _ h => nomatch h)⟩)⟩) (by decide) (by decide) zw_cl_L_88 zw_cast_S (Or.inr ⟨dL_does_349, rfl⟩) (Nat.le_of_ble_eq_true rfl) ?_
      refine zz_ldc (v := -1000000) hX zw_con_L_90 dL_does_351 ?_
      exact zz_iret hX hr rfl (Nat.le_of_ble_eq_true rfl) (Nat.le_of_ble_eq_true rfl) dL_does_353 ⟨_, rfl, Or.inr (Or.inr (Or.inr ⟨q1, q2, q3, rfl, hR⟩)), zr_same.rfl'⟩
  rintro v9 s9 i9 m9 ⟨⟨hA, hB, hC⟩, e1, hR9, hS9⟩ -
  obtain rfl := e1.symm
  refine zz_goto hX 338 dL_does_130 (by decide) ?_
  refine zz_iret hX hr rfl (Nat.le_of_ble_eq_true rfl) (Nat.le_of_ble_eq_true rfl) dL_does_338 ?_
  exact ⟨_, rfl, Or.inl ⟨hA, hB, hC, rfl, hR9⟩, hS9⟩
set_option maxRecDepth 20000 in
theorem D_key (S : zS) (sh : zm_Sh) (mi : zm_Mi) (mr : zm_Mr) (hW : zW S) (hR : zR S sh mi mr) (s jx fx d : Int32) : zz_Con yL_does (.codeWith yL_does cL_does 7 (some Jvm.ClassFile.FieldType.int) [((0 : Nat), (338 : Nat), (339 : Nat), (82 : Nat)), ((0 : Nat), (338 : Nat), (344 : Nat), (85 : Nat)), ((0 : Nat), (338 : Nat), (349 : Nat), (88 : Nat))]) 11 10 60 [.ref 2, .int (nI 8), .int s, .int jx, .int fx, .int d] sh mi mr (zq_d ((zs_ix s (zv_ns S)) ∧ (zs_ix jx (zv_jn S (zv_pu S (zn s)))) ∧ (zs_ix fx (zv_fr S (zn s)))) ((nI 0 ≤ d ∧ d ≤ nI 359)) ((¬ fx < nI (zv_sk S (zn s))) ∧ (¬ zp_held S (zn s) (zn fx))) (zp_deg S (zn s) (zn jx) (zn fx)) S (zm_u2 S 18 (48 * (6 * zn s + zn jx) + zn fx) d) sh mi mr) zz_none := by
  refine zz_beginH RL [(0, .ref 2), (1, .int (nI 8)), (2, .int s), (3, .int jx), (4, .int fx), (5, .int d)] (by decide) rfl rfl (Nat.le_of_ble_eq_true rfl) rfl ?_
  intro Γ D E ad hX hr hT
  refine zz_iload_n hX dL_does_0 1 rfl rfl ?_
  refine zz_if_ne hX 12 dL_does_1 (by decide) (fun _ => ?_) (fun c => absurd c (by decide))
  refine zz_iload_n hX dL_does_12 1 rfl rfl ?_
  refine zz_iconst (v := nI 1) hX dL_does_13 rfl ?_
  refine zz_icmp_ne hX 28 dL_does_14 (by decide) (fun _ => ?_) (fun c => absurd c (by decide))
  refine zz_iload_n hX dL_does_28 1 rfl rfl ?_
  refine zz_iconst (v := nI 2) hX dL_does_29 rfl ?_
  refine zz_icmp_ne hX 42 dL_does_30 (by decide) (fun _ => ?_) (fun c => absurd c (by decide))
  refine zz_iload_n hX dL_does_42 1 rfl rfl ?_
  refine zz_iconst (v := nI 3) hX dL_does_43 rfl ?_
  refine zz_icmp_ne hX 54 dL_does_44 (by decide) (fun _ => ?_) (fun c => absurd c (by decide))
  refine zz_iload_n hX dL_does_54 1 rfl rfl ?_
  refine zz_iconst (v := nI 4) hX dL_does_55 rfl ?_
  refine zz_icmp_ne hX 72 dL_does_56 (by decide) (fun _ => ?_) (fun c => absurd c (by decide))
  refine zz_iload_n hX dL_does_72 1 rfl rfl ?_
  refine zz_iconst (v := nI 5) hX dL_does_73 rfl ?_
  refine zz_icmp_ne hX 86 dL_does_74 (by decide) (fun _ => ?_) (fun c => absurd c (by decide))
  refine zz_iload_n hX dL_does_86 1 rfl rfl ?_
  refine zz_bipush (v := nI 6) hX dL_does_87 rfl ?_
  refine zz_icmp_ne hX 118 dL_does_89 (by decide) (fun _ => ?_) (fun c => absurd c (by decide))
  refine zz_iload_n hX dL_does_118 1 rfl rfl ?_
  refine zz_bipush (v := nI 7) hX dL_does_119 rfl ?_
  refine zz_icmp_ne hX 133 dL_does_121 (by decide) (fun _ => ?_) (fun c => absurd c (by decide))
  refine zz_iload_n hX dL_does_133 1 rfl rfl ?_
  refine zz_bipush (v := nI 8) hX dL_does_134 rfl ?_
  refine zz_icmp_ne hX 152 dL_does_136 (by decide) (fun c => absurd c (by decide)) (fun _ => ?_)
  refine zz_aload_n hX dL_does_139 0 rfl rfl ?_
  refine zz_iload_n hX dL_does_140 2 rfl rfl ?_
  refine zz_iload_n hX dL_does_141 3 rfl rfl ?_
  refine zz_iload hX dL_does_142 4 rfl ?_
  refine zz_iload hX dL_does_144 5 rfl ?_
  refine zz_callV hX zf_M_L_40 (As := [.int s, .int jx, .int fx, .int d]) (st := []) (P_key S sh mi mr hW hR s jx fx d) hR.1.1 rfl rfl rfl (by decide) (Nat.le_of_ble_eq_true rfl) (Nat.le_of_ble_eq_true rfl) (Nat.le_of_ble_eq_true rfl) dL_does_146 ?_ ?_
  rotate_left
  · rintro e9 s9 i9 m9 ⟨hq, e2, e3, e4⟩ -
    obtain rfl := e2.symm
    obtain rfl := e3.symm
    obtain rfl := e4.symm
    rcases hq with ⟨rfl, q1⟩ | ⟨rfl, q1, q2⟩ | ⟨rfl, q1, q2, q3⟩
    · skip
      refine zz_catch hX (pre := []) (suf := [((0 : Nat), (338 : Nat), (344 : Nat), (85 : Nat)), ((0 : Nat), (338 : Nat), (349 : Nat), (88 : Nat))]) (a := 0) (b := 338) (h9 := 339) (k := 82) (i := 6) (len := 2) hT rfl (fun _ h => nomatch h) (by decide) (by decide) zw_cl_L_82 zw_cast_I (Or.inr ⟨dL_does_339, rfl⟩) (Nat.le_of_ble_eq_true rfl) ?_
      refine zz_ldc (v := -3000000) hX zw_con_L_84 dL_does_341 ?_
      exact zz_iret hX hr rfl (Nat.le_of_ble_eq_true rfl) (Nat.le_of_ble_eq_true rfl) dL_does_343 ⟨_, rfl, Or.inr (Or.inl ⟨q1, rfl, hR⟩), zr_same.rfl'⟩
    · skip
      refine zz_catch hX (pre := [((0 : Nat), (338 : Nat), (339 : Nat), (82 : Nat))]) (suf := [((0 : Nat), (338 : Nat), (349 : Nat), (88 : Nat))]) (a := 0) (b := 338) (h9 := 344) (k := 85) (i := 6) (len := 2) hT rfl (List.forall_mem_cons.mpr ⟨⟨zx_I, (by decide), zw_cl_L_82, zk_nc_AI⟩, (fun _ h => nomatch h)⟩) (by decide) (by decide) zw_cl_L_85 zw_cast_A (Or.inr ⟨dL_does_344, rfl⟩) (Nat.le_of_ble_eq_true rfl) ?_
      refine zz_ldc (v := -2000000) hX zw_con_L_87 dL_does_346 ?_
      exact zz_iret hX hr rfl (Nat.le_of_ble_eq_true rfl) (Nat.le_of_ble_eq_true rfl) dL_does_348 ⟨_, rfl, Or.inr (Or.inr (Or.inl ⟨q1, q2, rfl, hR⟩)), zr_same.rfl'⟩
    · skip
      refine zz_catch hX (pre := [((0 : Nat), (338 : Nat), (339 : Nat), (82 : Nat)), ((0 : Nat), (338 : Nat), (344 : Nat), (85 : Nat))]) (suf := []) (a := 0) (b := 338) (h9 := 349) (k := 88) (i := 6) (len := 2) hT rfl (List.forall_mem_cons.mpr ⟨⟨zx_I, (by decide), zw_cl_L_82, zk_nc_SI⟩, (List.forall_mem_cons.mpr ⟨⟨zx_A, (by decide), zw_cl_L_85, zk_nc_SA⟩, (fun _ h => nomatch h)⟩)⟩) (by decide) (by decide) zw_cl_L_88 zw_cast_S (Or.inr ⟨dL_does_349, rfl⟩) (Nat.le_of_ble_eq_true rfl) ?_
      refine zz_ldc (v := -1000000) hX zw_con_L_90 dL_does_351 ?_
      exact zz_iret hX hr rfl (Nat.le_of_ble_eq_true rfl) (Nat.le_of_ble_eq_true rfl) dL_does_353 ⟨_, rfl, Or.inr (Or.inr (Or.inr ⟨q1, q2, q3, rfl, hR⟩)), zr_same.rfl'⟩
  rintro v9 s9 i9 m9 ⟨⟨hA, hB, hC⟩, e1, hR9, hS9⟩ -
  obtain rfl := e1.symm
  refine zz_goto hX 338 dL_does_149 (by decide) ?_
  refine zz_iret hX hr rfl (Nat.le_of_ble_eq_true rfl) (Nat.le_of_ble_eq_true rfl) dL_does_338 ?_
  exact ⟨_, rfl, Or.inl ⟨hA, hB, hC, rfl, hR9⟩, hS9⟩
set_option maxRecDepth 20000 in
theorem D_camera (S : zS) (sh : zm_Sh) (mi : zm_Mi) (mr : zm_Mr) (hW : zW S) (hR : zR S sh mi mr) (s fx x w3 : Int32) : zz_Con yL_does (.codeWith yL_does cL_does 7 (some Jvm.ClassFile.FieldType.int) [((0 : Nat), (338 : Nat), (339 : Nat), (82 : Nat)), ((0 : Nat), (338 : Nat), (344 : Nat), (85 : Nat)), ((0 : Nat), (338 : Nat), (349 : Nat), (88 : Nat))]) 11 10 60 [.ref 2, .int (nI 9), .int s, .int fx, .int x, .int w3] sh mi mr (zq_d ((zs_ix s (zv_ns S)) ∧ (zs_ix fx (zv_fr S (zn s)))) (((-999) ≤ x ∧ x ≤ nI 999)) ((¬ fx < nI (zv_sk S (zn s)))) (zp_place S (zn s) (zn fx)) S (zm_u2 S 19 (48 * zn s + zn fx) x) sh mi mr) zz_none := by
  refine zz_beginH RL [(0, .ref 2), (1, .int (nI 9)), (2, .int s), (3, .int fx), (4, .int x), (5, .int w3)] (by decide) rfl rfl (Nat.le_of_ble_eq_true rfl) rfl ?_
  intro Γ D E ad hX hr hT
  refine zz_iload_n hX dL_does_0 1 rfl rfl ?_
  refine zz_if_ne hX 12 dL_does_1 (by decide) (fun _ => ?_) (fun c => absurd c (by decide))
  refine zz_iload_n hX dL_does_12 1 rfl rfl ?_
  refine zz_iconst (v := nI 1) hX dL_does_13 rfl ?_
  refine zz_icmp_ne hX 28 dL_does_14 (by decide) (fun _ => ?_) (fun c => absurd c (by decide))
  refine zz_iload_n hX dL_does_28 1 rfl rfl ?_
  refine zz_iconst (v := nI 2) hX dL_does_29 rfl ?_
  refine zz_icmp_ne hX 42 dL_does_30 (by decide) (fun _ => ?_) (fun c => absurd c (by decide))
  refine zz_iload_n hX dL_does_42 1 rfl rfl ?_
  refine zz_iconst (v := nI 3) hX dL_does_43 rfl ?_
  refine zz_icmp_ne hX 54 dL_does_44 (by decide) (fun _ => ?_) (fun c => absurd c (by decide))
  refine zz_iload_n hX dL_does_54 1 rfl rfl ?_
  refine zz_iconst (v := nI 4) hX dL_does_55 rfl ?_
  refine zz_icmp_ne hX 72 dL_does_56 (by decide) (fun _ => ?_) (fun c => absurd c (by decide))
  refine zz_iload_n hX dL_does_72 1 rfl rfl ?_
  refine zz_iconst (v := nI 5) hX dL_does_73 rfl ?_
  refine zz_icmp_ne hX 86 dL_does_74 (by decide) (fun _ => ?_) (fun c => absurd c (by decide))
  refine zz_iload_n hX dL_does_86 1 rfl rfl ?_
  refine zz_bipush (v := nI 6) hX dL_does_87 rfl ?_
  refine zz_icmp_ne hX 118 dL_does_89 (by decide) (fun _ => ?_) (fun c => absurd c (by decide))
  refine zz_iload_n hX dL_does_118 1 rfl rfl ?_
  refine zz_bipush (v := nI 7) hX dL_does_119 rfl ?_
  refine zz_icmp_ne hX 133 dL_does_121 (by decide) (fun _ => ?_) (fun c => absurd c (by decide))
  refine zz_iload_n hX dL_does_133 1 rfl rfl ?_
  refine zz_bipush (v := nI 8) hX dL_does_134 rfl ?_
  refine zz_icmp_ne hX 152 dL_does_136 (by decide) (fun _ => ?_) (fun c => absurd c (by decide))
  refine zz_iload_n hX dL_does_152 1 rfl rfl ?_
  refine zz_bipush (v := nI 9) hX dL_does_153 rfl ?_
  refine zz_icmp_ne hX 169 dL_does_155 (by decide) (fun c => absurd c (by decide)) (fun _ => ?_)
  refine zz_aload_n hX dL_does_158 0 rfl rfl ?_
  refine zz_iload_n hX dL_does_159 2 rfl rfl ?_
  refine zz_iload_n hX dL_does_160 3 rfl rfl ?_
  refine zz_iload hX dL_does_161 4 rfl ?_
  refine zz_callV hX zf_M_L_43 (As := [.int s, .int fx, .int x]) (st := []) (P_camera S sh mi mr hW hR s fx x) hR.1.1 rfl rfl rfl (by decide) (Nat.le_of_ble_eq_true rfl) (Nat.le_of_ble_eq_true rfl) (Nat.le_of_ble_eq_true rfl) dL_does_163 ?_ ?_
  rotate_left
  · rintro e9 s9 i9 m9 ⟨hq, e2, e3, e4⟩ -
    obtain rfl := e2.symm
    obtain rfl := e3.symm
    obtain rfl := e4.symm
    rcases hq with ⟨rfl, q1⟩ | ⟨rfl, q1, q2⟩ | ⟨rfl, q1, q2, q3⟩
    · skip
      refine zz_catch hX (pre := []) (suf := [((0 : Nat), (338 : Nat), (344 : Nat), (85 : Nat)), ((0 : Nat), (338 : Nat), (349 : Nat), (88 : Nat))]) (a := 0) (b := 338) (h9 := 339) (k := 82) (i := 6) (len := 2) hT rfl (fun _ h => nomatch h) (by decide) (by decide) zw_cl_L_82 zw_cast_I (Or.inr ⟨dL_does_339, rfl⟩) (Nat.le_of_ble_eq_true rfl) ?_
      refine zz_ldc (v := -3000000) hX zw_con_L_84 dL_does_341 ?_
      exact zz_iret hX hr rfl (Nat.le_of_ble_eq_true rfl) (Nat.le_of_ble_eq_true rfl) dL_does_343 ⟨_, rfl, Or.inr (Or.inl ⟨q1, rfl, hR⟩), zr_same.rfl'⟩
    · skip
      refine zz_catch hX (pre := [((0 : Nat), (338 : Nat), (339 : Nat), (82 : Nat))]) (suf := [((0 : Nat), (338 : Nat), (349 : Nat), (88 : Nat))]) (a := 0) (b := 338) (h9 := 344) (k := 85) (i := 6) (len := 2) hT rfl (List.forall_mem_cons.mpr ⟨⟨zx_I, (by decide), zw_cl_L_82, zk_nc_AI⟩, (fun _ h => nomatch h)⟩) (by decide) (by decide) zw_cl_L_85 zw_cast_A (Or.inr ⟨dL_does_344, rfl⟩) (Nat.le_of_ble_eq_true rfl) ?_
      refine zz_ldc (v := -2000000) hX zw_con_L_87 dL_does_346 ?_
      exact zz_iret hX hr rfl (Nat.le_of_ble_eq_true rfl) (Nat.le_of_ble_eq_true rfl) dL_does_348 ⟨_, rfl, Or.inr (Or.inr (Or.inl ⟨q1, q2, rfl, hR⟩)), zr_same.rfl'⟩
    · skip
      refine zz_catch hX (pre := [((0 : Nat), (338 : Nat), (339 : Nat), (82 : Nat)), ((0 : Nat), (338 : Nat), (344 : Nat), (85 : Nat))]) (suf := []) (a := 0) (b := 338) (h9 := 349) (k := 88) (i := 6) (len := 2) hT rfl (List.forall_mem_cons.mpr ⟨⟨zx_I, (by decide), zw_cl_L_82, zk_nc_SI⟩, (List.forall_mem_cons.mpr ⟨⟨zx_A, (by decide), zw_cl_L_85, zk_nc_SA⟩, (fun _ h => nomatch h)⟩)⟩) (by decide) (by decide) zw_cl_L_88 zw_cast_S (Or.inr ⟨dL_does_349, rfl⟩) (Nat.le_of_ble_eq_true rfl) ?_
      refine zz_ldc (v := -1000000) hX zw_con_L_90 dL_does_351 ?_
      exact zz_iret hX hr rfl (Nat.le_of_ble_eq_true rfl) (Nat.le_of_ble_eq_true rfl) dL_does_353 ⟨_, rfl, Or.inr (Or.inr (Or.inr ⟨q1, q2, q3, rfl, hR⟩)), zr_same.rfl'⟩
  rintro v9 s9 i9 m9 ⟨⟨hA, hB, hC⟩, e1, hR9, hS9⟩ -
  obtain rfl := e1.symm
  refine zz_goto hX 338 dL_does_166 (by decide) ?_
  refine zz_iret hX hr rfl (Nat.le_of_ble_eq_true rfl) (Nat.le_of_ble_eq_true rfl) dL_does_338 ?_
  exact ⟨_, rfl, Or.inl ⟨hA, hB, hC, rfl, hR9⟩, hS9⟩
set_option maxRecDepth 20000 in
theorem D_play (S : zS) (sh : zm_Sh) (mi : zm_Mi) (mr : zm_Mr) (hW : zW S) (hR : zR S sh mi mr) (u w1 w2 w3 : Int32) : zz_Con yL_does (.codeWith yL_does cL_does 7 (some Jvm.ClassFile.FieldType.int) [((0 : Nat), (338 : Nat), (339 : Nat), (82 : Nat)), ((0 : Nat), (338 : Nat), (344 : Nat), (85 : Nat)), ((0 : Nat), (338 : Nat), (349 : Nat), (88 : Nat))]) 11 10 60 [.ref 2, .int (nI 10), .int u, .int w1, .int w2, .int w3] sh mi mr (zq_d (True) ((nI 0 ≤ u ∧ u ≤ nI 20)) (True) (S 20 0) S ((zm_u2 S 20 (0) (u))) sh mi mr) zz_none := by
  refine zz_beginH RL [(0, .ref 2), (1, .int (nI 10)), (2, .int u), (3, .int w1), (4, .int w2), (5, .int w3)] (by decide) rfl rfl (Nat.le_of_ble_eq_true rfl) rfl ?_
  intro Γ D E ad hX hr hT
  refine zz_iload_n hX dL_does_0 1 rfl rfl ?_
  refine zz_if_ne hX 12 dL_does_1 (by decide) (fun _ => ?_) (fun c => absurd c (by decide))
  refine zz_iload_n hX dL_does_12 1 rfl rfl ?_
  refine zz_iconst (v := nI 1) hX dL_does_13 rfl ?_
  refine zz_icmp_ne hX 28 dL_does_14 (by decide) (fun _ => ?_) (fun c => absurd c (by decide))
  refine zz_iload_n hX dL_does_28 1 rfl rfl ?_
  refine zz_iconst (v := nI 2) hX dL_does_29 rfl ?_
  refine zz_icmp_ne hX 42 dL_does_30 (by decide) (fun _ => ?_) (fun c => absurd c (by decide))
  refine zz_iload_n hX dL_does_42 1 rfl rfl ?_
  refine zz_iconst (v := nI 3) hX dL_does_43 rfl ?_
  refine zz_icmp_ne hX 54 dL_does_44 (by decide) (fun _ => ?_) (fun c => absurd c (by decide))
  refine zz_iload_n hX dL_does_54 1 rfl rfl ?_
  refine zz_iconst (v := nI 4) hX dL_does_55 rfl ?_
  refine zz_icmp_ne hX 72 dL_does_56 (by decide) (fun _ => ?_) (fun c => absurd c (by decide))
  refine zz_iload_n hX dL_does_72 1 rfl rfl ?_
  refine zz_iconst (v := nI 5) hX dL_does_73 rfl ?_
  refine zz_icmp_ne hX 86 dL_does_74 (by decide) (fun _ => ?_) (fun c => absurd c (by decide))
  refine zz_iload_n hX dL_does_86 1 rfl rfl ?_
  refine zz_bipush (v := nI 6) hX dL_does_87 rfl ?_
  refine zz_icmp_ne hX 118 dL_does_89 (by decide) (fun _ => ?_) (fun c => absurd c (by decide))
  refine zz_iload_n hX dL_does_118 1 rfl rfl ?_
  refine zz_bipush (v := nI 7) hX dL_does_119 rfl ?_
  refine zz_icmp_ne hX 133 dL_does_121 (by decide) (fun _ => ?_) (fun c => absurd c (by decide))
  refine zz_iload_n hX dL_does_133 1 rfl rfl ?_
  refine zz_bipush (v := nI 8) hX dL_does_134 rfl ?_
  refine zz_icmp_ne hX 152 dL_does_136 (by decide) (fun _ => ?_) (fun c => absurd c (by decide))
  refine zz_iload_n hX dL_does_152 1 rfl rfl ?_
  refine zz_bipush (v := nI 9) hX dL_does_153 rfl ?_
  refine zz_icmp_ne hX 169 dL_does_155 (by decide) (fun _ => ?_) (fun c => absurd c (by decide))
  refine zz_iload_n hX dL_does_169 1 rfl rfl ?_
  refine zz_bipush (v := nI 10) hX dL_does_170 rfl ?_
  refine zz_icmp_ne hX 183 dL_does_172 (by decide) (fun c => absurd c (by decide)) (fun _ => ?_)
  refine zz_aload_n hX dL_does_175 0 rfl rfl ?_
  refine zz_iload_n hX dL_does_176 2 rfl rfl ?_
  refine zz_callV hX zf_M_L_46 (As := [.int u]) (st := []) (P_play S sh mi mr hW hR u) hR.1.1 rfl rfl rfl (by decide) (Nat.le_of_ble_eq_true rfl) (Nat.le_of_ble_eq_true rfl) (Nat.le_of_ble_eq_true rfl) dL_does_177 ?_ ?_
  rotate_left
  · rintro e9 s9 i9 m9 ⟨hq, e2, e3, e4⟩ -
    obtain rfl := e2.symm
    obtain rfl := e3.symm
    obtain rfl := e4.symm
    rcases hq with ⟨rfl, q1⟩ | ⟨rfl, q1, q2⟩ | ⟨rfl, q1, q2, q3⟩
    · skip
      refine zz_catch hX (pre := []) (suf := [((0 : Nat), (338 : Nat), (344 : Nat), (85 : Nat)), ((0 : Nat), (338 : Nat), (349 : Nat), (88 : Nat))]) (a := 0) (b := 338) (h9 := 339) (k := 82) (i := 6) (len := 2) hT rfl (fun _ h => nomatch h) (by decide) (by decide) zw_cl_L_82 zw_cast_I (Or.inr ⟨dL_does_339, rfl⟩) (Nat.le_of_ble_eq_true rfl) ?_
      refine zz_ldc (v := -3000000) hX zw_con_L_84 dL_does_341 ?_
      exact zz_iret hX hr rfl (Nat.le_of_ble_eq_true rfl) (Nat.le_of_ble_eq_true rfl) dL_does_343 ⟨_, rfl, Or.inr (Or.inl ⟨q1, rfl, hR⟩), zr_same.rfl'⟩
    · skip
      refine zz_catch hX (pre := [((0 : Nat), (338 : Nat), (339 : Nat), (82 : Nat))]) (suf := [((0 : Nat), (338 : Nat), (349 : Nat), (88 : Nat))]) (a := 0) (b := 338) (h9 := 344) (k := 85) (i := 6) (len := 2) hT rfl (List.forall_mem_cons.mpr ⟨⟨zx_I, (by decide), zw_cl_L_82, zk_nc_AI⟩, (fun _ h => nomatch h)⟩) (by decide) (by decide) zw_cl_L_85 zw_cast_A (Or.inr ⟨dL_does_344, rfl⟩) (Nat.le_of_ble_eq_true rfl) ?_
      refine zz_ldc (v := -2000000) hX zw_con_L_87 dL_does_346 ?_
      exact zz_iret hX hr rfl (Nat.le_of_ble_eq_true rfl) (Nat.le_of_ble_eq_true rfl) dL_does_348 ⟨_, rfl, Or.inr (Or.inr (Or.inl ⟨q1, q2, rfl, hR⟩)), zr_same.rfl'⟩
    · skip
      refine zz_catch hX (pre := [((0 : Nat), (338 : Nat), (339 : Nat), (82 : Nat)), ((0 : Nat), (338 : Nat), (344 : Nat), (85 : Nat))]) (suf := []) (a := 0) (b := 338) (h9 := 349) (k := 88) (i := 6) (len := 2) hT rfl (List.forall_mem_cons.mpr ⟨⟨zx_I, (by decide), zw_cl_L_82, zk_nc_SI⟩, (List.forall_mem_cons.mpr ⟨⟨zx_A, (by decide), zw_cl_L_85, zk_nc_SA⟩, (fun _ h => nomatch h)⟩)⟩) (by decide) (by decide) zw_cl_L_88 zw_cast_S (Or.inr ⟨dL_does_349, rfl⟩) (Nat.le_of_ble_eq_true rfl) ?_
      refine zz_ldc (v := -1000000) hX zw_con_L_90 dL_does_351 ?_
      exact zz_iret hX hr rfl (Nat.le_of_ble_eq_true rfl) (Nat.le_of_ble_eq_true rfl) dL_does_353 ⟨_, rfl, Or.inr (Or.inr (Or.inr ⟨q1, q2, q3, rfl, hR⟩)), zr_same.rfl'⟩
  rintro v9 s9 i9 m9 ⟨⟨hA, hB, hC⟩, e1, hR9, hS9⟩ -
  obtain rfl := e1.symm
  refine zz_goto hX 338 dL_does_180 (by decide) ?_
  refine zz_iret hX hr rfl (Nat.le_of_ble_eq_true rfl) (Nat.le_of_ble_eq_true rfl) dL_does_338 ?_
  exact ⟨_, rfl, Or.inl ⟨hA, hB, hC, rfl, hR9⟩, hS9⟩
set_option maxRecDepth 20000 in
theorem D_strike (S : zS) (sh : zm_Sh) (mi : zm_Mi) (mr : zm_Mr) (hW : zW S) (hR : zR S sh mi mr) (s w1 w2 w3 : Int32) : zz_Con yL_does (.codeWith yL_does cL_does 7 (some Jvm.ClassFile.FieldType.int) [((0 : Nat), (338 : Nat), (339 : Nat), (82 : Nat)), ((0 : Nat), (338 : Nat), (344 : Nat), (85 : Nat)), ((0 : Nat), (338 : Nat), (349 : Nat), (88 : Nat))]) 11 10 60 [.ref 2, .int (nI 11), .int s, .int w1, .int w2, .int w3] sh mi mr (zq_d ((zs_ix s (zv_ns S))) (True) ((zp_bar S (zn s) = 0)) (nI (zv_sk S (zn s))) S (zt_strike S (zn s)) sh mi mr) zz_none := by
  refine zz_beginH RL [(0, .ref 2), (1, .int (nI 11)), (2, .int s), (3, .int w1), (4, .int w2), (5, .int w3)] (by decide) rfl rfl (Nat.le_of_ble_eq_true rfl) rfl ?_
  intro Γ D E ad hX hr hT
  refine zz_iload_n hX dL_does_0 1 rfl rfl ?_
  refine zz_if_ne hX 12 dL_does_1 (by decide) (fun _ => ?_) (fun c => absurd c (by decide))
  refine zz_iload_n hX dL_does_12 1 rfl rfl ?_
  refine zz_iconst (v := nI 1) hX dL_does_13 rfl ?_
  refine zz_icmp_ne hX 28 dL_does_14 (by decide) (fun _ => ?_) (fun c => absurd c (by decide))
  refine zz_iload_n hX dL_does_28 1 rfl rfl ?_
  refine zz_iconst (v := nI 2) hX dL_does_29 rfl ?_
  refine zz_icmp_ne hX 42 dL_does_30 (by decide) (fun _ => ?_) (fun c => absurd c (by decide))
  refine zz_iload_n hX dL_does_42 1 rfl rfl ?_
  refine zz_iconst (v := nI 3) hX dL_does_43 rfl ?_
  refine zz_icmp_ne hX 54 dL_does_44 (by decide) (fun _ => ?_) (fun c => absurd c (by decide))
  refine zz_iload_n hX dL_does_54 1 rfl rfl ?_
  refine zz_iconst (v := nI 4) hX dL_does_55 rfl ?_
  refine zz_icmp_ne hX 72 dL_does_56 (by decide) (fun _ => ?_) (fun c => absurd c (by decide))
  refine zz_iload_n hX dL_does_72 1 rfl rfl ?_
  refine zz_iconst (v := nI 5) hX dL_does_73 rfl ?_
  refine zz_icmp_ne hX 86 dL_does_74 (by decide) (fun _ => ?_) (fun c => absurd c (by decide))
  refine zz_iload_n hX dL_does_86 1 rfl rfl ?_
  refine zz_bipush (v := nI 6) hX dL_does_87 rfl ?_
  refine zz_icmp_ne hX 118 dL_does_89 (by decide) (fun _ => ?_) (fun c => absurd c (by decide))
  refine zz_iload_n hX dL_does_118 1 rfl rfl ?_
  refine zz_bipush (v := nI 7) hX dL_does_119 rfl ?_
  refine zz_icmp_ne hX 133 dL_does_121 (by decide) (fun _ => ?_) (fun c => absurd c (by decide))
  refine zz_iload_n hX dL_does_133 1 rfl rfl ?_
  refine zz_bipush (v := nI 8) hX dL_does_134 rfl ?_
  refine zz_icmp_ne hX 152 dL_does_136 (by decide) (fun _ => ?_) (fun c => absurd c (by decide))
  refine zz_iload_n hX dL_does_152 1 rfl rfl ?_
  refine zz_bipush (v := nI 9) hX dL_does_153 rfl ?_
  refine zz_icmp_ne hX 169 dL_does_155 (by decide) (fun _ => ?_) (fun c => absurd c (by decide))
  refine zz_iload_n hX dL_does_169 1 rfl rfl ?_
  refine zz_bipush (v := nI 10) hX dL_does_170 rfl ?_
  refine zz_icmp_ne hX 183 dL_does_172 (by decide) (fun _ => ?_) (fun c => absurd c (by decide))
  refine zz_iload_n hX dL_does_183 1 rfl rfl ?_
  refine zz_bipush (v := nI 11) hX dL_does_184 rfl ?_
  refine zz_icmp_ne hX 197 dL_does_186 (by decide) (fun c => absurd c (by decide)) (fun _ => ?_)
  refine zz_aload_n hX dL_does_189 0 rfl rfl ?_
  refine zz_iload_n hX dL_does_190 2 rfl rfl ?_
  refine zz_callV hX zf_M_L_49 (As := [.int s]) (st := []) (P_strike S sh mi mr hW hR s) hR.1.1 rfl rfl rfl (by decide) (Nat.le_of_ble_eq_true rfl) (Nat.le_of_ble_eq_true rfl) (Nat.le_of_ble_eq_true rfl) dL_does_191 ?_ ?_
  rotate_left
  · rintro e9 s9 i9 m9 ⟨hq, e2, e3, e4⟩ -
    obtain rfl := e2.symm
    obtain rfl := e3.symm
    obtain rfl := e4.symm
    rcases hq with ⟨rfl, q1⟩ | ⟨rfl, q1, q2⟩ | ⟨rfl, q1, q2, q3⟩
    · skip
      refine zz_catch hX (pre := []) (suf := [((0 : Nat), (338 : Nat), (344 : Nat), (85 : Nat)), ((0 : Nat), (338 : Nat), (349 : Nat), (88 : Nat))]) (a := 0) (b := 338) (h9 := 339) (k := 82) (i := 6) (len := 2) hT rfl (fun _ h => nomatch h) (by decide) (by decide) zw_cl_L_82 zw_cast_I (Or.inr ⟨dL_does_339, rfl⟩) (Nat.le_of_ble_eq_true rfl) ?_
      refine zz_ldc (v := -3000000) hX zw_con_L_84 dL_does_341 ?_
      exact zz_iret hX hr rfl (Nat.le_of_ble_eq_true rfl) (Nat.le_of_ble_eq_true rfl) dL_does_343 ⟨_, rfl, Or.inr (Or.inl ⟨q1, rfl, hR⟩), zr_same.rfl'⟩
    · skip
      refine zz_catch hX (pre := [((0 : Nat), (338 : Nat), (339 : Nat), (82 : Nat))]) (suf := [((0 : Nat), (338 : Nat), (349 : Nat), (88 : Nat))]) (a := 0) (b := 338) (h9 := 344) (k := 85) (i := 6) (len := 2) hT rfl (List.forall_mem_cons.mpr ⟨⟨zx_I, (by decide), zw_cl_L_82, zk_nc_AI⟩, (fun _ h => nomatch h)⟩) (by decide) (by decide) zw_cl_L_85 zw_cast_A (Or.inr ⟨dL_does_344, rfl⟩) (Nat.le_of_ble_eq_true rfl) ?_
      refine zz_ldc (v := -2000000) hX zw_con_L_87 dL_does_346 ?_
      exact zz_iret hX hr rfl (Nat.le_of_ble_eq_true rfl) (Nat.le_of_ble_eq_true rfl) dL_does_348 ⟨_, rfl, Or.inr (Or.inr (Or.inl ⟨q1, q2, rfl, hR⟩)), zr_same.rfl'⟩
    · skip
      refine zz_catch hX (pre := [((0 : Nat), (338 : Nat), (339 : Nat), (82 : Nat)), ((0 : Nat), (338 : Nat), (344 : Nat), (85 : Nat))]) (suf := []) (a := 0) (b := 338) (h9 := 349) (k := 88) (i := 6) (len := 2) hT rfl (List.forall_mem_cons.mpr ⟨⟨zx_I, (by decide), zw_cl_L_82, zk_nc_SI⟩, (List.forall_mem_cons.mpr ⟨⟨zx_A, (by decide), zw_cl_L_85, zk_nc_SA⟩, (fun _ h => nomatch h)⟩)⟩) (by decide) (by decide) zw_cl_L_88 zw_cast_S (Or.inr ⟨dL_does_349, rfl⟩) (Nat.le_of_ble_eq_true rfl) ?_
      refine zz_ldc (v := -1000000) hX zw_con_L_90 dL_does_351 ?_
      exact zz_iret hX hr rfl (Nat.le_of_ble_eq_true rfl) (Nat.le_of_ble_eq_true rfl) dL_does_353 ⟨_, rfl, Or.inr (Or.inr (Or.inr ⟨q1, q2, q3, rfl, hR⟩)), zr_same.rfl'⟩
  rintro v9 s9 i9 m9 ⟨⟨hA, hB, hC⟩, e1, hR9, hS9⟩ -
  obtain rfl := e1.symm
  refine zz_goto hX 338 dL_does_194 (by decide) ?_
  refine zz_iret hX hr rfl (Nat.le_of_ble_eq_true rfl) (Nat.le_of_ble_eq_true rfl) dL_does_338 ?_
  exact ⟨_, rfl, Or.inl ⟨hA, hB, hC, rfl, hR9⟩, hS9⟩
set_option maxRecDepth 20000 in
theorem D_bump (S : zS) (sh : zm_Sh) (mi : zm_Mi) (mr : zm_Mr) (hW : zW S) (hR : zR S sh mi mr) (s u w2 w3 : Int32) : zz_Con yL_does (.codeWith yL_does cL_does 7 (some Jvm.ClassFile.FieldType.int) [((0 : Nat), (338 : Nat), (339 : Nat), (82 : Nat)), ((0 : Nat), (338 : Nat), (344 : Nat), (85 : Nat)), ((0 : Nat), (338 : Nat), (349 : Nat), (88 : Nat))]) 11 10 60 [.ref 2, .int (nI 12), .int s, .int u, .int w2, .int w3] sh mi mr (zq_d ((zs_ix s (zv_ns S))) (((-99) ≤ u ∧ u ≤ nI 99)) ((0 < zv_sk S (zn s))) (S 16 (zn s) + u) S ((zm_u2 S 16 (zn s) (S 16 (zn s) + u))) sh mi mr) zz_none := by
  refine zz_beginH RL [(0, .ref 2), (1, .int (nI 12)), (2, .int s), (3, .int u), (4, .int w2), (5, .int w3)] (by decide) rfl rfl (Nat.le_of_ble_eq_true rfl) rfl ?_
  intro Γ D E ad hX hr hT
  refine zz_iload_n hX dL_does_0 1 rfl rfl ?_
  refine zz_if_ne hX 12 dL_does_1 (by decide) (fun _ => ?_) (fun c => absurd c (by decide))
  refine zz_iload_n hX dL_does_12 1 rfl rfl ?_
  refine zz_iconst (v := nI 1) hX dL_does_13 rfl ?_
  refine zz_icmp_ne hX 28 dL_does_14 (by decide) (fun _ => ?_) (fun c => absurd c (by decide))
  refine zz_iload_n hX dL_does_28 1 rfl rfl ?_
  refine zz_iconst (v := nI 2) hX dL_does_29 rfl ?_
  refine zz_icmp_ne hX 42 dL_does_30 (by decide) (fun _ => ?_) (fun c => absurd c (by decide))
  refine zz_iload_n hX dL_does_42 1 rfl rfl ?_
  refine zz_iconst (v := nI 3) hX dL_does_43 rfl ?_
  refine zz_icmp_ne hX 54 dL_does_44 (by decide) (fun _ => ?_) (fun c => absurd c (by decide))
  refine zz_iload_n hX dL_does_54 1 rfl rfl ?_
  refine zz_iconst (v := nI 4) hX dL_does_55 rfl ?_
  refine zz_icmp_ne hX 72 dL_does_56 (by decide) (fun _ => ?_) (fun c => absurd c (by decide))
  refine zz_iload_n hX dL_does_72 1 rfl rfl ?_
  refine zz_iconst (v := nI 5) hX dL_does_73 rfl ?_
  refine zz_icmp_ne hX 86 dL_does_74 (by decide) (fun _ => ?_) (fun c => absurd c (by decide))
  refine zz_iload_n hX dL_does_86 1 rfl rfl ?_
  refine zz_bipush (v := nI 6) hX dL_does_87 rfl ?_
  refine zz_icmp_ne hX 118 dL_does_89 (by decide) (fun _ => ?_) (fun c => absurd c (by decide))
  refine zz_iload_n hX dL_does_118 1 rfl rfl ?_
  refine zz_bipush (v := nI 7) hX dL_does_119 rfl ?_
  refine zz_icmp_ne hX 133 dL_does_121 (by decide) (fun _ => ?_) (fun c => absurd c (by decide))
  refine zz_iload_n hX dL_does_133 1 rfl rfl ?_
  refine zz_bipush (v := nI 8) hX dL_does_134 rfl ?_
  refine zz_icmp_ne hX 152 dL_does_136 (by decide) (fun _ => ?_) (fun c => absurd c (by decide))
  refine zz_iload_n hX dL_does_152 1 rfl rfl ?_
  refine zz_bipush (v := nI 9) hX dL_does_153 rfl ?_
  refine zz_icmp_ne hX 169 dL_does_155 (by decide) (fun _ => ?_) (fun c => absurd c (by decide))
  refine zz_iload_n hX dL_does_169 1 rfl rfl ?_
  refine zz_bipush (v := nI 10) hX dL_does_170 rfl ?_
  refine zz_icmp_ne hX 183 dL_does_172 (by decide) (fun _ => ?_) (fun c => absurd c (by decide))
  refine zz_iload_n hX dL_does_183 1 rfl rfl ?_
  refine zz_bipush (v := nI 11) hX dL_does_184 rfl ?_
  refine zz_icmp_ne hX 197 dL_does_186 (by decide) (fun _ => ?_) (fun c => absurd c (by decide))
  refine zz_iload_n hX dL_does_197 1 rfl rfl ?_
  refine zz_bipush (v := nI 12) hX dL_does_198 rfl ?_
  refine zz_icmp_ne hX 212 dL_does_200 (by decide) (fun c => absurd c (by decide)) (fun _ => ?_)
  refine zz_aload_n hX dL_does_203 0 rfl rfl ?_
  refine zz_iload_n hX dL_does_204 2 rfl rfl ?_
  refine zz_iload_n hX dL_does_205 3 rfl rfl ?_
  refine zz_callV hX zf_M_L_52 (As := [.int s, .int u]) (st := []) (P_bump S sh mi mr hW hR s u) hR.1.1 rfl rfl rfl (by decide) (Nat.le_of_ble_eq_true rfl) (Nat.le_of_ble_eq_true rfl) (Nat.le_of_ble_eq_true rfl) dL_does_206 ?_ ?_
  rotate_left
  · rintro e9 s9 i9 m9 ⟨hq, e2, e3, e4⟩ -
    obtain rfl := e2.symm
    obtain rfl := e3.symm
    obtain rfl := e4.symm
    rcases hq with ⟨rfl, q1⟩ | ⟨rfl, q1, q2⟩ | ⟨rfl, q1, q2, q3⟩
    · skip
      refine zz_catch hX (pre := []) (suf := [((0 : Nat), (338 : Nat), (344 : Nat), (85 : Nat)), ((0 : Nat), (338 : Nat), (349 : Nat), (88 : Nat))]) (a := 0) (b := 338) (h9 := 339) (k := 82) (i := 6) (len := 2) hT rfl (fun _ h => nomatch h) (by decide) (by decide) zw_cl_L_82 zw_cast_I (Or.inr ⟨dL_does_339, rfl⟩) (Nat.le_of_ble_eq_true rfl) ?_
      refine zz_ldc (v := -3000000) hX zw_con_L_84 dL_does_341 ?_
      exact zz_iret hX hr rfl (Nat.le_of_ble_eq_true rfl) (Nat.le_of_ble_eq_true rfl) dL_does_343 ⟨_, rfl, Or.inr (Or.inl ⟨q1, rfl, hR⟩), zr_same.rfl'⟩
    · skip
      refine zz_catch hX (pre := [((0 : Nat), (338 : Nat), (339 : Nat), (82 : Nat))]) (suf := [((0 : Nat), (338 : Nat), (349 : Nat), (88 : Nat))]) (a := 0) (b := 338) (h9 := 344) (k := 85) (i := 6) (len := 2) hT rfl (List.forall_mem_cons.mpr ⟨⟨zx_I, (by decide), zw_cl_L_82, zk_nc_AI⟩, (fun _ h => nomatch h)⟩) (by decide) (by decide) zw_cl_L_85 zw_cast_A (Or.inr ⟨dL_does_344, rfl⟩) (Nat.le_of_ble_eq_true rfl) ?_
      refine zz_ldc (v := -2000000) hX zw_con_L_87 dL_does_346 ?_
      exact zz_iret hX hr rfl (Nat.le_of_ble_eq_true rfl) (Nat.le_of_ble_eq_true rfl) dL_does_348 ⟨_, rfl, Or.inr (Or.inr (Or.inl ⟨q1, q2, rfl, hR⟩)), zr_same.rfl'⟩
    · skip
      refine zz_catch hX (pre := [((0 : Nat), (338 : Nat), (339 : Nat), (82 : Nat)), ((0 : Nat), (338 : Nat), (344 : Nat), (85 : Nat))]) (suf := []) (a := 0) (b := 338) (h9 := 349) (k := 88) (i := 6) (len := 2) hT rfl (List.forall_mem_cons.mpr ⟨⟨zx_I, (by decide), zw_cl_L_82, zk_nc_SI⟩, (List.forall_mem_cons.mpr ⟨⟨zx_A, (by decide), zw_cl_L_85, zk_nc_SA⟩, (fun _ h => nomatch h)⟩)⟩) (by decide) (by decide) zw_cl_L_88 zw_cast_S (Or.inr ⟨dL_does_349, rfl⟩) (Nat.le_of_ble_eq_true rfl) ?_
      refine zz_ldc (v := -1000000) hX zw_con_L_90 dL_does_351 ?_
      exact zz_iret hX hr rfl (Nat.le_of_ble_eq_true rfl) (Nat.le_of_ble_eq_true rfl) dL_does_353 ⟨_, rfl, Or.inr (Or.inr (Or.inr ⟨q1, q2, q3, rfl, hR⟩)), zr_same.rfl'⟩
  rintro v9 s9 i9 m9 ⟨⟨hA, hB, hC⟩, e1, hR9, hS9⟩ -
  obtain rfl := e1.symm
  refine zz_goto hX 338 dL_does_209 (by decide) ?_
  refine zz_iret hX hr rfl (Nat.le_of_ble_eq_true rfl) (Nat.le_of_ble_eq_true rfl) dL_does_338 ?_
  exact ⟨_, rfl, Or.inl ⟨hA, hB, hC, rfl, hR9⟩, hS9⟩
set_option maxRecDepth 20000 in
theorem D_level (S : zS) (sh : zm_Sh) (mi : zm_Mi) (mr : zm_Mr) (hW : zW S) (hR : zR S sh mi mr) (s w1 w2 w3 : Int32) : zz_Con yL_does (.codeWith yL_does cL_does 7 (some Jvm.ClassFile.FieldType.int) [((0 : Nat), (338 : Nat), (339 : Nat), (82 : Nat)), ((0 : Nat), (338 : Nat), (344 : Nat), (85 : Nat)), ((0 : Nat), (338 : Nat), (349 : Nat), (88 : Nat))]) 11 10 60 [.ref 2, .int (nI 13), .int s, .int w1, .int w2, .int w3] sh mi mr (zq_d ((zs_ix s (zv_ns S))) (True) (True) (S 16 (zn s)) S ((zm_u2 S 16 (zn s) (0))) sh mi mr) zz_none := by
  refine zz_beginH RL [(0, .ref 2), (1, .int (nI 13)), (2, .int s), (3, .int w1), (4, .int w2), (5, .int w3)] (by decide) rfl rfl (Nat.le_of_ble_eq_true rfl) rfl ?_
  intro Γ D E ad hX hr hT
  refine zz_iload_n hX dL_does_0 1 rfl rfl ?_
  refine zz_if_ne hX 12 dL_does_1 (by decide) (fun _ => ?_) (fun c => absurd c (by decide))
  refine zz_iload_n hX dL_does_12 1 rfl rfl ?_
  refine zz_iconst (v := nI 1) hX dL_does_13 rfl ?_
  refine zz_icmp_ne hX 28 dL_does_14 (by decide) (fun _ => ?_) (fun c => absurd c (by decide))
  refine zz_iload_n hX dL_does_28 1 rfl rfl ?_
  refine zz_iconst (v := nI 2) hX dL_does_29 rfl ?_
  refine zz_icmp_ne hX 42 dL_does_30 (by decide) (fun _ => ?_) (fun c => absurd c (by decide))
  refine zz_iload_n hX dL_does_42 1 rfl rfl ?_
  refine zz_iconst (v := nI 3) hX dL_does_43 rfl ?_
  refine zz_icmp_ne hX 54 dL_does_44 (by decide) (fun _ => ?_) (fun c => absurd c (by decide))
  refine zz_iload_n hX dL_does_54 1 rfl rfl ?_
  refine zz_iconst (v := nI 4) hX dL_does_55 rfl ?_
  refine zz_icmp_ne hX 72 dL_does_56 (by decide) (fun _ => ?_) (fun c => absurd c (by decide))
  refine zz_iload_n hX dL_does_72 1 rfl rfl ?_
  refine zz_iconst (v := nI 5) hX dL_does_73 rfl ?_
  refine zz_icmp_ne hX 86 dL_does_74 (by decide) (fun _ => ?_) (fun c => absurd c (by decide))
  refine zz_iload_n hX dL_does_86 1 rfl rfl ?_
  refine zz_bipush (v := nI 6) hX dL_does_87 rfl ?_
  refine zz_icmp_ne hX 118 dL_does_89 (by decide) (fun _ => ?_) (fun c => absurd c (by decide))
  refine zz_iload_n hX dL_does_118 1 rfl rfl ?_
  refine zz_bipush (v := nI 7) hX dL_does_119 rfl ?_
  refine zz_icmp_ne hX 133 dL_does_121 (by decide) (fun _ => ?_) (fun c => absurd c (by decide))
  refine zz_iload_n hX dL_does_133 1 rfl rfl ?_
  refine zz_bipush (v := nI 8) hX dL_does_134 rfl ?_
  refine zz_icmp_ne hX 152 dL_does_136 (by decide) (fun _ => ?_) (fun c => absurd c (by decide))
  refine zz_iload_n hX dL_does_152 1 rfl rfl ?_
  refine zz_bipush (v := nI 9) hX dL_does_153 rfl ?_
  refine zz_icmp_ne hX 169 dL_does_155 (by decide) (fun _ => ?_) (fun c => absurd c (by decide))
  refine zz_iload_n hX dL_does_169 1 rfl rfl ?_
  refine zz_bipush (v := nI 10) hX dL_does_170 rfl ?_
  refine zz_icmp_ne hX 183 dL_does_172 (by decide) (fun _ => ?_) (fun c => absurd c (by decide))
  refine zz_iload_n hX dL_does_183 1 rfl rfl ?_
  refine zz_bipush (v := nI 11) hX dL_does_184 rfl ?_
  refine zz_icmp_ne hX 197 dL_does_186 (by decide) (fun _ => ?_) (fun c => absurd c (by decide))
  refine zz_iload_n hX dL_does_197 1 rfl rfl ?_
  refine zz_bipush (v := nI 12) hX dL_does_198 rfl ?_
  refine zz_icmp_ne hX 212 dL_does_200 (by decide) (fun _ => ?_) (fun c => absurd c (by decide))
  refine zz_iload_n hX dL_does_212 1 rfl rfl ?_
  refine zz_bipush (v := nI 13) hX dL_does_213 rfl ?_
  refine zz_icmp_ne hX 226 dL_does_215 (by decide) (fun c => absurd c (by decide)) (fun _ => ?_)
  refine zz_aload_n hX dL_does_218 0 rfl rfl ?_
  refine zz_iload_n hX dL_does_219 2 rfl rfl ?_
  refine zz_callV hX zf_M_L_55 (As := [.int s]) (st := []) (P_level S sh mi mr hW hR s) hR.1.1 rfl rfl rfl (by decide) (Nat.le_of_ble_eq_true rfl) (Nat.le_of_ble_eq_true rfl) (Nat.le_of_ble_eq_true rfl) dL_does_220 ?_ ?_
  rotate_left
  · rintro e9 s9 i9 m9 ⟨hq, e2, e3, e4⟩ -
    obtain rfl := e2.symm
    obtain rfl := e3.symm
    obtain rfl := e4.symm
    rcases hq with ⟨rfl, q1⟩ | ⟨rfl, q1, q2⟩ | ⟨rfl, q1, q2, q3⟩
    · skip
      refine zz_catch hX (pre := []) (suf := [((0 : Nat), (338 : Nat), (344 : Nat), (85 : Nat)), ((0 : Nat), (338 : Nat), (349 : Nat), (88 : Nat))]) (a := 0) (b := 338) (h9 := 339) (k := 82) (i := 6) (len := 2) hT rfl (fun _ h => nomatch h) (by decide) (by decide) zw_cl_L_82 zw_cast_I (Or.inr ⟨dL_does_339, rfl⟩) (Nat.le_of_ble_eq_true rfl) ?_
      refine zz_ldc (v := -3000000) hX zw_con_L_84 dL_does_341 ?_
      exact zz_iret hX hr rfl (Nat.le_of_ble_eq_true rfl) (Nat.le_of_ble_eq_true rfl) dL_does_343 ⟨_, rfl, Or.inr (Or.inl ⟨q1, rfl, hR⟩), zr_same.rfl'⟩
    · skip
      refine zz_catch hX (pre := [((0 : Nat), (338 : Nat), (339 : Nat), (82 : Nat))]) (suf := [((0 : Nat), (338 : Nat), (349 : Nat), (88 : Nat))]) (a := 0) (b := 338) (h9 := 344) (k := 85) (i := 6) (len := 2) hT rfl (List.forall_mem_cons.mpr ⟨⟨zx_I, (by decide), zw_cl_L_82, zk_nc_AI⟩, (fun _ h => nomatch h)⟩) (by decide) (by decide) zw_cl_L_85 zw_cast_A (Or.inr ⟨dL_does_344, rfl⟩) (Nat.le_of_ble_eq_true rfl) ?_
      refine zz_ldc (v := -2000000) hX zw_con_L_87 dL_does_346 ?_
      exact zz_iret hX hr rfl (Nat.le_of_ble_eq_true rfl) (Nat.le_of_ble_eq_true rfl) dL_does_348 ⟨_, rfl, Or.inr (Or.inr (Or.inl ⟨q1, q2, rfl, hR⟩)), zr_same.rfl'⟩
    · skip
      refine zz_catch hX (pre := [((0 : Nat), (338 : Nat), (339 : Nat), (82 : Nat)), ((0 : Nat), (338 : Nat), (344 : Nat), (85 : Nat))]) (suf := []) (a := 0) (b := 338) (h9 := 349) (k := 88) (i := 6) (len := 2) hT rfl (List.forall_mem_cons.mpr ⟨⟨zx_I, (by decide), zw_cl_L_82, zk_nc_SI⟩, (List.forall_mem_cons.mpr ⟨⟨zx_A, (by decide), zw_cl_L_85, zk_nc_SA⟩, (fun _ h => nomatch h)⟩)⟩) (by decide) (by decide) zw_cl_L_88 zw_cast_S (Or.inr ⟨dL_does_349, rfl⟩) (Nat.le_of_ble_eq_true rfl) ?_
      refine zz_ldc (v := -1000000) hX zw_con_L_90 dL_does_351 ?_
      exact zz_iret hX hr rfl (Nat.le_of_ble_eq_true rfl) (Nat.le_of_ble_eq_true rfl) dL_does_353 ⟨_, rfl, Or.inr (Or.inr (Or.inr ⟨q1, q2, q3, rfl, hR⟩)), zr_same.rfl'⟩
  rintro v9 s9 i9 m9 ⟨⟨hA, hB, hC⟩, e1, hR9, hS9⟩ -
  obtain rfl := e1.symm
  refine zz_goto hX 338 dL_does_223 (by decide) ?_
  refine zz_iret hX hr rfl (Nat.le_of_ble_eq_true rfl) (Nat.le_of_ble_eq_true rfl) dL_does_338 ?_
  exact ⟨_, rfl, Or.inl ⟨hA, hB, hC, rfl, hR9⟩, hS9⟩
set_option maxRecDepth 20000 in
theorem D_anew (S : zS) (sh : zm_Sh) (mi : zm_Mi) (mr : zm_Mr) (hW : zW S) (hR : zR S sh mi mr) (s fx w2 w3 : Int32) : zz_Con yL_does (.codeWith yL_does cL_does 7 (some Jvm.ClassFile.FieldType.int) [((0 : Nat), (338 : Nat), (339 : Nat), (82 : Nat)), ((0 : Nat), (338 : Nat), (344 : Nat), (85 : Nat)), ((0 : Nat), (338 : Nat), (349 : Nat), (88 : Nat))]) 11 10 60 [.ref 2, .int (nI 14), .int s, .int fx, .int w2, .int w3] sh mi mr (zq_d ((zs_ix s (zv_ns S)) ∧ (zs_ix fx (zv_fr S (zn s)))) (True) ((fx < nI (zv_sk S (zn s))) ∧ (zp_cut S s = -1)) (nI (zv_sk S (zn s) - zn fx)) S (zm_u2 S 15 (zn s) (nI (zn fx))) sh mi mr) zz_none := by
  refine zz_beginH RL [(0, .ref 2), (1, .int (nI 14)), (2, .int s), (3, .int fx), (4, .int w2), (5, .int w3)] (by decide) rfl rfl (Nat.le_of_ble_eq_true rfl) rfl ?_
  intro Γ D E ad hX hr hT
  refine zz_iload_n hX dL_does_0 1 rfl rfl ?_
  refine zz_if_ne hX 12 dL_does_1 (by decide) (fun _ => ?_) (fun c => absurd c (by decide))
  refine zz_iload_n hX dL_does_12 1 rfl rfl ?_
  refine zz_iconst (v := nI 1) hX dL_does_13 rfl ?_
  refine zz_icmp_ne hX 28 dL_does_14 (by decide) (fun _ => ?_) (fun c => absurd c (by decide))
  refine zz_iload_n hX dL_does_28 1 rfl rfl ?_
  refine zz_iconst (v := nI 2) hX dL_does_29 rfl ?_
  refine zz_icmp_ne hX 42 dL_does_30 (by decide) (fun _ => ?_) (fun c => absurd c (by decide))
  refine zz_iload_n hX dL_does_42 1 rfl rfl ?_
  refine zz_iconst (v := nI 3) hX dL_does_43 rfl ?_
  refine zz_icmp_ne hX 54 dL_does_44 (by decide) (fun _ => ?_) (fun c => absurd c (by decide))
  refine zz_iload_n hX dL_does_54 1 rfl rfl ?_
  refine zz_iconst (v := nI 4) hX dL_does_55 rfl ?_
  refine zz_icmp_ne hX 72 dL_does_56 (by decide) (fun _ => ?_) (fun c => absurd c (by decide))
  refine zz_iload_n hX dL_does_72 1 rfl rfl ?_
  refine zz_iconst (v := nI 5) hX dL_does_73 rfl ?_
  refine zz_icmp_ne hX 86 dL_does_74 (by decide) (fun _ => ?_) (fun c => absurd c (by decide))
  refine zz_iload_n hX dL_does_86 1 rfl rfl ?_
  refine zz_bipush (v := nI 6) hX dL_does_87 rfl ?_
  refine zz_icmp_ne hX 118 dL_does_89 (by decide) (fun _ => ?_) (fun c => absurd c (by decide))
  refine zz_iload_n hX dL_does_118 1 rfl rfl ?_
  refine zz_bipush (v := nI 7) hX dL_does_119 rfl ?_
  refine zz_icmp_ne hX 133 dL_does_121 (by decide) (fun _ => ?_) (fun c => absurd c (by decide))
  refine zz_iload_n hX dL_does_133 1 rfl rfl ?_
  refine zz_bipush (v := nI 8) hX dL_does_134 rfl ?_
  refine zz_icmp_ne hX 152 dL_does_136 (by decide) (fun _ => ?_) (fun c => absurd c (by decide))
  refine zz_iload_n hX dL_does_152 1 rfl rfl ?_
  refine zz_bipush (v := nI 9) hX dL_does_153 rfl ?_
  refine zz_icmp_ne hX 169 dL_does_155 (by decide) (fun _ => ?_) (fun c => absurd c (by decide))
  refine zz_iload_n hX dL_does_169 1 rfl rfl ?_
  refine zz_bipush (v := nI 10) hX dL_does_170 rfl ?_
  refine zz_icmp_ne hX 183 dL_does_172 (by decide) (fun _ => ?_) (fun c => absurd c (by decide))
  refine zz_iload_n hX dL_does_183 1 rfl rfl ?_
  refine zz_bipush (v := nI 11) hX dL_does_184 rfl ?_
  refine zz_icmp_ne hX 197 dL_does_186 (by decide) (fun _ => ?_) (fun c => absurd c (by decide))
  refine zz_iload_n hX dL_does_197 1 rfl rfl ?_
  refine zz_bipush (v := nI 12) hX dL_does_198 rfl ?_
  refine zz_icmp_ne hX 212 dL_does_200 (by decide) (fun _ => ?_) (fun c => absurd c (by decide))
  refine zz_iload_n hX dL_does_212 1 rfl rfl ?_
  refine zz_bipush (v := nI 13) hX dL_does_213 rfl ?_
  refine zz_icmp_ne hX 226 dL_does_215 (by decide) (fun _ => ?_) (fun c => absurd c (by decide))
  refine zz_iload_n hX dL_does_226 1 rfl rfl ?_
  refine zz_bipush (v := nI 14) hX dL_does_227 rfl ?_
  refine zz_icmp_ne hX 241 dL_does_229 (by decide) (fun c => absurd c (by decide)) (fun _ => ?_)
  refine zz_aload_n hX dL_does_232 0 rfl rfl ?_
  refine zz_iload_n hX dL_does_233 2 rfl rfl ?_
  refine zz_iload_n hX dL_does_234 3 rfl rfl ?_
  refine zz_callV hX zf_M_L_58 (As := [.int s, .int fx]) (st := []) (P_anew S sh mi mr hW hR s fx) hR.1.1 rfl rfl rfl (by decide) (Nat.le_of_ble_eq_true rfl) (Nat.le_of_ble_eq_true rfl) (Nat.le_of_ble_eq_true rfl) dL_does_235 ?_ ?_
  rotate_left
  · rintro e9 s9 i9 m9 ⟨hq, e2, e3, e4⟩ -
    obtain rfl := e2.symm
    obtain rfl := e3.symm
    obtain rfl := e4.symm
    rcases hq with ⟨rfl, q1⟩ | ⟨rfl, q1, q2⟩ | ⟨rfl, q1, q2, q3⟩
    · skip
      refine zz_catch hX (pre := []) (suf := [((0 : Nat), (338 : Nat), (344 : Nat), (85 : Nat)), ((0 : Nat), (338 : Nat), (349 : Nat), (88 : Nat))]) (a := 0) (b := 338) (h9 := 339) (k := 82) (i := 6) (len := 2) hT rfl (fun _ h => nomatch h) (by decide) (by decide) zw_cl_L_82 zw_cast_I (Or.inr ⟨dL_does_339, rfl⟩) (Nat.le_of_ble_eq_true rfl) ?_
      refine zz_ldc (v := -3000000) hX zw_con_L_84 dL_does_341 ?_
      exact zz_iret hX hr rfl (Nat.le_of_ble_eq_true rfl) (Nat.le_of_ble_eq_true rfl) dL_does_343 ⟨_, rfl, Or.inr (Or.inl ⟨q1, rfl, hR⟩), zr_same.rfl'⟩
    · skip
      refine zz_catch hX (pre := [((0 : Nat), (338 : Nat), (339 : Nat), (82 : Nat))]) (suf := [((0 : Nat), (338 : Nat), (349 : Nat), (88 : Nat))]) (a := 0) (b := 338) (h9 := 344) (k := 85) (i := 6) (len := 2) hT rfl (List.forall_mem_cons.mpr ⟨⟨zx_I, (by decide), zw_cl_L_82, zk_nc_AI⟩, (fun _ h => nomatch h)⟩) (by decide) (by decide) zw_cl_L_85 zw_cast_A (Or.inr ⟨dL_does_344, rfl⟩) (Nat.le_of_ble_eq_true rfl) ?_
      refine zz_ldc (v := -2000000) hX zw_con_L_87 dL_does_346 ?_
      exact zz_iret hX hr rfl (Nat.le_of_ble_eq_true rfl) (Nat.le_of_ble_eq_true rfl) dL_does_348 ⟨_, rfl, Or.inr (Or.inr (Or.inl ⟨q1, q2, rfl, hR⟩)), zr_same.rfl'⟩
    · skip
      refine zz_catch hX (pre := [((0 : Nat), (338 : Nat), (339 : Nat), (82 : Nat)), ((0 : Nat), (338 : Nat), (344 : Nat), (85 : Nat))]) (suf := []) (a := 0) (b := 338) (h9 := 349) (k := 88) (i := 6) (len := 2) hT rfl (List.forall_mem_cons.mpr ⟨⟨zx_I, (by decide), zw_cl_L_82, zk_nc_SI⟩, (List.forall_mem_cons.mpr ⟨⟨zx_A, (by decide), zw_cl_L_85, zk_nc_SA⟩, (fun _ h => nomatch h)⟩)⟩) (by decide) (by decide) zw_cl_L_88 zw_cast_S (Or.inr ⟨dL_does_349, rfl⟩) (Nat.le_of_ble_eq_true rfl) ?_
      refine zz_ldc (v := -1000000) hX zw_con_L_90 dL_does_351 ?_
      exact zz_iret hX hr rfl (Nat.le_of_ble_eq_true rfl) (Nat.le_of_ble_eq_true rfl) dL_does_353 ⟨_, rfl, Or.inr (Or.inr (Or.inr ⟨q1, q2, q3, rfl, hR⟩)), zr_same.rfl'⟩
  rintro v9 s9 i9 m9 ⟨⟨hA, hB, hC⟩, e1, hR9, hS9⟩ -
  obtain rfl := e1.symm
  refine zz_goto hX 338 dL_does_238 (by decide) ?_
  refine zz_iret hX hr rfl (Nat.le_of_ble_eq_true rfl) (Nat.le_of_ble_eq_true rfl) dL_does_338 ?_
  exact ⟨_, rfl, Or.inl ⟨hA, hB, hC, rfl, hR9⟩, hS9⟩
set_option maxRecDepth 20000 in
theorem D_mend (S : zS) (sh : zm_Sh) (mi : zm_Mi) (mr : zm_Mr) (hW : zW S) (hR : zR S sh mi mr) (px jx w2 w3 : Int32) : zz_Con yL_does (.codeWith yL_does cL_does 7 (some Jvm.ClassFile.FieldType.int) [((0 : Nat), (338 : Nat), (339 : Nat), (82 : Nat)), ((0 : Nat), (338 : Nat), (344 : Nat), (85 : Nat)), ((0 : Nat), (338 : Nat), (349 : Nat), (88 : Nat))]) 11 10 60 [.ref 2, .int (nI 15), .int px, .int jx, .int w2, .int w3] sh mi mr (zq_d ((zs_ix px (zv_np S)) ∧ (zs_ix jx (zv_jn S (zn px)))) (True) (True) (S 3 (6 * zn px + zn jx)) S ((zm_u2 S 3 (6 * zn px + zn jx) (0))) sh mi mr) zz_none := by
  refine zz_beginH RL [(0, .ref 2), (1, .int (nI 15)), (2, .int px), (3, .int jx), (4, .int w2), (5, .int w3)] (by decide) rfl rfl (Nat.le_of_ble_eq_true rfl) rfl ?_
  intro Γ D E ad hX hr hT
  refine zz_iload_n hX dL_does_0 1 rfl rfl ?_
  refine zz_if_ne hX 12 dL_does_1 (by decide) (fun _ => ?_) (fun c => absurd c (by decide))
  refine zz_iload_n hX dL_does_12 1 rfl rfl ?_
  refine zz_iconst (v := nI 1) hX dL_does_13 rfl ?_
  refine zz_icmp_ne hX 28 dL_does_14 (by decide) (fun _ => ?_) (fun c => absurd c (by decide))
  refine zz_iload_n hX dL_does_28 1 rfl rfl ?_
  refine zz_iconst (v := nI 2) hX dL_does_29 rfl ?_
  refine zz_icmp_ne hX 42 dL_does_30 (by decide) (fun _ => ?_) (fun c => absurd c (by decide))
  refine zz_iload_n hX dL_does_42 1 rfl rfl ?_
  refine zz_iconst (v := nI 3) hX dL_does_43 rfl ?_
  refine zz_icmp_ne hX 54 dL_does_44 (by decide) (fun _ => ?_) (fun c => absurd c (by decide))
  refine zz_iload_n hX dL_does_54 1 rfl rfl ?_
  refine zz_iconst (v := nI 4) hX dL_does_55 rfl ?_
  refine zz_icmp_ne hX 72 dL_does_56 (by decide) (fun _ => ?_) (fun c => absurd c (by decide))
  refine zz_iload_n hX dL_does_72 1 rfl rfl ?_
  refine zz_iconst (v := nI 5) hX dL_does_73 rfl ?_
  refine zz_icmp_ne hX 86 dL_does_74 (by decide) (fun _ => ?_) (fun c => absurd c (by decide))
  refine zz_iload_n hX dL_does_86 1 rfl rfl ?_
  refine zz_bipush (v := nI 6) hX dL_does_87 rfl ?_
  refine zz_icmp_ne hX 118 dL_does_89 (by decide) (fun _ => ?_) (fun c => absurd c (by decide))
  refine zz_iload_n hX dL_does_118 1 rfl rfl ?_
  refine zz_bipush (v := nI 7) hX dL_does_119 rfl ?_
  refine zz_icmp_ne hX 133 dL_does_121 (by decide) (fun _ => ?_) (fun c => absurd c (by decide))
  refine zz_iload_n hX dL_does_133 1 rfl rfl ?_
  refine zz_bipush (v := nI 8) hX dL_does_134 rfl ?_
  refine zz_icmp_ne hX 152 dL_does_136 (by decide) (fun _ => ?_) (fun c => absurd c (by decide))
  refine zz_iload_n hX dL_does_152 1 rfl rfl ?_
  refine zz_bipush (v := nI 9) hX dL_does_153 rfl ?_
  refine zz_icmp_ne hX 169 dL_does_155 (by decide) (fun _ => ?_) (fun c => absurd c (by decide))
  refine zz_iload_n hX dL_does_169 1 rfl rfl ?_
  refine zz_bipush (v := nI 10) hX dL_does_170 rfl ?_
  refine zz_icmp_ne hX 183 dL_does_172 (by decide) (fun _ => ?_) (fun c => absurd c (by decide))
  refine zz_iload_n hX dL_does_183 1 rfl rfl ?_
  refine zz_bipush (v := nI 11) hX dL_does_184 rfl ?_
  refine zz_icmp_ne hX 197 dL_does_186 (by decide) (fun _ => ?_) (fun c => absurd c (by decide))
  refine zz_iload_n hX dL_does_197 1 rfl rfl ?_
  refine zz_bipush (v := nI 12) hX dL_does_198 rfl ?_
  refine zz_icmp_ne hX 212 dL_does_200 (by decide) (fun _ => ?_) (fun c => absurd c (by decide))
  refine zz_iload_n hX dL_does_212 1 rfl rfl ?_
  refine zz_bipush (v := nI 13) hX dL_does_213 rfl ?_
  refine zz_icmp_ne hX 226 dL_does_215 (by decide) (fun _ => ?_) (fun c => absurd c (by decide))
  refine zz_iload_n hX dL_does_226 1 rfl rfl ?_
  refine zz_bipush (v := nI 14) hX dL_does_227 rfl ?_
  refine zz_icmp_ne hX 241 dL_does_229 (by decide) (fun _ => ?_) (fun c => absurd c (by decide))
  refine zz_iload_n hX dL_does_241 1 rfl rfl ?_
  refine zz_bipush (v := nI 15) hX dL_does_242 rfl ?_
  refine zz_icmp_ne hX 256 dL_does_244 (by decide) (fun c => absurd c (by decide)) (fun _ => ?_)
  refine zz_aload_n hX dL_does_247 0 rfl rfl ?_
  refine zz_iload_n hX dL_does_248 2 rfl rfl ?_
  refine zz_iload_n hX dL_does_249 3 rfl rfl ?_
  refine zz_callV hX zf_M_L_61 (As := [.int px, .int jx]) (st := []) (P_mend S sh mi mr hW hR px jx) hR.1.1 rfl rfl rfl (by decide) (Nat.le_of_ble_eq_true rfl) (Nat.le_of_ble_eq_true rfl) (Nat.le_of_ble_eq_true rfl) dL_does_250 ?_ ?_
  rotate_left
  · rintro e9 s9 i9 m9 ⟨hq, e2, e3, e4⟩ -
    obtain rfl := e2.symm
    obtain rfl := e3.symm
    obtain rfl := e4.symm
    rcases hq with ⟨rfl, q1⟩ | ⟨rfl, q1, q2⟩ | ⟨rfl, q1, q2, q3⟩
    · skip
      refine zz_catch hX (pre := []) (suf := [((0 : Nat), (338 : Nat), (344 : Nat), (85 : Nat)), ((0 : Nat), (338 : Nat), (349 : Nat), (88 : Nat))]) (a := 0) (b := 338) (h9 := 339) (k := 82) (i := 6) (len := 2) hT rfl (fun _ h => nomatch h) (by decide) (by decide) zw_cl_L_82 zw_cast_I (Or.inr ⟨dL_does_339, rfl⟩) (Nat.le_of_ble_eq_true rfl) ?_
      refine zz_ldc (v := -3000000) hX zw_con_L_84 dL_does_341 ?_
      exact zz_iret hX hr rfl (Nat.le_of_ble_eq_true rfl) (Nat.le_of_ble_eq_true rfl) dL_does_343 ⟨_, rfl, Or.inr (Or.inl ⟨q1, rfl, hR⟩), zr_same.rfl'⟩
    · skip
      refine zz_catch hX (pre := [((0 : Nat), (338 : Nat), (339 : Nat), (82 : Nat))]) (suf := [((0 : Nat), (338 : Nat), (349 : Nat), (88 : Nat))]) (a := 0) (b := 338) (h9 := 344) (k := 85) (i := 6) (len := 2) hT rfl (List.forall_mem_cons.mpr ⟨⟨zx_I, (by decide), zw_cl_L_82, zk_nc_AI⟩, (fun _ h => nomatch h)⟩) (by decide) (by decide) zw_cl_L_85 zw_cast_A (Or.inr ⟨dL_does_344, rfl⟩) (Nat.le_of_ble_eq_true rfl) ?_
      refine zz_ldc (v := -2000000) hX zw_con_L_87 dL_does_346 ?_
      exact zz_iret hX hr rfl (Nat.le_of_ble_eq_true rfl) (Nat.le_of_ble_eq_true rfl) dL_does_348 ⟨_, rfl, Or.inr (Or.inr (Or.inl ⟨q1, q2, rfl, hR⟩)), zr_same.rfl'⟩
    · skip
      refine zz_catch hX (pre := [((0 : Nat), (338 : Nat), (339 : Nat), (82 : Nat)), ((0 : Nat), (338 : Nat), (344 : Nat), (85 : Nat))]) (suf := []) (a := 0) (b := 338) (h9 := 349) (k := 88) (i := 6) (len := 2) hT rfl (List.forall_mem_cons.mpr ⟨⟨zx_I, (by decide), zw_cl_L_82, zk_nc_SI⟩, (List.forall_mem_cons.mpr ⟨⟨zx_A, (by decide), zw_cl_L_85, zk_nc_SA⟩, (fun _ h => nomatch h)⟩)⟩) (by decide) (by decide) zw_cl_L_88 zw_cast_S (Or.inr ⟨dL_does_349, rfl⟩) (Nat.le_of_ble_eq_true rfl) ?_
      refine zz_ldc (v := -1000000) hX zw_con_L_90 dL_does_351 ?_
      exact zz_iret hX hr rfl (Nat.le_of_ble_eq_true rfl) (Nat.le_of_ble_eq_true rfl) dL_does_353 ⟨_, rfl, Or.inr (Or.inr (Or.inr ⟨q1, q2, q3, rfl, hR⟩)), zr_same.rfl'⟩
  rintro v9 s9 i9 m9 ⟨⟨hA, hB, hC⟩, e1, hR9, hS9⟩ -
  obtain rfl := e1.symm
  refine zz_goto hX 338 dL_does_253 (by decide) ?_
  refine zz_iret hX hr rfl (Nat.le_of_ble_eq_true rfl) (Nat.le_of_ble_eq_true rfl) dL_does_338 ?_
  exact ⟨_, rfl, Or.inl ⟨hA, hB, hC, rfl, hR9⟩, hS9⟩
set_option maxRecDepth 20000 in
theorem D_cut (S : zS) (sh : zm_Sh) (mi : zm_Mi) (mr : zm_Mr) (hW : zW S) (hR : zR S sh mi mr) (s w1 w2 w3 : Int32) : zz_Con yL_does (.codeWith yL_does cL_does 7 (some Jvm.ClassFile.FieldType.int) [((0 : Nat), (338 : Nat), (339 : Nat), (82 : Nat)), ((0 : Nat), (338 : Nat), (344 : Nat), (85 : Nat)), ((0 : Nat), (338 : Nat), (349 : Nat), (88 : Nat))]) 11 10 60 [.ref 2, .int (nI 16), .int s, .int w1, .int w2, .int w3] sh mi mr (zq_d ((zs_ix s (zv_ns S))) (True) ((zv_fr S (zn s) ≤ zv_sk S (zn s)) ∧ (zp_cut S s = -1)) (zp_film (zt_cut S (zn s))) S (zt_cut S (zn s)) sh mi mr) zz_none := by
  refine zz_beginH RL [(0, .ref 2), (1, .int (nI 16)), (2, .int s), (3, .int w1), (4, .int w2), (5, .int w3)] (by decide) rfl rfl (Nat.le_of_ble_eq_true rfl) rfl ?_
  intro Γ D E ad hX hr hT
  refine zz_iload_n hX dL_does_0 1 rfl rfl ?_
  refine zz_if_ne hX 12 dL_does_1 (by decide) (fun _ => ?_) (fun c => absurd c (by decide))
  refine zz_iload_n hX dL_does_12 1 rfl rfl ?_
  refine zz_iconst (v := nI 1) hX dL_does_13 rfl ?_
  refine zz_icmp_ne hX 28 dL_does_14 (by decide) (fun _ => ?_) (fun c => absurd c (by decide))
  refine zz_iload_n hX dL_does_28 1 rfl rfl ?_
  refine zz_iconst (v := nI 2) hX dL_does_29 rfl ?_
  refine zz_icmp_ne hX 42 dL_does_30 (by decide) (fun _ => ?_) (fun c => absurd c (by decide))
  refine zz_iload_n hX dL_does_42 1 rfl rfl ?_
  refine zz_iconst (v := nI 3) hX dL_does_43 rfl ?_
  refine zz_icmp_ne hX 54 dL_does_44 (by decide) (fun _ => ?_) (fun c => absurd c (by decide))
  refine zz_iload_n hX dL_does_54 1 rfl rfl ?_
  refine zz_iconst (v := nI 4) hX dL_does_55 rfl ?_
  refine zz_icmp_ne hX 72 dL_does_56 (by decide) (fun _ => ?_) (fun c => absurd c (by decide))
  refine zz_iload_n hX dL_does_72 1 rfl rfl ?_
  refine zz_iconst (v := nI 5) hX dL_does_73 rfl ?_
  refine zz_icmp_ne hX 86 dL_does_74 (by decide) (fun _ => ?_) (fun c => absurd c (by decide))
  refine zz_iload_n hX dL_does_86 1 rfl rfl ?_
  refine zz_bipush (v := nI 6) hX dL_does_87 rfl ?_
  refine zz_icmp_ne hX 118 dL_does_89 (by decide) (fun _ => ?_) (fun c => absurd c (by decide))
  refine zz_iload_n hX dL_does_118 1 rfl rfl ?_
  refine zz_bipush (v := nI 7) hX dL_does_119 rfl ?_
  refine zz_icmp_ne hX 133 dL_does_121 (by decide) (fun _ => ?_) (fun c => absurd c (by decide))
  refine zz_iload_n hX dL_does_133 1 rfl rfl ?_
  refine zz_bipush (v := nI 8) hX dL_does_134 rfl ?_
  refine zz_icmp_ne hX 152 dL_does_136 (by decide) (fun _ => ?_) (fun c => absurd c (by decide))
  refine zz_iload_n hX dL_does_152 1 rfl rfl ?_
  refine zz_bipush (v := nI 9) hX dL_does_153 rfl ?_
  refine zz_icmp_ne hX 169 dL_does_155 (by decide) (fun _ => ?_) (fun c => absurd c (by decide))
  refine zz_iload_n hX dL_does_169 1 rfl rfl ?_
  refine zz_bipush (v := nI 10) hX dL_does_170 rfl ?_
  refine zz_icmp_ne hX 183 dL_does_172 (by decide) (fun _ => ?_) (fun c => absurd c (by decide))
  refine zz_iload_n hX dL_does_183 1 rfl rfl ?_
  refine zz_bipush (v := nI 11) hX dL_does_184 rfl ?_
  refine zz_icmp_ne hX 197 dL_does_186 (by decide) (fun _ => ?_) (fun c => absurd c (by decide))
  refine zz_iload_n hX dL_does_197 1 rfl rfl ?_
  refine zz_bipush (v := nI 12) hX dL_does_198 rfl ?_
  refine zz_icmp_ne hX 212 dL_does_200 (by decide) (fun _ => ?_) (fun c => absurd c (by decide))
  refine zz_iload_n hX dL_does_212 1 rfl rfl ?_
  refine zz_bipush (v := nI 13) hX dL_does_213 rfl ?_
  refine zz_icmp_ne hX 226 dL_does_215 (by decide) (fun _ => ?_) (fun c => absurd c (by decide))
  refine zz_iload_n hX dL_does_226 1 rfl rfl ?_
  refine zz_bipush (v := nI 14) hX dL_does_227 rfl ?_
  refine zz_icmp_ne hX 241 dL_does_229 (by decide) (fun _ => ?_) (fun c => absurd c (by decide))
  refine zz_iload_n hX dL_does_241 1 rfl rfl ?_
  refine zz_bipush (v := nI 15) hX dL_does_242 rfl ?_
  refine zz_icmp_ne hX 256 dL_does_244 (by decide) (fun _ => ?_) (fun c => absurd c (by decide))
  refine zz_iload_n hX dL_does_256 1 rfl rfl ?_
  refine zz_bipush (v := nI 16) hX dL_does_257 rfl ?_
  refine zz_icmp_ne hX 270 dL_does_259 (by decide) (fun c => absurd c (by decide)) (fun _ => ?_)
  refine zz_aload_n hX dL_does_262 0 rfl rfl ?_
  refine zz_iload_n hX dL_does_263 2 rfl rfl ?_
  refine zz_callV hX zf_M_L_64 (As := [.int s]) (st := []) (P_cut S sh mi mr hW hR s) hR.1.1 rfl rfl rfl (by decide) (Nat.le_of_ble_eq_true rfl) (Nat.le_of_ble_eq_true rfl) (Nat.le_of_ble_eq_true rfl) dL_does_264 ?_ ?_
  rotate_left
  · rintro e9 s9 i9 m9 ⟨hq, e2, e3, e4⟩ -
    obtain rfl := e2.symm
    obtain rfl := e3.symm
    obtain rfl := e4.symm
    rcases hq with ⟨rfl, q1⟩ | ⟨rfl, q1, q2⟩ | ⟨rfl, q1, q2, q3⟩
    · skip
      refine zz_catch hX (pre := []) (suf := [((0 : Nat), (338 : Nat), (344 : Nat), (85 : Nat)), ((0 : Nat), (338 : Nat), (349 : Nat), (88 : Nat))]) (a := 0) (b := 338) (h9 := 339) (k := 82) (i := 6) (len := 2) hT rfl (fun _ h => nomatch h) (by decide) (by decide) zw_cl_L_82 zw_cast_I (Or.inr ⟨dL_does_339, rfl⟩) (Nat.le_of_ble_eq_true rfl) ?_
      refine zz_ldc (v := -3000000) hX zw_con_L_84 dL_does_341 ?_
      exact zz_iret hX hr rfl (Nat.le_of_ble_eq_true rfl) (Nat.le_of_ble_eq_true rfl) dL_does_343 ⟨_, rfl, Or.inr (Or.inl ⟨q1, rfl, hR⟩), zr_same.rfl'⟩
    · skip
      refine zz_catch hX (pre := [((0 : Nat), (338 : Nat), (339 : Nat), (82 : Nat))]) (suf := [((0 : Nat), (338 : Nat), (349 : Nat), (88 : Nat))]) (a := 0) (b := 338) (h9 := 344) (k := 85) (i := 6) (len := 2) hT rfl (List.forall_mem_cons.mpr ⟨⟨zx_I, (by decide), zw_cl_L_82, zk_nc_AI⟩, (fun _ h => nomatch h)⟩) (by decide) (by decide) zw_cl_L_85 zw_cast_A (Or.inr ⟨dL_does_344, rfl⟩) (Nat.le_of_ble_eq_true rfl) ?_
      refine zz_ldc (v := -2000000) hX zw_con_L_87 dL_does_346 ?_
      exact zz_iret hX hr rfl (Nat.le_of_ble_eq_true rfl) (Nat.le_of_ble_eq_true rfl) dL_does_348 ⟨_, rfl, Or.inr (Or.inr (Or.inl ⟨q1, q2, rfl, hR⟩)), zr_same.rfl'⟩
    · skip
      refine zz_catch hX (pre := [((0 : Nat), (338 : Nat), (339 : Nat), (82 : Nat)), ((0 : Nat), (338 : Nat), (344 : Nat), (85 : Nat))]) (suf := []) (a := 0) (b := 338) (h9 := 349) (k := 88) (i := 6) (len := 2) hT rfl (List.forall_mem_cons.mpr ⟨⟨zx_I, (by decide), zw_cl_L_82, zk_nc_SI⟩, (List.forall_mem_cons.mpr ⟨⟨zx_A, (by decide), zw_cl_L_85, zk_nc_SA⟩, (fun _ h => nomatch h)⟩)⟩) (by decide) (by decide) zw_cl_L_88 zw_cast_S (Or.inr ⟨dL_does_349, rfl⟩) (Nat.le_of_ble_eq_true rfl) ?_
      refine zz_ldc (v := -1000000) hX zw_con_L_90 dL_does_351 ?_
      exact zz_iret hX hr rfl (Nat.le_of_ble_eq_true rfl) (Nat.le_of_ble_eq_true rfl) dL_does_353 ⟨_, rfl, Or.inr (Or.inr (Or.inr ⟨q1, q2, q3, rfl, hR⟩)), zr_same.rfl'⟩
  rintro v9 s9 i9 m9 ⟨⟨hA, hB, hC⟩, e1, hR9, hS9⟩ -
  obtain rfl := e1.symm
  refine zz_goto hX 338 dL_does_267 (by decide) ?_
  refine zz_iret hX hr rfl (Nat.le_of_ble_eq_true rfl) (Nat.le_of_ble_eq_true rfl) dL_does_338 ?_
  exact ⟨_, rfl, Or.inl ⟨hA, hB, hC, rfl, hR9⟩, hS9⟩
set_option maxRecDepth 20000 in
theorem D_cutOut (S : zS) (sh : zm_Sh) (mi : zm_Mi) (mr : zm_Mr) (hW : zW S) (hR : zR S sh mi mr) (s w1 w2 w3 : Int32) : zz_Con yL_does (.codeWith yL_does cL_does 7 (some Jvm.ClassFile.FieldType.int) [((0 : Nat), (338 : Nat), (339 : Nat), (82 : Nat)), ((0 : Nat), (338 : Nat), (344 : Nat), (85 : Nat)), ((0 : Nat), (338 : Nat), (349 : Nat), (88 : Nat))]) 11 10 60 [.ref 2, .int (nI 17), .int s, .int w1, .int w2, .int w3] sh mi mr (zq_d ((zs_ix s (zv_ns S))) (True) ((¬ zp_cut S s = -1)) (zp_film (zt_out S (zn (zp_cut S s)))) S (zt_out S (zn (zp_cut S s))) sh mi mr) zz_none := by
  refine zz_beginH RL [(0, .ref 2), (1, .int (nI 17)), (2, .int s), (3, .int w1), (4, .int w2), (5, .int w3)] (by decide) rfl rfl (Nat.le_of_ble_eq_true rfl) rfl ?_
  intro Γ D E ad hX hr hT
  refine zz_iload_n hX dL_does_0 1 rfl rfl ?_
  refine zz_if_ne hX 12 dL_does_1 (by decide) (fun _ => ?_) (fun c => absurd c (by decide))
  refine zz_iload_n hX dL_does_12 1 rfl rfl ?_
  refine zz_iconst (v := nI 1) hX dL_does_13 rfl ?_
  refine zz_icmp_ne hX 28 dL_does_14 (by decide) (fun _ => ?_) (fun c => absurd c (by decide))
  refine zz_iload_n hX dL_does_28 1 rfl rfl ?_
  refine zz_iconst (v := nI 2) hX dL_does_29 rfl ?_
  refine zz_icmp_ne hX 42 dL_does_30 (by decide) (fun _ => ?_) (fun c => absurd c (by decide))
  refine zz_iload_n hX dL_does_42 1 rfl rfl ?_
  refine zz_iconst (v := nI 3) hX dL_does_43 rfl ?_
  refine zz_icmp_ne hX 54 dL_does_44 (by decide) (fun _ => ?_) (fun c => absurd c (by decide))
  refine zz_iload_n hX dL_does_54 1 rfl rfl ?_
  refine zz_iconst (v := nI 4) hX dL_does_55 rfl ?_
  refine zz_icmp_ne hX 72 dL_does_56 (by decide) (fun _ => ?_) (fun c => absurd c (by decide))
  refine zz_iload_n hX dL_does_72 1 rfl rfl ?_
  refine zz_iconst (v := nI 5) hX dL_does_73 rfl ?_
  refine zz_icmp_ne hX 86 dL_does_74 (by decide) (fun _ => ?_) (fun c => absurd c (by decide))
  refine zz_iload_n hX dL_does_86 1 rfl rfl ?_
  refine zz_bipush (v := nI 6) hX dL_does_87 rfl ?_
  refine zz_icmp_ne hX 118 dL_does_89 (by decide) (fun _ => ?_) (fun c => absurd c (by decide))
  refine zz_iload_n hX dL_does_118 1 rfl rfl ?_
  refine zz_bipush (v := nI 7) hX dL_does_119 rfl ?_
  refine zz_icmp_ne hX 133 dL_does_121 (by decide) (fun _ => ?_) (fun c => absurd c (by decide))
  refine zz_iload_n hX dL_does_133 1 rfl rfl ?_
  refine zz_bipush (v := nI 8) hX dL_does_134 rfl ?_
  refine zz_icmp_ne hX 152 dL_does_136 (by decide) (fun _ => ?_) (fun c => absurd c (by decide))
  refine zz_iload_n hX dL_does_152 1 rfl rfl ?_
  refine zz_bipush (v := nI 9) hX dL_does_153 rfl ?_
  refine zz_icmp_ne hX 169 dL_does_155 (by decide) (fun _ => ?_) (fun c => absurd c (by decide))
  refine zz_iload_n hX dL_does_169 1 rfl rfl ?_
  refine zz_bipush (v := nI 10) hX dL_does_170 rfl ?_
  refine zz_icmp_ne hX 183 dL_does_172 (by decide) (fun _ => ?_) (fun c => absurd c (by decide))
  refine zz_iload_n hX dL_does_183 1 rfl rfl ?_
  refine zz_bipush (v := nI 11) hX dL_does_184 rfl ?_
  refine zz_icmp_ne hX 197 dL_does_186 (by decide) (fun _ => ?_) (fun c => absurd c (by decide))
  refine zz_iload_n hX dL_does_197 1 rfl rfl ?_
  refine zz_bipush (v := nI 12) hX dL_does_198 rfl ?_
  refine zz_icmp_ne hX 212 dL_does_200 (by decide) (fun _ => ?_) (fun c => absurd c (by decide))
  refine zz_iload_n hX dL_does_212 1 rfl rfl ?_
  refine zz_bipush (v := nI 13) hX dL_does_213 rfl ?_
  refine zz_icmp_ne hX 226 dL_does_215 (by decide) (fun _ => ?_) (fun c => absurd c (by decide))
  refine zz_iload_n hX dL_does_226 1 rfl rfl ?_
  refine zz_bipush (v := nI 14) hX dL_does_227 rfl ?_
  refine zz_icmp_ne hX 241 dL_does_229 (by decide) (fun _ => ?_) (fun c => absurd c (by decide))
  refine zz_iload_n hX dL_does_241 1 rfl rfl ?_
  refine zz_bipush (v := nI 15) hX dL_does_242 rfl ?_
  refine zz_icmp_ne hX 256 dL_does_244 (by decide) (fun _ => ?_) (fun c => absurd c (by decide))
  refine zz_iload_n hX dL_does_256 1 rfl rfl ?_
  refine zz_bipush (v := nI 16) hX dL_does_257 rfl ?_
  refine zz_icmp_ne hX 270 dL_does_259 (by decide) (fun _ => ?_) (fun c => absurd c (by decide))
  refine zz_iload_n hX dL_does_270 1 rfl rfl ?_
  refine zz_bipush (v := nI 17) hX dL_does_271 rfl ?_
  refine zz_icmp_ne hX 284 dL_does_273 (by decide) (fun c => absurd c (by decide)) (fun _ => ?_)
  refine zz_aload_n hX dL_does_276 0 rfl rfl ?_
  refine zz_iload_n hX dL_does_277 2 rfl rfl ?_
  refine zz_callV hX zf_M_L_67 (As := [.int s]) (st := []) (P_cutOut S sh mi mr hW hR s) hR.1.1 rfl rfl rfl (by decide) (Nat.le_of_ble_eq_true rfl) (Nat.le_of_ble_eq_true rfl) (Nat.le_of_ble_eq_true rfl) dL_does_278 ?_ ?_
  rotate_left
  · rintro e9 s9 i9 m9 ⟨hq, e2, e3, e4⟩ -
    obtain rfl := e2.symm
    obtain rfl := e3.symm
    obtain rfl := e4.symm
    rcases hq with ⟨rfl, q1⟩ | ⟨rfl, q1, q2⟩ | ⟨rfl, q1, q2, q3⟩
    · skip
      refine zz_catch hX (pre := []) (suf := [((0 : Nat), (338 : Nat), (344 : Nat), (85 : Nat)), ((0 : Nat), (338 : Nat), (349 : Nat), (88 : Nat))]) (a := 0) (b := 338) (h9 := 339) (k := 82) (i := 6) (len := 2) hT rfl (fun _ h => nomatch h) (by decide) (by decide) zw_cl_L_82 zw_cast_I (Or.inr ⟨dL_does_339, rfl⟩) (Nat.le_of_ble_eq_true rfl) ?_
      refine zz_ldc (v := -3000000) hX zw_con_L_84 dL_does_341 ?_
      exact zz_iret hX hr rfl (Nat.le_of_ble_eq_true rfl) (Nat.le_of_ble_eq_true rfl) dL_does_343 ⟨_, rfl, Or.inr (Or.inl ⟨q1, rfl, hR⟩), zr_same.rfl'⟩
    · skip
      refine zz_catch hX (pre := [((0 : Nat), (338 : Nat), (339 : Nat), (82 : Nat))]) (suf := [((0 : Nat), (338 : Nat), (349 : Nat), (88 : Nat))]) (a := 0) (b := 338) (h9 := 344) (k := 85) (i := 6) (len := 2) hT rfl (List.forall_mem_cons.mpr ⟨⟨zx_I, (by decide), zw_cl_L_82, zk_nc_AI⟩, (fun _ h => nomatch h)⟩) (by decide) (by decide) zw_cl_L_85 zw_cast_A (Or.inr ⟨dL_does_344, rfl⟩) (Nat.le_of_ble_eq_true rfl) ?_
      refine zz_ldc (v := -2000000) hX zw_con_L_87 dL_does_346 ?_
      exact zz_iret hX hr rfl (Nat.le_of_ble_eq_true rfl) (Nat.le_of_ble_eq_true rfl) dL_does_348 ⟨_, rfl, Or.inr (Or.inr (Or.inl ⟨q1, q2, rfl, hR⟩)), zr_same.rfl'⟩
    · skip
      refine zz_catch hX (pre := [((0 : Nat), (338 : Nat), (339 : Nat), (82 : Nat)), ((0 : Nat), (338 : Nat), (344 : Nat), (85 : Nat))]) (suf := []) (a := 0) (b := 338) (h9 := 349) (k := 88) (i := 6) (len := 2) hT rfl (List.forall_mem_cons.mpr ⟨⟨zx_I, (by decide), zw_cl_L_82, zk_nc_SI⟩, (List.forall_mem_cons.mpr ⟨⟨zx_A, (by decide), zw_cl_L_85, zk_nc_SA⟩, (fun _ h => nomatch h)⟩)⟩) (by decide) (by decide) zw_cl_L_88 zw_cast_S (Or.inr ⟨dL_does_349, rfl⟩) (Nat.le_of_ble_eq_true rfl) ?_
      refine zz_ldc (v := -1000000) hX zw_con_L_90 dL_does_351 ?_
      exact zz_iret hX hr rfl (Nat.le_of_ble_eq_true rfl) (Nat.le_of_ble_eq_true rfl) dL_does_353 ⟨_, rfl, Or.inr (Or.inr (Or.inr ⟨q1, q2, q3, rfl, hR⟩)), zr_same.rfl'⟩
  rintro v9 s9 i9 m9 ⟨⟨hA, hB, hC⟩, e1, hR9, hS9⟩ -
  obtain rfl := e1.symm
  refine zz_goto hX 338 dL_does_281 (by decide) ?_
  refine zz_iret hX hr rfl (Nat.le_of_ble_eq_true rfl) (Nat.le_of_ble_eq_true rfl) dL_does_338 ?_
  exact ⟨_, rfl, Or.inl ⟨hA, hB, hC, rfl, hR9⟩, hS9⟩
set_option maxRecDepth 20000 in
theorem D_bars (S : zS) (sh : zm_Sh) (mi : zm_Mi) (mr : zm_Mr) (hW : zW S) (hR : zR S sh mi mr) (s w1 w2 w3 : Int32) : zz_Con yL_does (.codeWith yL_does cL_does 7 (some Jvm.ClassFile.FieldType.int) [((0 : Nat), (338 : Nat), (339 : Nat), (82 : Nat)), ((0 : Nat), (338 : Nat), (344 : Nat), (85 : Nat)), ((0 : Nat), (338 : Nat), (349 : Nat), (88 : Nat))]) 11 10 60 [.ref 2, .int (nI 18), .int s, .int w1, .int w2, .int w3] sh mi mr (zq_d ((zs_ix s (zv_ns S))) (True) (True) (nI (zp_bar S (zn s))) S (S) sh mi mr) zz_none := by
  refine zz_beginH RL [(0, .ref 2), (1, .int (nI 18)), (2, .int s), (3, .int w1), (4, .int w2), (5, .int w3)] (by decide) rfl rfl (Nat.le_of_ble_eq_true rfl) rfl ?_
  intro Γ D E ad hX hr hT
  refine zz_iload_n hX dL_does_0 1 rfl rfl ?_
  refine zz_if_ne hX 12 dL_does_1 (by decide) (fun _ => ?_) (fun c => absurd c (by decide))
  refine zz_iload_n hX dL_does_12 1 rfl rfl ?_
  refine zz_iconst (v := nI 1) hX dL_does_13 rfl ?_
  refine zz_icmp_ne hX 28 dL_does_14 (by decide) (fun _ => ?_) (fun c => absurd c (by decide))
  refine zz_iload_n hX dL_does_28 1 rfl rfl ?_
  refine zz_iconst (v := nI 2) hX dL_does_29 rfl ?_
  refine zz_icmp_ne hX 42 dL_does_30 (by decide) (fun _ => ?_) (fun c => absurd c (by decide))
  refine zz_iload_n hX dL_does_42 1 rfl rfl ?_
  refine zz_iconst (v := nI 3) hX dL_does_43 rfl ?_
  refine zz_icmp_ne hX 54 dL_does_44 (by decide) (fun _ => ?_) (fun c => absurd c (by decide))
  refine zz_iload_n hX dL_does_54 1 rfl rfl ?_
  refine zz_iconst (v := nI 4) hX dL_does_55 rfl ?_
  refine zz_icmp_ne hX 72 dL_does_56 (by decide) (fun _ => ?_) (fun c => absurd c (by decide))
  refine zz_iload_n hX dL_does_72 1 rfl rfl ?_
  refine zz_iconst (v := nI 5) hX dL_does_73 rfl ?_
  refine zz_icmp_ne hX 86 dL_does_74 (by decide) (fun _ => ?_) (fun c => absurd c (by decide))
  refine zz_iload_n hX dL_does_86 1 rfl rfl ?_
  refine zz_bipush (v := nI 6) hX dL_does_87 rfl ?_
  refine zz_icmp_ne hX 118 dL_does_89 (by decide) (fun _ => ?_) (fun c => absurd c (by decide))
  refine zz_iload_n hX dL_does_118 1 rfl rfl ?_
  refine zz_bipush (v := nI 7) hX dL_does_119 rfl ?_
  refine zz_icmp_ne hX 133 dL_does_121 (by decide) (fun _ => ?_) (fun c => absurd c (by decide))
  refine zz_iload_n hX dL_does_133 1 rfl rfl ?_
  refine zz_bipush (v := nI 8) hX dL_does_134 rfl ?_
  refine zz_icmp_ne hX 152 dL_does_136 (by decide) (fun _ => ?_) (fun c => absurd c (by decide))
  refine zz_iload_n hX dL_does_152 1 rfl rfl ?_
  refine zz_bipush (v := nI 9) hX dL_does_153 rfl ?_
  refine zz_icmp_ne hX 169 dL_does_155 (by decide) (fun _ => ?_) (fun c => absurd c (by decide))
  refine zz_iload_n hX dL_does_169 1 rfl rfl ?_
  refine zz_bipush (v := nI 10) hX dL_does_170 rfl ?_
  refine zz_icmp_ne hX 183 dL_does_172 (by decide) (fun _ => ?_) (fun c => absurd c (by decide))
  refine zz_iload_n hX dL_does_183 1 rfl rfl ?_
  refine zz_bipush (v := nI 11) hX dL_does_184 rfl ?_
  refine zz_icmp_ne hX 197 dL_does_186 (by decide) (fun _ => ?_) (fun c => absurd c (by decide))
  refine zz_iload_n hX dL_does_197 1 rfl rfl ?_
  refine zz_bipush (v := nI 12) hX dL_does_198 rfl ?_
  refine zz_icmp_ne hX 212 dL_does_200 (by decide) (fun _ => ?_) (fun c => absurd c (by decide))
  refine zz_iload_n hX dL_does_212 1 rfl rfl ?_
  refine zz_bipush (v := nI 13) hX dL_does_213 rfl ?_
  refine zz_icmp_ne hX 226 dL_does_215 (by decide) (fun _ => ?_) (fun c => absurd c (by decide))
  refine zz_iload_n hX dL_does_226 1 rfl rfl ?_
  refine zz_bipush (v := nI 14) hX dL_does_227 rfl ?_
  refine zz_icmp_ne hX 241 dL_does_229 (by decide) (fun _ => ?_) (fun c => absurd c (by decide))
  refine zz_iload_n hX dL_does_241 1 rfl rfl ?_
  refine zz_bipush (v := nI 15) hX dL_does_242 rfl ?_
  refine zz_icmp_ne hX 256 dL_does_244 (by decide) (fun _ => ?_) (fun c => absurd c (by decide))
  refine zz_iload_n hX dL_does_256 1 rfl rfl ?_
  refine zz_bipush (v := nI 16) hX dL_does_257 rfl ?_
  refine zz_icmp_ne hX 270 dL_does_259 (by decide) (fun _ => ?_) (fun c => absurd c (by decide))
  refine zz_iload_n hX dL_does_270 1 rfl rfl ?_
  refine zz_bipush (v := nI 17) hX dL_does_271 rfl ?_
  refine zz_icmp_ne hX 284 dL_does_273 (by decide) (fun _ => ?_) (fun c => absurd c (by decide))
  refine zz_iload_n hX dL_does_284 1 rfl rfl ?_
  refine zz_bipush (v := nI 18) hX dL_does_285 rfl ?_
  refine zz_icmp_ne hX 298 dL_does_287 (by decide) (fun c => absurd c (by decide)) (fun _ => ?_)
  refine zz_aload_n hX dL_does_290 0 rfl rfl ?_
  refine zz_iload_n hX dL_does_291 2 rfl rfl ?_
  refine zz_callV hX zf_M_L_70 (As := [.int s]) (st := []) (P_bars S sh mi mr hW hR s) hR.1.1 rfl rfl rfl (by decide) (Nat.le_of_ble_eq_true rfl) (Nat.le_of_ble_eq_true rfl) (Nat.le_of_ble_eq_true rfl) dL_does_292 ?_ ?_
  rotate_left
  · rintro e9 s9 i9 m9 ⟨hq, e2, e3, e4⟩ -
    obtain rfl := e2.symm
    obtain rfl := e3.symm
    obtain rfl := e4.symm
    rcases hq with ⟨rfl, q1⟩ | ⟨rfl, q1, q2⟩ | ⟨rfl, q1, q2, q3⟩
    · skip
      refine zz_catch hX (pre := []) (suf := [((0 : Nat), (338 : Nat), (344 : Nat), (85 : Nat)), ((0 : Nat), (338 : Nat), (349 : Nat), (88 : Nat))]) (a := 0) (b := 338) (h9 := 339) (k := 82) (i := 6) (len := 2) hT rfl (fun _ h => nomatch h) (by decide) (by decide) zw_cl_L_82 zw_cast_I (Or.inr ⟨dL_does_339, rfl⟩) (Nat.le_of_ble_eq_true rfl) ?_
      refine zz_ldc (v := -3000000) hX zw_con_L_84 dL_does_341 ?_
      exact zz_iret hX hr rfl (Nat.le_of_ble_eq_true rfl) (Nat.le_of_ble_eq_true rfl) dL_does_343 ⟨_, rfl, Or.inr (Or.inl ⟨q1, rfl, hR⟩), zr_same.rfl'⟩
    · skip
      refine zz_catch hX (pre := [((0 : Nat), (338 : Nat), (339 : Nat), (82 : Nat))]) (suf := [((0 : Nat), (338 : Nat), (349 : Nat), (88 : Nat))]) (a := 0) (b := 338) (h9 := 344) (k := 85) (i := 6) (len := 2) hT rfl (List.forall_mem_cons.mpr ⟨⟨zx_I, (by decide), zw_cl_L_82, zk_nc_AI⟩, (fun _ h => nomatch h)⟩) (by decide) (by decide) zw_cl_L_85 zw_cast_A (Or.inr ⟨dL_does_344, rfl⟩) (Nat.le_of_ble_eq_true rfl) ?_
      refine zz_ldc (v := -2000000) hX zw_con_L_87 dL_does_346 ?_
      exact zz_iret hX hr rfl (Nat.le_of_ble_eq_true rfl) (Nat.le_of_ble_eq_true rfl) dL_does_348 ⟨_, rfl, Or.inr (Or.inr (Or.inl ⟨q1, q2, rfl, hR⟩)), zr_same.rfl'⟩
    · skip
      refine zz_catch hX (pre := [((0 : Nat), (338 : Nat), (339 : Nat), (82 : Nat)), ((0 : Nat), (338 : Nat), (344 : Nat), (85 : Nat))]) (suf := []) (a := 0) (b := 338) (h9 := 349) (k := 88) (i := 6) (len := 2) hT rfl (List.forall_mem_cons.mpr ⟨⟨zx_I, (by decide), zw_cl_L_82, zk_nc_SI⟩, (List.forall_mem_cons.mpr ⟨⟨zx_A, (by decide), zw_cl_L_85, zk_nc_SA⟩, (fun _ h => nomatch h)⟩)⟩) (by decide) (by decide) zw_cl_L_88 zw_cast_S (Or.inr ⟨dL_does_349, rfl⟩) (Nat.le_of_ble_eq_true rfl) ?_
      refine zz_ldc (v := -1000000) hX zw_con_L_90 dL_does_351 ?_
      exact zz_iret hX hr rfl (Nat.le_of_ble_eq_true rfl) (Nat.le_of_ble_eq_true rfl) dL_does_353 ⟨_, rfl, Or.inr (Or.inr (Or.inr ⟨q1, q2, q3, rfl, hR⟩)), zr_same.rfl'⟩
  rintro v9 s9 i9 m9 ⟨⟨hA, hB, hC⟩, e1, hR9, hS9⟩ -
  obtain rfl := e1.symm
  refine zz_goto hX 338 dL_does_295 (by decide) ?_
  refine zz_iret hX hr rfl (Nat.le_of_ble_eq_true rfl) (Nat.le_of_ble_eq_true rfl) dL_does_338 ?_
  exact ⟨_, rfl, Or.inl ⟨hA, hB, hC, rfl, hR9⟩, hS9⟩
set_option maxRecDepth 20000 in
theorem D_pose (S : zS) (sh : zm_Sh) (mi : zm_Mi) (mr : zm_Mr) (hW : zW S) (hR : zR S sh mi mr) (s jx fx w3 : Int32) : zz_Con yL_does (.codeWith yL_does cL_does 7 (some Jvm.ClassFile.FieldType.int) [((0 : Nat), (338 : Nat), (339 : Nat), (82 : Nat)), ((0 : Nat), (338 : Nat), (344 : Nat), (85 : Nat)), ((0 : Nat), (338 : Nat), (349 : Nat), (88 : Nat))]) 11 10 60 [.ref 2, .int (nI 19), .int s, .int jx, .int fx, .int w3] sh mi mr (zq_d ((zs_ix s (zv_ns S)) ∧ (zs_ix jx (zv_jn S (zv_pu S (zn s)))) ∧ (zs_ix fx (zv_sk S (zn s)))) (True) (True) (S 22 (48 * (6 * zn s + zn jx) + zn fx)) S (S) sh mi mr) zz_none := by
  refine zz_beginH RL [(0, .ref 2), (1, .int (nI 19)), (2, .int s), (3, .int jx), (4, .int fx), (5, .int w3)] (by decide) rfl rfl (Nat.le_of_ble_eq_true rfl) rfl ?_
  intro Γ D E ad hX hr hT
  refine zz_iload_n hX dL_does_0 1 rfl rfl ?_
  refine zz_if_ne hX 12 dL_does_1 (by decide) (fun _ => ?_) (fun c => absurd c (by decide))
  refine zz_iload_n hX dL_does_12 1 rfl rfl ?_
  refine zz_iconst (v := nI 1) hX dL_does_13 rfl ?_
  refine zz_icmp_ne hX 28 dL_does_14 (by decide) (fun _ => ?_) (fun c => absurd c (by decide))
  refine zz_iload_n hX dL_does_28 1 rfl rfl ?_
  refine zz_iconst (v := nI 2) hX dL_does_29 rfl ?_
  refine zz_icmp_ne hX 42 dL_does_30 (by decide) (fun _ => ?_) (fun c => absurd c (by decide))
  refine zz_iload_n hX dL_does_42 1 rfl rfl ?_
  refine zz_iconst (v := nI 3) hX dL_does_43 rfl ?_
  refine zz_icmp_ne hX 54 dL_does_44 (by decide) (fun _ => ?_) (fun c => absurd c (by decide))
  refine zz_iload_n hX dL_does_54 1 rfl rfl ?_
  refine zz_iconst (v := nI 4) hX dL_does_55 rfl ?_
  refine zz_icmp_ne hX 72 dL_does_56 (by decide) (fun _ => ?_) (fun c => absurd c (by decide))
  refine zz_iload_n hX dL_does_72 1 rfl rfl ?_
  refine zz_iconst (v := nI 5) hX dL_does_73 rfl ?_
  refine zz_icmp_ne hX 86 dL_does_74 (by decide) (fun _ => ?_) (fun c => absurd c (by decide))
  refine zz_iload_n hX dL_does_86 1 rfl rfl ?_
  refine zz_bipush (v := nI 6) hX dL_does_87 rfl ?_
  refine zz_icmp_ne hX 118 dL_does_89 (by decide) (fun _ => ?_) (fun c => absurd c (by decide))
  refine zz_iload_n hX dL_does_118 1 rfl rfl ?_
  refine zz_bipush (v := nI 7) hX dL_does_119 rfl ?_
  refine zz_icmp_ne hX 133 dL_does_121 (by decide) (fun _ => ?_) (fun c => absurd c (by decide))
  refine zz_iload_n hX dL_does_133 1 rfl rfl ?_
  refine zz_bipush (v := nI 8) hX dL_does_134 rfl ?_
  refine zz_icmp_ne hX 152 dL_does_136 (by decide) (fun _ => ?_) (fun c => absurd c (by decide))
  refine zz_iload_n hX dL_does_152 1 rfl rfl ?_
  refine zz_bipush (v := nI 9) hX dL_does_153 rfl ?_
  refine zz_icmp_ne hX 169 dL_does_155 (by decide) (fun _ => ?_) (fun c => absurd c (by decide))
  refine zz_iload_n hX dL_does_169 1 rfl rfl ?_
  refine zz_bipush (v := nI 10) hX dL_does_170 rfl ?_
  refine zz_icmp_ne hX 183 dL_does_172 (by decide) (fun _ => ?_) (fun c => absurd c (by decide))
  refine zz_iload_n hX dL_does_183 1 rfl rfl ?_
  refine zz_bipush (v := nI 11) hX dL_does_184 rfl ?_
  refine zz_icmp_ne hX 197 dL_does_186 (by decide) (fun _ => ?_) (fun c => absurd c (by decide))
  refine zz_iload_n hX dL_does_197 1 rfl rfl ?_
  refine zz_bipush (v := nI 12) hX dL_does_198 rfl ?_
  refine zz_icmp_ne hX 212 dL_does_200 (by decide) (fun _ => ?_) (fun c => absurd c (by decide))
  refine zz_iload_n hX dL_does_212 1 rfl rfl ?_
  refine zz_bipush (v := nI 13) hX dL_does_213 rfl ?_
  refine zz_icmp_ne hX 226 dL_does_215 (by decide) (fun _ => ?_) (fun c => absurd c (by decide))
  refine zz_iload_n hX dL_does_226 1 rfl rfl ?_
  refine zz_bipush (v := nI 14) hX dL_does_227 rfl ?_
  refine zz_icmp_ne hX 241 dL_does_229 (by decide) (fun _ => ?_) (fun c => absurd c (by decide))
  refine zz_iload_n hX dL_does_241 1 rfl rfl ?_
  refine zz_bipush (v := nI 15) hX dL_does_242 rfl ?_
  refine zz_icmp_ne hX 256 dL_does_244 (by decide) (fun _ => ?_) (fun c => absurd c (by decide))
  refine zz_iload_n hX dL_does_256 1 rfl rfl ?_
  refine zz_bipush (v := nI 16) hX dL_does_257 rfl ?_
  refine zz_icmp_ne hX 270 dL_does_259 (by decide) (fun _ => ?_) (fun c => absurd c (by decide))
  refine zz_iload_n hX dL_does_270 1 rfl rfl ?_
  refine zz_bipush (v := nI 17) hX dL_does_271 rfl ?_
  refine zz_icmp_ne hX 284 dL_does_273 (by decide) (fun _ => ?_) (fun c => absurd c (by decide))
  refine zz_iload_n hX dL_does_284 1 rfl rfl ?_
  refine zz_bipush (v := nI 18) hX dL_does_285 rfl ?_
  refine zz_icmp_ne hX 298 dL_does_287 (by decide) (fun _ => ?_) (fun c => absurd c (by decide))
  refine zz_iload_n hX dL_does_298 1 rfl rfl ?_
  refine zz_bipush (v := nI 19) hX dL_does_299 rfl ?_
  refine zz_icmp_ne hX 315 dL_does_301 (by decide) (fun c => absurd c (by decide)) (fun _ => ?_)
  refine zz_aload_n hX dL_does_304 0 rfl rfl ?_
  refine zz_iload_n hX dL_does_305 2 rfl rfl ?_
  refine zz_iload_n hX dL_does_306 3 rfl rfl ?_
  refine zz_iload hX dL_does_307 4 rfl ?_
  refine zz_callV hX zf_M_L_73 (As := [.int s, .int jx, .int fx]) (st := []) (P_pose S sh mi mr hW hR s jx fx) hR.1.1 rfl rfl rfl (by decide) (Nat.le_of_ble_eq_true rfl) (Nat.le_of_ble_eq_true rfl) (Nat.le_of_ble_eq_true rfl) dL_does_309 ?_ ?_
  rotate_left
  · rintro e9 s9 i9 m9 ⟨hq, e2, e3, e4⟩ -
    obtain rfl := e2.symm
    obtain rfl := e3.symm
    obtain rfl := e4.symm
    rcases hq with ⟨rfl, q1⟩ | ⟨rfl, q1, q2⟩ | ⟨rfl, q1, q2, q3⟩
    · skip
      refine zz_catch hX (pre := []) (suf := [((0 : Nat), (338 : Nat), (344 : Nat), (85 : Nat)), ((0 : Nat), (338 : Nat), (349 : Nat), (88 : Nat))]) (a := 0) (b := 338) (h9 := 339) (k := 82) (i := 6) (len := 2) hT rfl (fun _ h => nomatch h) (by decide) (by decide) zw_cl_L_82 zw_cast_I (Or.inr ⟨dL_does_339, rfl⟩) (Nat.le_of_ble_eq_true rfl) ?_
      refine zz_ldc (v := -3000000) hX zw_con_L_84 dL_does_341 ?_
      exact zz_iret hX hr rfl (Nat.le_of_ble_eq_true rfl) (Nat.le_of_ble_eq_true rfl) dL_does_343 ⟨_, rfl, Or.inr (Or.inl ⟨q1, rfl, hR⟩), zr_same.rfl'⟩
    · skip
      refine zz_catch hX (pre := [((0 : Nat), (338 : Nat), (339 : Nat), (82 : Nat))]) (suf := [((0 : Nat), (338 : Nat), (349 : Nat), (88 : Nat))]) (a := 0) (b := 338) (h9 := 344) (k := 85) (i := 6) (len := 2) hT rfl (List.forall_mem_cons.mpr ⟨⟨zx_I, (by decide), zw_cl_L_82, zk_nc_AI⟩, (fun _ h => nomatch h)⟩) (by decide) (by decide) zw_cl_L_85 zw_cast_A (Or.inr ⟨dL_does_344, rfl⟩) (Nat.le_of_ble_eq_true rfl) ?_
      refine zz_ldc (v := -2000000) hX zw_con_L_87 dL_does_346 ?_
      exact zz_iret hX hr rfl (Nat.le_of_ble_eq_true rfl) (Nat.le_of_ble_eq_true rfl) dL_does_348 ⟨_, rfl, Or.inr (Or.inr (Or.inl ⟨q1, q2, rfl, hR⟩)), zr_same.rfl'⟩
    · skip
      refine zz_catch hX (pre := [((0 : Nat), (338 : Nat), (339 : Nat), (82 : Nat)), ((0 : Nat), (338 : Nat), (344 : Nat), (85 : Nat))]) (suf := []) (a := 0) (b := 338) (h9 := 349) (k := 88) (i := 6) (len := 2) hT rfl (List.forall_mem_cons.mpr ⟨⟨zx_I, (by decide), zw_cl_L_82, zk_nc_SI⟩, (List.forall_mem_cons.mpr ⟨⟨zx_A, (by decide), zw_cl_L_85, zk_nc_SA⟩, (fun _ h => nomatch h)⟩)⟩) (by decide) (by decide) zw_cl_L_88 zw_cast_S (Or.inr ⟨dL_does_349, rfl⟩) (Nat.le_of_ble_eq_true rfl) ?_
      refine zz_ldc (v := -1000000) hX zw_con_L_90 dL_does_351 ?_
      exact zz_iret hX hr rfl (Nat.le_of_ble_eq_true rfl) (Nat.le_of_ble_eq_true rfl) dL_does_353 ⟨_, rfl, Or.inr (Or.inr (Or.inr ⟨q1, q2, q3, rfl, hR⟩)), zr_same.rfl'⟩
  rintro v9 s9 i9 m9 ⟨⟨hA, hB, hC⟩, e1, hR9, hS9⟩ -
  obtain rfl := e1.symm
  refine zz_goto hX 338 dL_does_312 (by decide) ?_
  refine zz_iret hX hr rfl (Nat.le_of_ble_eq_true rfl) (Nat.le_of_ble_eq_true rfl) dL_does_338 ?_
  exact ⟨_, rfl, Or.inl ⟨hA, hB, hC, rfl, hR9⟩, hS9⟩
set_option maxRecDepth 20000 in
theorem D_ofFrame (S : zS) (sh : zm_Sh) (mi : zm_Mi) (mr : zm_Mr) (hW : zW S) (hR : zR S sh mi mr) (s fx x w3 : Int32) : zz_Con yL_does (.codeWith yL_does cL_does 7 (some Jvm.ClassFile.FieldType.int) [((0 : Nat), (338 : Nat), (339 : Nat), (82 : Nat)), ((0 : Nat), (338 : Nat), (344 : Nat), (85 : Nat)), ((0 : Nat), (338 : Nat), (349 : Nat), (88 : Nat))]) 11 10 60 [.ref 2, .int (nI 20), .int s, .int fx, .int x, .int w3] sh mi mr (zq_d ((zs_ix s (zv_ns S)) ∧ (zs_ix fx (zv_sk S (zn s)))) ((nI 0 ≤ x ∧ x ≤ nI 3)) (True) (if x = nI 0 then S 23 (48 * zn s + zn fx) else if x = nI 1 then S 25 (48 * zn s + zn fx) else if x = nI 2 then S 26 (48 * zn s + zn fx) else S 27 (48 * zn s + zn fx)) S (S) sh mi mr) zz_none := by
  refine zz_beginH RL [(0, .ref 2), (1, .int (nI 20)), (2, .int s), (3, .int fx), (4, .int x), (5, .int w3)] (by decide) rfl rfl (Nat.le_of_ble_eq_true rfl) rfl ?_
  intro Γ D E ad hX hr hT
  refine zz_iload_n hX dL_does_0 1 rfl rfl ?_
  refine zz_if_ne hX 12 dL_does_1 (by decide) (fun _ => ?_) (fun c => absurd c (by decide))
  refine zz_iload_n hX dL_does_12 1 rfl rfl ?_
  refine zz_iconst (v := nI 1) hX dL_does_13 rfl ?_
  refine zz_icmp_ne hX 28 dL_does_14 (by decide) (fun _ => ?_) (fun c => absurd c (by decide))
  refine zz_iload_n hX dL_does_28 1 rfl rfl ?_
  refine zz_iconst (v := nI 2) hX dL_does_29 rfl ?_
  refine zz_icmp_ne hX 42 dL_does_30 (by decide) (fun _ => ?_) (fun c => absurd c (by decide))
  refine zz_iload_n hX dL_does_42 1 rfl rfl ?_
  refine zz_iconst (v := nI 3) hX dL_does_43 rfl ?_
  refine zz_icmp_ne hX 54 dL_does_44 (by decide) (fun _ => ?_) (fun c => absurd c (by decide))
  refine zz_iload_n hX dL_does_54 1 rfl rfl ?_
  refine zz_iconst (v := nI 4) hX dL_does_55 rfl ?_
  refine zz_icmp_ne hX 72 dL_does_56 (by decide) (fun _ => ?_) (fun c => absurd c (by decide))
  refine zz_iload_n hX dL_does_72 1 rfl rfl ?_
  refine zz_iconst (v := nI 5) hX dL_does_73 rfl ?_
  refine zz_icmp_ne hX 86 dL_does_74 (by decide) (fun _ => ?_) (fun c => absurd c (by decide))
  refine zz_iload_n hX dL_does_86 1 rfl rfl ?_
  refine zz_bipush (v := nI 6) hX dL_does_87 rfl ?_
  refine zz_icmp_ne hX 118 dL_does_89 (by decide) (fun _ => ?_) (fun c => absurd c (by decide))
  refine zz_iload_n hX dL_does_118 1 rfl rfl ?_
  refine zz_bipush (v := nI 7) hX dL_does_119 rfl ?_
  refine zz_icmp_ne hX 133 dL_does_121 (by decide) (fun _ => ?_) (fun c => absurd c (by decide))
  refine zz_iload_n hX dL_does_133 1 rfl rfl ?_
  refine zz_bipush (v := nI 8) hX dL_does_134 rfl ?_
  refine zz_icmp_ne hX 152 dL_does_136 (by decide) (fun _ => ?_) (fun c => absurd c (by decide))
  refine zz_iload_n hX dL_does_152 1 rfl rfl ?_
  refine zz_bipush (v := nI 9) hX dL_does_153 rfl ?_
  refine zz_icmp_ne hX 169 dL_does_155 (by decide) (fun _ => ?_) (fun c => absurd c (by decide))
  refine zz_iload_n hX dL_does_169 1 rfl rfl ?_
  refine zz_bipush (v := nI 10) hX dL_does_170 rfl ?_
  refine zz_icmp_ne hX 183 dL_does_172 (by decide) (fun _ => ?_) (fun c => absurd c (by decide))
  refine zz_iload_n hX dL_does_183 1 rfl rfl ?_
  refine zz_bipush (v := nI 11) hX dL_does_184 rfl ?_
  refine zz_icmp_ne hX 197 dL_does_186 (by decide) (fun _ => ?_) (fun c => absurd c (by decide))
  refine zz_iload_n hX dL_does_197 1 rfl rfl ?_
  refine zz_bipush (v := nI 12) hX dL_does_198 rfl ?_
  refine zz_icmp_ne hX 212 dL_does_200 (by decide) (fun _ => ?_) (fun c => absurd c (by decide))
  refine zz_iload_n hX dL_does_212 1 rfl rfl ?_
  refine zz_bipush (v := nI 13) hX dL_does_213 rfl ?_
  refine zz_icmp_ne hX 226 dL_does_215 (by decide) (fun _ => ?_) (fun c => absurd c (by decide))
  refine zz_iload_n hX dL_does_226 1 rfl rfl ?_
  refine zz_bipush (v := nI 14) hX dL_does_227 rfl ?_
  refine zz_icmp_ne hX 241 dL_does_229 (by decide) (fun _ => ?_) (fun c => absurd c (by decide))
  refine zz_iload_n hX dL_does_241 1 rfl rfl ?_
  refine zz_bipush (v := nI 15) hX dL_does_242 rfl ?_
  refine zz_icmp_ne hX 256 dL_does_244 (by decide) (fun _ => ?_) (fun c => absurd c (by decide))
  refine zz_iload_n hX dL_does_256 1 rfl rfl ?_
  refine zz_bipush (v := nI 16) hX dL_does_257 rfl ?_
  refine zz_icmp_ne hX 270 dL_does_259 (by decide) (fun _ => ?_) (fun c => absurd c (by decide))
  refine zz_iload_n hX dL_does_270 1 rfl rfl ?_
  refine zz_bipush (v := nI 17) hX dL_does_271 rfl ?_
  refine zz_icmp_ne hX 284 dL_does_273 (by decide) (fun _ => ?_) (fun c => absurd c (by decide))
  refine zz_iload_n hX dL_does_284 1 rfl rfl ?_
  refine zz_bipush (v := nI 18) hX dL_does_285 rfl ?_
  refine zz_icmp_ne hX 298 dL_does_287 (by decide) (fun _ => ?_) (fun c => absurd c (by decide))
  refine zz_iload_n hX dL_does_298 1 rfl rfl ?_
  refine zz_bipush (v := nI 19) hX dL_does_299 rfl ?_
  refine zz_icmp_ne hX 315 dL_does_301 (by decide) (fun _ => ?_) (fun c => absurd c (by decide))
  refine zz_iload_n hX dL_does_315 1 rfl rfl ?_
  refine zz_bipush (v := nI 20) hX dL_does_316 rfl ?_
  refine zz_icmp_ne hX 332 dL_does_318 (by decide) (fun c => absurd c (by decide)) (fun _ => ?_)
  refine zz_aload_n hX dL_does_321 0 rfl rfl ?_
  refine zz_iload_n hX dL_does_322 2 rfl rfl ?_
  refine zz_iload_n hX dL_does_323 3 rfl rfl ?_
  refine zz_iload hX dL_does_324 4 rfl ?_
  refine zz_callV hX zf_M_L_76 (As := [.int s, .int fx, .int x]) (st := []) (P_ofFrame S sh mi mr hW hR s fx x) hR.1.1 rfl rfl rfl (by decide) (Nat.le_of_ble_eq_true rfl) (Nat.le_of_ble_eq_true rfl) (Nat.le_of_ble_eq_true rfl) dL_does_326 ?_ ?_
  rotate_left
  · rintro e9 s9 i9 m9 ⟨hq, e2, e3, e4⟩ -
    obtain rfl := e2.symm
    obtain rfl := e3.symm
    obtain rfl := e4.symm
    rcases hq with ⟨rfl, q1⟩ | ⟨rfl, q1, q2⟩ | ⟨rfl, q1, q2, q3⟩
    · skip
      refine zz_catch hX (pre := []) (suf := [((0 : Nat), (338 : Nat), (344 : Nat), (85 : Nat)), ((0 : Nat), (338 : Nat), (349 : Nat), (88 : Nat))]) (a := 0) (b := 338) (h9 := 339) (k := 82) (i := 6) (len := 2) hT rfl (fun _ h => nomatch h) (by decide) (by decide) zw_cl_L_82 zw_cast_I (Or.inr ⟨dL_does_339, rfl⟩) (Nat.le_of_ble_eq_true rfl) ?_
      refine zz_ldc (v := -3000000) hX zw_con_L_84 dL_does_341 ?_
      exact zz_iret hX hr rfl (Nat.le_of_ble_eq_true rfl) (Nat.le_of_ble_eq_true rfl) dL_does_343 ⟨_, rfl, Or.inr (Or.inl ⟨q1, rfl, hR⟩), zr_same.rfl'⟩
    · skip
      refine zz_catch hX (pre := [((0 : Nat), (338 : Nat), (339 : Nat), (82 : Nat))]) (suf := [((0 : Nat), (338 : Nat), (349 : Nat), (88 : Nat))]) (a := 0) (b := 338) (h9 := 344) (k := 85) (i := 6) (len := 2) hT rfl (List.forall_mem_cons.mpr ⟨⟨zx_I, (by decide), zw_cl_L_82, zk_nc_AI⟩, (fun _ h => nomatch h)⟩) (by decide) (by decide) zw_cl_L_85 zw_cast_A (Or.inr ⟨dL_does_344, rfl⟩) (Nat.le_of_ble_eq_true rfl) ?_
      refine zz_ldc (v := -2000000) hX zw_con_L_87 dL_does_346 ?_
      exact zz_iret hX hr rfl (Nat.le_of_ble_eq_true rfl) (Nat.le_of_ble_eq_true rfl) dL_does_348 ⟨_, rfl, Or.inr (Or.inr (Or.inl ⟨q1, q2, rfl, hR⟩)), zr_same.rfl'⟩
    · skip
      refine zz_catch hX (pre := [((0 : Nat), (338 : Nat), (339 : Nat), (82 : Nat)), ((0 : Nat), (338 : Nat), (344 : Nat), (85 : Nat))]) (suf := []) (a := 0) (b := 338) (h9 := 349) (k := 88) (i := 6) (len := 2) hT rfl (List.forall_mem_cons.mpr ⟨⟨zx_I, (by decide), zw_cl_L_82, zk_nc_SI⟩, (List.forall_mem_cons.mpr ⟨⟨zx_A, (by decide), zw_cl_L_85, zk_nc_SA⟩, (fun _ h => nomatch h)⟩)⟩) (by decide) (by decide) zw_cl_L_88 zw_cast_S (Or.inr ⟨dL_does_349, rfl⟩) (Nat.le_of_ble_eq_true rfl) ?_
      refine zz_ldc (v := -1000000) hX zw_con_L_90 dL_does_351 ?_
      exact zz_iret hX hr rfl (Nat.le_of_ble_eq_true rfl) (Nat.le_of_ble_eq_true rfl) dL_does_353 ⟨_, rfl, Or.inr (Or.inr (Or.inr ⟨q1, q2, q3, rfl, hR⟩)), zr_same.rfl'⟩
  rintro v9 s9 i9 m9 ⟨⟨hA, hB, hC⟩, e1, hR9, hS9⟩ -
  obtain rfl := e1.symm
  refine zz_goto hX 338 dL_does_329 (by decide) ?_
  refine zz_iret hX hr rfl (Nat.le_of_ble_eq_true rfl) (Nat.le_of_ble_eq_true rfl) dL_does_338 ?_
  exact ⟨_, rfl, Or.inl ⟨hA, hB, hC, rfl, hR9⟩, hS9⟩
set_option maxRecDepth 20000 in
theorem D_faults (S : zS) (sh : zm_Sh) (mi : zm_Mi) (mr : zm_Mr) (hW : zW S) (hR : zR S sh mi mr) (s fx w2 w3 : Int32) : zz_Con yL_does (.codeWith yL_does cL_does 7 (some Jvm.ClassFile.FieldType.int) [((0 : Nat), (338 : Nat), (339 : Nat), (82 : Nat)), ((0 : Nat), (338 : Nat), (344 : Nat), (85 : Nat)), ((0 : Nat), (338 : Nat), (349 : Nat), (88 : Nat))]) 11 10 60 [.ref 2, .int (nI 21), .int s, .int fx, .int w2, .int w3] sh mi mr (zq_d ((zs_ix s (zv_ns S)) ∧ (zs_ix fx (zv_sk S (zn s)))) (True) (True) (zp_faults S (zn s) (zn fx)) S (S) sh mi mr) zz_none := by
  refine zz_beginH RL [(0, .ref 2), (1, .int (nI 21)), (2, .int s), (3, .int fx), (4, .int w2), (5, .int w3)] (by decide) rfl rfl (Nat.le_of_ble_eq_true rfl) rfl ?_
  intro Γ D E ad hX hr hT
  refine zz_iload_n hX dL_does_0 1 rfl rfl ?_
  refine zz_if_ne hX 12 dL_does_1 (by decide) (fun _ => ?_) (fun c => absurd c (by decide))
  refine zz_iload_n hX dL_does_12 1 rfl rfl ?_
  refine zz_iconst (v := nI 1) hX dL_does_13 rfl ?_
  refine zz_icmp_ne hX 28 dL_does_14 (by decide) (fun _ => ?_) (fun c => absurd c (by decide))
  refine zz_iload_n hX dL_does_28 1 rfl rfl ?_
  refine zz_iconst (v := nI 2) hX dL_does_29 rfl ?_
  refine zz_icmp_ne hX 42 dL_does_30 (by decide) (fun _ => ?_) (fun c => absurd c (by decide))
  refine zz_iload_n hX dL_does_42 1 rfl rfl ?_
  refine zz_iconst (v := nI 3) hX dL_does_43 rfl ?_
  refine zz_icmp_ne hX 54 dL_does_44 (by decide) (fun _ => ?_) (fun c => absurd c (by decide))
  refine zz_iload_n hX dL_does_54 1 rfl rfl ?_
  refine zz_iconst (v := nI 4) hX dL_does_55 rfl ?_
  refine zz_icmp_ne hX 72 dL_does_56 (by decide) (fun _ => ?_) (fun c => absurd c (by decide))
  refine zz_iload_n hX dL_does_72 1 rfl rfl ?_
  refine zz_iconst (v := nI 5) hX dL_does_73 rfl ?_
  refine zz_icmp_ne hX 86 dL_does_74 (by decide) (fun _ => ?_) (fun c => absurd c (by decide))
  refine zz_iload_n hX dL_does_86 1 rfl rfl ?_
  refine zz_bipush (v := nI 6) hX dL_does_87 rfl ?_
  refine zz_icmp_ne hX 118 dL_does_89 (by decide) (fun _ => ?_) (fun c => absurd c (by decide))
  refine zz_iload_n hX dL_does_118 1 rfl rfl ?_
  refine zz_bipush (v := nI 7) hX dL_does_119 rfl ?_
  refine zz_icmp_ne hX 133 dL_does_121 (by decide) (fun _ => ?_) (fun c => absurd c (by decide))
  refine zz_iload_n hX dL_does_133 1 rfl rfl ?_
  refine zz_bipush (v := nI 8) hX dL_does_134 rfl ?_
  refine zz_icmp_ne hX 152 dL_does_136 (by decide) (fun _ => ?_) (fun c => absurd c (by decide))
  refine zz_iload_n hX dL_does_152 1 rfl rfl ?_
  refine zz_bipush (v := nI 9) hX dL_does_153 rfl ?_
  refine zz_icmp_ne hX 169 dL_does_155 (by decide) (fun _ => ?_) (fun c => absurd c (by decide))
  refine zz_iload_n hX dL_does_169 1 rfl rfl ?_
  refine zz_bipush (v := nI 10) hX dL_does_170 rfl ?_
  refine zz_icmp_ne hX 183 dL_does_172 (by decide) (fun _ => ?_) (fun c => absurd c (by decide))
  refine zz_iload_n hX dL_does_183 1 rfl rfl ?_
  refine zz_bipush (v := nI 11) hX dL_does_184 rfl ?_
  refine zz_icmp_ne hX 197 dL_does_186 (by decide) (fun _ => ?_) (fun c => absurd c (by decide))
  refine zz_iload_n hX dL_does_197 1 rfl rfl ?_
  refine zz_bipush (v := nI 12) hX dL_does_198 rfl ?_
  refine zz_icmp_ne hX 212 dL_does_200 (by decide) (fun _ => ?_) (fun c => absurd c (by decide))
  refine zz_iload_n hX dL_does_212 1 rfl rfl ?_
  refine zz_bipush (v := nI 13) hX dL_does_213 rfl ?_
  refine zz_icmp_ne hX 226 dL_does_215 (by decide) (fun _ => ?_) (fun c => absurd c (by decide))
  refine zz_iload_n hX dL_does_226 1 rfl rfl ?_
  refine zz_bipush (v := nI 14) hX dL_does_227 rfl ?_
  refine zz_icmp_ne hX 241 dL_does_229 (by decide) (fun _ => ?_) (fun c => absurd c (by decide))
  refine zz_iload_n hX dL_does_241 1 rfl rfl ?_
  refine zz_bipush (v := nI 15) hX dL_does_242 rfl ?_
  refine zz_icmp_ne hX 256 dL_does_244 (by decide) (fun _ => ?_) (fun c => absurd c (by decide))
  refine zz_iload_n hX dL_does_256 1 rfl rfl ?_
  refine zz_bipush (v := nI 16) hX dL_does_257 rfl ?_
  refine zz_icmp_ne hX 270 dL_does_259 (by decide) (fun _ => ?_) (fun c => absurd c (by decide))
  refine zz_iload_n hX dL_does_270 1 rfl rfl ?_
  refine zz_bipush (v := nI 17) hX dL_does_271 rfl ?_
  refine zz_icmp_ne hX 284 dL_does_273 (by decide) (fun _ => ?_) (fun c => absurd c (by decide))
  refine zz_iload_n hX dL_does_284 1 rfl rfl ?_
  refine zz_bipush (v := nI 18) hX dL_does_285 rfl ?_
  refine zz_icmp_ne hX 298 dL_does_287 (by decide) (fun _ => ?_) (fun c => absurd c (by decide))
  refine zz_iload_n hX dL_does_298 1 rfl rfl ?_
  refine zz_bipush (v := nI 19) hX dL_does_299 rfl ?_
  refine zz_icmp_ne hX 315 dL_does_301 (by decide) (fun _ => ?_) (fun c => absurd c (by decide))
  refine zz_iload_n hX dL_does_315 1 rfl rfl ?_
  refine zz_bipush (v := nI 20) hX dL_does_316 rfl ?_
  refine zz_icmp_ne hX 332 dL_does_318 (by decide) (fun _ => ?_) (fun c => absurd c (by decide))
  refine zz_aload_n hX dL_does_332 0 rfl rfl ?_
  refine zz_iload_n hX dL_does_333 2 rfl rfl ?_
  refine zz_iload_n hX dL_does_334 3 rfl rfl ?_
  refine zz_callV hX zf_M_L_79 (As := [.int s, .int fx]) (st := []) (P_faults S sh mi mr hW hR s fx) hR.1.1 rfl rfl rfl (by decide) (Nat.le_of_ble_eq_true rfl) (Nat.le_of_ble_eq_true rfl) (Nat.le_of_ble_eq_true rfl) dL_does_335 ?_ ?_
  rotate_left
  · rintro e9 s9 i9 m9 ⟨hq, e2, e3, e4⟩ -
    obtain rfl := e2.symm
    obtain rfl := e3.symm
    obtain rfl := e4.symm
    rcases hq with ⟨rfl, q1⟩ | ⟨rfl, q1, q2⟩ | ⟨rfl, q1, q2, q3⟩
    · skip
      refine zz_catch hX (pre := []) (suf := [((0 : Nat), (338 : Nat), (344 : Nat), (85 : Nat)), ((0 : Nat), (338 : Nat), (349 : Nat), (88 : Nat))]) (a := 0) (b := 338) (h9 := 339) (k := 82) (i := 6) (len := 2) hT rfl (fun _ h => nomatch h) (by decide) (by decide) zw_cl_L_82 zw_cast_I (Or.inr ⟨dL_does_339, rfl⟩) (Nat.le_of_ble_eq_true rfl) ?_
      refine zz_ldc (v := -3000000) hX zw_con_L_84 dL_does_341 ?_
      exact zz_iret hX hr rfl (Nat.le_of_ble_eq_true rfl) (Nat.le_of_ble_eq_true rfl) dL_does_343 ⟨_, rfl, Or.inr (Or.inl ⟨q1, rfl, hR⟩), zr_same.rfl'⟩
    · skip
      refine zz_catch hX (pre := [((0 : Nat), (338 : Nat), (339 : Nat), (82 : Nat))]) (suf := [((0 : Nat), (338 : Nat), (349 : Nat), (88 : Nat))]) (a := 0) (b := 338) (h9 := 344) (k := 85) (i := 6) (len := 2) hT rfl (List.forall_mem_cons.mpr ⟨⟨zx_I, (by decide), zw_cl_L_82, zk_nc_AI⟩, (fun _ h => nomatch h)⟩) (by decide) (by decide) zw_cl_L_85 zw_cast_A (Or.inr ⟨dL_does_344, rfl⟩) (Nat.le_of_ble_eq_true rfl) ?_
      refine zz_ldc (v := -2000000) hX zw_con_L_87 dL_does_346 ?_
      exact zz_iret hX hr rfl (Nat.le_of_ble_eq_true rfl) (Nat.le_of_ble_eq_true rfl) dL_does_348 ⟨_, rfl, Or.inr (Or.inr (Or.inl ⟨q1, q2, rfl, hR⟩)), zr_same.rfl'⟩
    · skip
      refine zz_catch hX (pre := [((0 : Nat), (338 : Nat), (339 : Nat), (82 : Nat)), ((0 : Nat), (338 : Nat), (344 : Nat), (85 : Nat))]) (suf := []) (a := 0) (b := 338) (h9 := 349) (k := 88) (i := 6) (len := 2) hT rfl (List.forall_mem_cons.mpr ⟨⟨zx_I, (by decide), zw_cl_L_82, zk_nc_SI⟩, (List.forall_mem_cons.mpr ⟨⟨zx_A, (by decide), zw_cl_L_85, zk_nc_SA⟩, (fun _ h => nomatch h)⟩)⟩) (by decide) (by decide) zw_cl_L_88 zw_cast_S (Or.inr ⟨dL_does_349, rfl⟩) (Nat.le_of_ble_eq_true rfl) ?_
      refine zz_ldc (v := -1000000) hX zw_con_L_90 dL_does_351 ?_
      exact zz_iret hX hr rfl (Nat.le_of_ble_eq_true rfl) (Nat.le_of_ble_eq_true rfl) dL_does_353 ⟨_, rfl, Or.inr (Or.inr (Or.inr ⟨q1, q2, q3, rfl, hR⟩)), zr_same.rfl'⟩
  rintro v9 s9 i9 m9 ⟨⟨hA, hB, hC⟩, e1, hR9, hS9⟩ -
  obtain rfl := e1.symm
  refine zz_iret hX hr rfl (Nat.le_of_ble_eq_true rfl) (Nat.le_of_ble_eq_true rfl) dL_does_338 ?_
  exact ⟨_, rfl, Or.inl ⟨hA, hB, hC, rfl, hR9⟩, hS9⟩
