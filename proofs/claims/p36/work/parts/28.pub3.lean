/-! ===== a new film; voice, puppet, shot: the walks ===== -/
theorem zR_0 {s : zm_Sh} {i : zm_Mi} {m : zm_Mr} (a1 : s 2 = some (0, 5) ∧ m 2 0 = some 3 ∧ m 2 2 = some 4 ∧ m 2 4 = some 300 ∧ m 2 5 = some 5 ∧ m 2 7 = some 6 ∧ m 2 8 = some 7 ∧ s 3 = some (4, 5) ∧ s 4 = some (7, 6) ∧ s 5 = some (5, 8) ∧ s 6 = some (2, 5) ∧ s 7 = some (1, 8))
    (a2 : i 2 1 = nI 0 ∧ i 2 3 = nI 0 ∧ i 2 6 = nI 0 ∧ i 2 9 = nI 0 ∧ i 2 10 = nI 0 ∧ i 2 11 = nI 0) (a3 : ∀ a, i 6 a = 0) (hV : zr_V s m 300) (hc : i 300 2 = nI 0) (f1 : ∀ l, 200 ≤ l → l < 300 → s l = none) (f2 : ∀ l, 303 ≤ l → s l = none) : zR zt_0 s i m := by
  obtain ⟨b1, b2, b3, b4, b5, b6⟩ := a2
  obtain ⟨c1, c2, c3, c4, c5, c6, c7, c8, c9, c10, c11, c12⟩ := a1
  have z0 : zv_np zt_0 = 0 := by decide
  have z5 : zv_nv zt_0 = 0 := by decide
  have z9 : zv_ns zt_0 = 0 := by decide
  have z28 : zv_nf zt_0 = 0 := by decide
  unfold zR zR_m zR_free
  rw [z0, z5, z9, z28]
  refine ⟨⟨c1, c2, c3, c4, c5, c6, c7, c8, c9, c10, c11, c12, b1, b2, b3, b4, b5, b6, fun a _ => a3 a, fun k hk => absurd hk (Nat.not_lt_zero _)⟩, fun p hp => absurd hp (Nat.not_lt_zero _), ⟨fun v hv => absurd hv (Nat.not_lt_zero _), fun v hv => ?_⟩, fun p hp => absurd hp (Nat.not_lt_zero _), fun l h1 h2 => f1 l (by omega) h2, fun l h1 h2 => f2 l (by omega), fun l h1 => f2 l (by omega)⟩
  obtain rfl : v = 0 := by omega
  have z6 : zv_sc zt_0 0 = 0 := by decide
  unfold zR_v
  rw [z6]
  exact ⟨hV, hc, fun k hk => absurd hk (Nat.not_lt_zero _), fun k hk => absurd hk (Nat.not_lt_zero _)⟩
def zk_p0 (sh : zm_Sh) (mi : zm_Mi) (mr : zm_Mr) : Option Value → zm_Sh → zm_Mi → zm_Mr → Prop := fun v s i m => v = none ∧ zR zt_0 s i m ∧ zr_same zr_out sh mi mr s i m

set_option maxRecDepth 20000 in
theorem k_init0 (sh : zm_Sh) (mi : zm_Mi) (mr : zm_Mr) (ht : sh 2 = some (0, 5)) (hf : ∀ l, (2 < l ∧ l ≤ 7) ∨ 200 ≤ l → sh l = none) : zz_Con yX5_init (.code yX5_init cX5_init 1 none) 2 10 90 [.ref 2] sh mi mr (zk_p0 sh mi mr) zz_none := by
  refine zz_begin RX5 [(0, .ref 2)] (by decide) rfl rfl (Nat.le_of_ble_eq_true rfl) rfl ?_
  intro Γ D E ad hX hr hN hT
  refine zz_aload_n hX dX5_init_0 0 rfl rfl ?_
  refine zz_objInit hX zf_M_X5_1 zw_oi zw_oc (by decide) (Nat.le_of_ble_eq_true rfl) dX5_init_1 ?_
  refine zz_aload_n hX dX5_init_4 0 rfl rfl ?_
  refine zz_iconst (v := nI 5) hX dX5_init_5 rfl ?_
  refine zz_newq hX 3 (hf _ (by omega)) (kd := 4) (n := 5) (by decide) (by decide) (List.Mem.head _) rfl zw_cl_X5_9 rfl (by omega) (by omega) (by omega) dX5_init_6 ?_
  refine zz_putRF hX hN zf_F_X5_11 ((zm_u1n (by omega)).trans ht) rfl (fun _ => rfl) (fun _ => rfl) dX5_init_9 ?_
  refine zz_aload_n hX dX5_init_12 0 rfl rfl ?_
  refine zz_iconst (v := nI 0) hX dX5_init_13 rfl ?_
  refine zz_putI hX zf_F_X5_15 ((zm_u1n (by omega)).trans ht) rfl rfl rfl dX5_init_14 ?_
  refine zz_aload_n hX dX5_init_17 0 rfl rfl ?_
  refine zz_bipush (v := nI 6) hX dX5_init_18 rfl ?_
  refine zz_newq hX 4 ((zm_u1n (by omega)).trans (hf _ (by omega))) (kd := 7) (n := 6) (by decide) (by decide) (List.Mem.tail _ (List.Mem.tail _ (List.Mem.tail _ (List.Mem.head _)))) rfl zw_cl_X5_19 rfl (by omega) (by omega) (by omega) dX5_init_20 ?_
  refine zz_putRF hX hN zf_F_X5_21 ((zm_u1n (by omega)).trans ((zm_u1n (by omega)).trans ht)) rfl (fun _ => rfl) (fun _ => rfl) dX5_init_23 ?_
  refine zz_aload_n hX dX5_init_26 0 rfl rfl ?_
  refine zz_iconst (v := nI 0) hX dX5_init_27 rfl ?_
  refine zz_putI hX zf_F_X5_25 ((zm_u1n (by omega)).trans ((zm_u1n (by omega)).trans ht)) rfl rfl rfl dX5_init_28 ?_
  refine zz_aload_n hX dX5_init_31 0 rfl rfl ?_
  refine zz_new hX 300 ((zm_u1n (by omega)).trans ((zm_u1n (by omega)).trans (hf _ (by omega)))) zf_CL4 zw_cl_X5_19 zw_inst_X4 zw_init_X4 (by omega) (by omega) dX5_init_32 ?_
  refine zz_dup hX dX5_init_35 rfl ?_
  refine zz_callIN hX zf_M_X5_28 (b := 300) (As := []) (st := [.ref 300, .ref 2]) (k_initV (zm_u1 (zm_u1 (zm_u1 sh 3 (some (4, 5))) 4 (some (7, 6))) 300 (some (0, 4))) (zm_u1 (zm_u2 (zm_u1 (zm_u2 (zm_u1 mi 3 (fun _ => 0)) 2 1 (nI 0)) 4 (fun _ => 0)) 2 3 (nI 0)) 300 (fun _ => 0)) (zm_u1 (zm_u2 (zm_u1 (zm_u2 (zm_u1 mr 3 (fun _ => none)) 2 0 (some 3)) 4 (fun _ => none)) 2 2 (some 4)) 300 (fun _ => none)) 300 zm_u1s (fun l h1 h2 => (((zm_u1n (by omega))).trans (((zm_u1n (by omega))).trans (((zm_u1n (by omega))).trans ((hf l (by omega)))))))) rfl rfl (by decide) (Nat.le_of_ble_eq_true rfl) (by omega) (by omega) dX5_init_36 ?_ (fun _ _ _ _ h _ => h.elim)
  rintro v9 s36 i36 m36 ⟨rfl, hV36, hc36, hs36⟩ -
  have h36 := hs36
  have hb36 : zr_same zr_out sh mi mr s36 i36 m36 := fun l hl => by unfold zr_out at hl; obtain ⟨f1, f2, f3⟩ := h36 l (by unfold zr_ot; omega); exact ⟨f1.trans (((zm_u1n (by omega))).trans (((zm_u1n (by omega))).trans ((zm_u1n (by omega))))), f2.trans (((zm_u1n (by omega))).trans (((zm_u2r (by omega))).trans (((zm_u1n (by omega))).trans (((zm_u2r (by omega))).trans ((zm_u1n (by omega))))))), f3.trans (((zm_u1n (by omega))).trans (((zm_u2r (by omega))).trans (((zm_u1n (by omega))).trans (((zm_u2r (by omega))).trans ((zm_u1n (by omega)))))))⟩
  have hn36 : ∀ l, (4 < l ∧ l ≤ 7) ∨ (200 ≤ l ∧ (l < 300 ∨ 303 ≤ l)) → s36 l = none := fun l hl => (h36 l (by unfold zr_ot; omega)).1.trans (((zm_u1n (by omega))).trans (((zm_u1n (by omega))).trans (((zm_u1n (by omega))).trans ((hf l (by omega))))))
  refine zz_putR hX zf_F_X5_29 ((h36 _ (by unfold zr_ot; omega)).1.trans ((zm_u1n (by omega)).trans ((zm_u1n (by omega)).trans ((zm_u1n (by omega)).trans ht)))) rfl (fun _ => rfl) (fun _ => rfl) dX5_init_39 ?_
  refine zz_aload_n hX dX5_init_42 0 rfl rfl ?_
  refine zz_bipush (v := nI 8) hX dX5_init_43 rfl ?_
  refine zz_newq hX 5 (hn36 _ (by omega)) (kd := 5) (n := 8) (by decide) (by decide) (List.Mem.tail _ (List.Mem.head _)) rfl zw_cl_X5_33 rfl (by omega) (by omega) (by omega) dX5_init_45 ?_
  refine zz_putRF hX hN zf_F_X5_35 ((zm_u1n (by omega)).trans ((h36 _ (by unfold zr_ot; omega)).1.trans ((zm_u1n (by omega)).trans ((zm_u1n (by omega)).trans ((zm_u1n (by omega)).trans ht))))) rfl (fun _ => rfl) (fun _ => rfl) dX5_init_48 ?_
  refine zz_aload_n hX dX5_init_51 0 rfl rfl ?_
  refine zz_iconst (v := nI 0) hX dX5_init_52 rfl ?_
  refine zz_putI hX zf_F_X5_39 ((zm_u1n (by omega)).trans ((h36 _ (by unfold zr_ot; omega)).1.trans ((zm_u1n (by omega)).trans ((zm_u1n (by omega)).trans ((zm_u1n (by omega)).trans ht))))) rfl rfl rfl dX5_init_53 ?_
  refine zz_aload_n hX dX5_init_56 0 rfl rfl ?_
  refine zz_iconst (v := nI 5) hX dX5_init_57 rfl ?_
  refine zz_newa hX 6 ((zm_u1n (by omega)).trans (hn36 _ (by omega))) (kd := 2) (n := 5) (Or.inr (Or.inl rfl)) rfl zw_arr_boolean rfl (by omega) (by omega) (by omega) dX5_init_58 ?_
  refine zz_putRF hX hN zf_F_X5_42 ((zm_u1n (by omega)).trans ((zm_u1n (by omega)).trans ((h36 _ (by unfold zr_ot; omega)).1.trans ((zm_u1n (by omega)).trans ((zm_u1n (by omega)).trans ((zm_u1n (by omega)).trans ht)))))) rfl (fun _ => rfl) (fun _ => rfl) dX5_init_60 ?_
  refine zz_aload_n hX dX5_init_63 0 rfl rfl ?_
  refine zz_bipush (v := nI 8) hX dX5_init_64 rfl ?_
  refine zz_newa hX 7 ((zm_u1n (by omega)).trans ((zm_u1n (by omega)).trans (hn36 _ (by omega)))) (kd := 1) (n := 8) (Or.inl rfl) rfl zw_arr_int rfl (by omega) (by omega) (by omega) dX5_init_66 ?_
  refine zz_putRF hX hN zf_F_X5_46 ((zm_u1n (by omega)).trans ((zm_u1n (by omega)).trans ((zm_u1n (by omega)).trans ((h36 _ (by unfold zr_ot; omega)).1.trans ((zm_u1n (by omega)).trans ((zm_u1n (by omega)).trans ((zm_u1n (by omega)).trans ht))))))) rfl (fun _ => rfl) (fun _ => rfl) dX5_init_68 ?_
  refine zz_aload_n hX dX5_init_71 0 rfl rfl ?_
  refine zz_iconst (v := nI 0) hX dX5_init_72 rfl ?_
  refine zz_putI hX zf_F_X5_50 ((zm_u1n (by omega)).trans ((zm_u1n (by omega)).trans ((zm_u1n (by omega)).trans ((h36 _ (by unfold zr_ot; omega)).1.trans ((zm_u1n (by omega)).trans ((zm_u1n (by omega)).trans ((zm_u1n (by omega)).trans ht))))))) rfl rfl rfl dX5_init_73 ?_
  refine zz_aload_n hX dX5_init_76 0 rfl rfl ?_
  refine zz_iconst (v := nI 0) hX dX5_init_77 rfl ?_
  refine zz_putI hX zf_F_X5_53 ((zm_u1n (by omega)).trans ((zm_u1n (by omega)).trans ((zm_u1n (by omega)).trans ((h36 _ (by unfold zr_ot; omega)).1.trans ((zm_u1n (by omega)).trans ((zm_u1n (by omega)).trans ((zm_u1n (by omega)).trans ht))))))) rfl rfl rfl dX5_init_78 ?_
  refine zz_aload_n hX dX5_init_81 0 rfl rfl ?_
  refine zz_iconst (v := nI 0) hX dX5_init_82 rfl ?_
  refine zz_putI hX zf_F_X5_56 ((zm_u1n (by omega)).trans ((zm_u1n (by omega)).trans ((zm_u1n (by omega)).trans ((h36 _ (by unfold zr_ot; omega)).1.trans ((zm_u1n (by omega)).trans ((zm_u1n (by omega)).trans ((zm_u1n (by omega)).trans ht))))))) rfl rfl rfl dX5_init_83 ?_
  refine zz_vret hX hr (by omega) (by omega) dX5_init_86 ?_
  exact ⟨rfl, zR_0 ⟨((zm_u1n (by omega)).trans ((zm_u1n (by omega)).trans ((zm_u1n (by omega)).trans ((h36 _ (by unfold zr_ot; omega)).1.trans ((zm_u1n (by omega)).trans ((zm_u1n (by omega)).trans ((zm_u1n (by omega)).trans ht))))))), ((zm_u2k (by decide)).trans ((congrFun (zm_u1n (by omega)) _).trans ((zm_u2k (by decide)).trans ((congrFun (zm_u1n (by omega)) _).trans ((zm_u2k (by decide)).trans ((congrFun (zm_u1n (by omega)) _).trans ((zm_u2k (by decide)).trans ((congrFun (h36 _ (by unfold zr_ot; omega)).2.2 _).trans ((congrFun (zm_u1n (by omega)) _).trans ((zm_u2k (by decide)).trans ((congrFun (zm_u1n (by omega)) _).trans zm_u2s))))))))))), ((zm_u2k (by decide)).trans ((congrFun (zm_u1n (by omega)) _).trans ((zm_u2k (by decide)).trans ((congrFun (zm_u1n (by omega)) _).trans ((zm_u2k (by decide)).trans ((congrFun (zm_u1n (by omega)) _).trans ((zm_u2k (by decide)).trans ((congrFun (h36 _ (by unfold zr_ot; omega)).2.2 _).trans ((congrFun (zm_u1n (by omega)) _).trans zm_u2s))))))))), ((zm_u2k (by decide)).trans ((congrFun (zm_u1n (by omega)) _).trans ((zm_u2k (by decide)).trans ((congrFun (zm_u1n (by omega)) _).trans ((zm_u2k (by decide)).trans ((congrFun (zm_u1n (by omega)) _).trans zm_u2s)))))), ((zm_u2k (by decide)).trans ((congrFun (zm_u1n (by omega)) _).trans ((zm_u2k (by decide)).trans ((congrFun (zm_u1n (by omega)) _).trans zm_u2s)))), ((zm_u2k (by decide)).trans ((congrFun (zm_u1n (by omega)) _).trans zm_u2s)), zm_u2s, ((zm_u1n (by omega)).trans ((zm_u1n (by omega)).trans ((zm_u1n (by omega)).trans ((h36 _ (by unfold zr_ot; omega)).1.trans ((zm_u1n (by omega)).trans ((zm_u1n (by omega)).trans zm_u1s)))))), ((zm_u1n (by omega)).trans ((zm_u1n (by omega)).trans ((zm_u1n (by omega)).trans ((h36 _ (by unfold zr_ot; omega)).1.trans ((zm_u1n (by omega)).trans zm_u1s))))), ((zm_u1n (by omega)).trans ((zm_u1n (by omega)).trans zm_u1s)), ((zm_u1n (by omega)).trans zm_u1s), zm_u1s⟩ ⟨(((zm_u2k (by decide))).trans (((zm_u2k (by decide))).trans (((zm_u2k (by decide))).trans (((congrFun (zm_u1n (by omega)) _)).trans (((congrFun (zm_u1n (by omega)) _)).trans (((zm_u2k (by decide))).trans (((congrFun (zm_u1n (by omega)) _)).trans (((congrFun (h36 _ (by unfold zr_ot; omega)).2.1 _).trans (((congrFun (zm_u1n (by omega)) _)).trans (((zm_u2k (by decide))).trans (((congrFun (zm_u1n (by omega)) _)).trans (zm_u2s))))))))))))), (((zm_u2k (by decide))).trans (((zm_u2k (by decide))).trans (((zm_u2k (by decide))).trans (((congrFun (zm_u1n (by omega)) _)).trans (((congrFun (zm_u1n (by omega)) _)).trans (((zm_u2k (by decide))).trans (((congrFun (zm_u1n (by omega)) _)).trans (((congrFun (h36 _ (by unfold zr_ot; omega)).2.1 _).trans (((congrFun (zm_u1n (by omega)) _)).trans (zm_u2s))))))))))), (((zm_u2k (by decide))).trans (((zm_u2k (by decide))).trans (((zm_u2k (by decide))).trans (((congrFun (zm_u1n (by omega)) _)).trans (((congrFun (zm_u1n (by omega)) _)).trans (zm_u2s)))))), (((zm_u2k (by decide))).trans (((zm_u2k (by decide))).trans (zm_u2s))), (((zm_u2k (by decide))).trans (zm_u2s)), (zm_u2s)⟩ (fun k => congrFun (((zm_u2r (by omega))).trans (((zm_u2r (by omega))).trans (((zm_u2r (by omega))).trans (((zm_u1n (by omega))).trans (zm_u1s))))) k) (zr_V_same hV36 (fun l h1 h2 => ⟨(((zm_u1n (by omega))).trans (((zm_u1n (by omega))).trans ((zm_u1n (by omega))))), (((zm_u2r (by omega))).trans (((zm_u1n (by omega))).trans (((zm_u2r (by omega))).trans (((zm_u1n (by omega))).trans (((zm_u2r (by omega))).trans (((zm_u1n (by omega))).trans ((zm_u2r (by omega)))))))))⟩)) ((congrFun (((zm_u2r (by omega))).trans (((zm_u2r (by omega))).trans (((zm_u2r (by omega))).trans (((zm_u1n (by omega))).trans (((zm_u1n (by omega))).trans (((zm_u2r (by omega))).trans ((zm_u1n (by omega))))))))) _).trans hc36) (fun l h1 h2 => (((zm_u1n (by omega))).trans (((zm_u1n (by omega))).trans (((zm_u1n (by omega))).trans ((hn36 l (by omega))))))) (fun l h1 => (((zm_u1n (by omega))).trans (((zm_u1n (by omega))).trans (((zm_u1n (by omega))).trans ((hn36 l (by omega))))))), (fun l hl => by have hb := hb36 l hl; unfold zr_out at hl; exact ⟨(((zm_u1n (by omega))).trans (((zm_u1n (by omega))).trans (((zm_u1n (by omega))).trans (hb.1)))), (((zm_u2r (by omega))).trans (((zm_u2r (by omega))).trans (((zm_u2r (by omega))).trans (((zm_u1n (by omega))).trans (((zm_u1n (by omega))).trans (((zm_u2r (by omega))).trans (((zm_u1n (by omega))).trans (hb.2.1)))))))), (((zm_u2r (by omega))).trans (((zm_u1n (by omega))).trans (((zm_u2r (by omega))).trans (((zm_u1n (by omega))).trans (((zm_u2r (by omega))).trans (((zm_u1n (by omega))).trans (((zm_u2r (by omega))).trans (hb.2.2))))))))⟩)⟩

set_option maxRecDepth 20000 in
theorem P_voice (S : zS) (sh : zm_Sh) (mi : zm_Mi) (mr : zm_Mr) (hW : zW S) (hR : zR S sh mi mr)  : zz_Con yX5_voice (.code yX5_voice cX5_voice 1 (some Jvm.ClassFile.FieldType.int)) 10 10 60 [.ref 2] sh mi mr (zq_ok (True) (True) ((¬ zv_sc S (zv_nv S) = 0) ∧ (zv_nv S < 6)) (nI (zv_nv S)) (zt_voice S) sh mi mr) (zq_no (True) (True) ((¬ zv_sc S (zv_nv S) = 0) ∧ (zv_nv S < 6)) sh mi mr) := by
  refine zz_begin RX5 [(0, .ref 2)] (by decide) rfl rfl (Nat.le_of_ble_eq_true rfl) rfl ?_
  intro Γ D E ad hX hr hN hT
  obtain ⟨hRm, hRp, hRv, hRs, hRf⟩ := id hR
  obtain ⟨m1, m2, m3, m4, m5, m6, m7, m8, m9, m10, m11, m12, m13, m14, m15, m16, m17, m18, m19, m20⟩ := hRm
  obtain ⟨hWp, hWv, hWs, hWk, hWr, hWf⟩ := id hW
  obtain ⟨p0, p1, p2, p3, p4, p5⟩ := hWp
  obtain ⟨v0, v1, v2, v3, v4⟩ := hWv
  obtain ⟨s0, s1, s2, s3⟩ := hWs
  obtain ⟨f0, f1, f2, f3⟩ := hWf
  have v12 := (v2 (zv_nv S) (by omega)).2
  refine zz_aload_n hX dX5_voice_0 0 rfl rfl ?_
  refine zz_getR (y := (300 + 3 * zv_nv S)) hX zf_F_X5_29.r m1 rfl m4 dX5_voice_1 ?_
  refine zz_getI (x := nI (zv_sc S (zv_nv S))) hX zf_F_X5_85.r (hRv.2 (zv_nv S) (Nat.le_refl _)).1.1 rfl (((hRv.2 (zv_nv S) (Nat.le_refl _)).2.1.trans (v2 _ (by omega)).1)) dX5_voice_4 ?_
  refine zz_if_neN hX (by omega) 20 dX5_voice_7 (by decide) (fun c7 => ?_) (fun c7 => ?_)
  · skip
    refine zz_aload_n hX dX5_voice_20 0 rfl rfl ?_
    refine zz_getI (x := nI (zv_nv S)) hX zf_F_X5_25.r m1 rfl ((m14.trans v0)) dX5_voice_21 ?_
    refine zz_bipush (v := nI 6) hX dX5_voice_24 rfl ?_
    refine zz_icmp_ltN hX (by omega) (by decide) 39 dX5_voice_26 (by decide) (fun c26 => ?_) (fun c26 => ?_)
    · skip
      refine zz_aload_n hX dX5_voice_39 0 rfl rfl ?_
      refine zz_getR (y := 4) hX zf_F_X5_21.r m1 rfl m3 dX5_voice_40 ?_
      refine zz_aload_n hX dX5_voice_43 0 rfl rfl ?_
      refine zz_getI (x := nI (zv_nv S)) hX zf_F_X5_25.r m1 rfl ((m14.trans v0)) dX5_voice_44 ?_
      refine zz_aload_n hX dX5_voice_47 0 rfl rfl ?_
      refine zz_getR (y := (300 + 3 * zv_nv S)) hX zf_F_X5_29.r m1 rfl m4 dX5_voice_48 ?_
      refine zz_aast hX m9 (by decide) (by decide) rfl rfl (hRv.2 (zv_nv S) (Nat.le_refl _)).1.1 (zv_nv S) rfl (by omega) (by decide) dX5_voice_51 ?_
      refine zz_aload_n hX dX5_voice_52 0 rfl rfl ?_
      refine zz_new hX (300 + 3 * zv_nv S + 3) (hRf.2.1 _ (by omega) (by omega)) zf_CL4 zw_cl_X5_19 zw_inst_X4 zw_init_X4 (by omega) (by omega) dX5_voice_53 ?_
      refine zz_dup hX dX5_voice_56 rfl ?_
      refine zz_callIN hX zf_M_X5_28 (b := 300 + 3 * zv_nv S + 3) (As := []) (st := [.ref (300 + 3 * zv_nv S + 3), .ref 2]) (k_initV (zm_u1 sh (300 + 3 * zv_nv S + 3) (some (0, 4))) (zm_u1 mi (300 + 3 * zv_nv S + 3) (fun _ => 0)) (zm_u1 (zm_u2 mr 4 (zv_nv S) (some (300 + 3 * zv_nv S))) (300 + 3 * zv_nv S + 3) (fun _ => none)) (300 + 3 * zv_nv S + 3) zm_u1s (fun l h1 h2 => (zm_u1n (by omega)).trans (hRf.2.1 l (by omega) (by omega)))) rfl rfl (by decide) (Nat.le_of_ble_eq_true rfl) (by omega) (by omega) dX5_voice_57 ?_ (fun _ _ _ _ h _ => h.elim)
      rintro v9 s57 i57 m57 ⟨rfl, hV57, hc57, hs57⟩ -
      refine zz_putR hX zf_F_X5_29 ((hs57 _ (by unfold zr_ot; omega)).1.trans ((zm_u1n (by omega)).trans m1)) rfl (fun _ => rfl) (fun _ => rfl) dX5_voice_60 ?_
      refine zz_aload_n hX dX5_voice_63 0 rfl rfl ?_
      refine zz_dup hX dX5_voice_64 rfl ?_
      refine zz_getI (x := nI (zv_nv S)) hX zf_F_X5_25.r ((hs57 _ (by unfold zr_ot; omega)).1.trans ((zm_u1n (by omega)).trans m1)) rfl (((congrFun ((hs57 _ (by unfold zr_ot; omega)).2.1.trans (zm_u1n (by omega))) _).trans (m14.trans v0))) dX5_voice_65 ?_
      refine zz_dup_x1 hX dX5_voice_68 rfl rfl ?_
      refine zz_iconst (v := nI 1) hX dX5_voice_69 rfl ?_
      refine zz_iadd (z := nI ((zv_nv S) + 1)) hX dX5_voice_70 (nI_add _ _) ?_
      refine zz_putI hX zf_F_X5_25 ((hs57 _ (by unfold zr_ot; omega)).1.trans ((zm_u1n (by omega)).trans m1)) rfl rfl rfl dX5_voice_71 ?_
      refine zz_iret hX hr rfl (Nat.le_of_ble_eq_true rfl) (Nat.le_of_ble_eq_true rfl) dX5_voice_74 ?_
      unfold zq_ok
      skip
      exact ⟨⟨trivial, trivial, ⟨c7, c26⟩⟩, rfl, (zR_voice hW hR c26 hs57 hV57 hc57), (fun l hl => by unfold zr_out at hl; obtain ⟨f1, f2, f3⟩ := hs57 l (by unfold zr_ot; omega); rw [zm_u1n (by omega)] at f1 f2 f3; exact ⟨f1, (zm_u2r (by omega)).trans f2, (zm_u2r (by omega)).trans (f3.trans (zm_u2r (by omega)))⟩)⟩
    · skip
      refine zz_throw hX hT zf_T_X5_96 dX5_voice_29 dX5_voice_32 dX5_voice_33 dX5_voice_35 dX5_voice_38 (by decide) (Nat.le_of_ble_eq_true rfl) (Nat.le_of_ble_eq_true rfl) (Nat.le_of_ble_eq_true rfl) ?_
      unfold zq_no; skip; exact ⟨Or.inr (Or.inr ⟨rfl, trivial, trivial, fun h => absurd h.2 (by omega)⟩), rfl, rfl, rfl⟩
  · skip
    refine zz_throw hX hT zf_T_X5_94 dX5_voice_10 dX5_voice_13 dX5_voice_14 dX5_voice_16 dX5_voice_19 (by decide) (Nat.le_of_ble_eq_true rfl) (Nat.le_of_ble_eq_true rfl) (Nat.le_of_ble_eq_true rfl) ?_
    unfold zq_no; skip; exact ⟨Or.inr (Or.inr ⟨rfl, trivial, trivial, fun h => h.1 c7⟩), rfl, rfl, rfl⟩

set_option maxRecDepth 20000 in
theorem P_puppet (S : zS) (sh : zm_Sh) (mi : zm_Mi) (mr : zm_Mr) (hW : zW S) (hR : zR S sh mi mr) (x : Int32) : zz_Con yX5_puppet (.code yX5_puppet cX5_puppet 2 (some Jvm.ClassFile.FieldType.int)) 10 10 60 [.ref 2, .int x] sh mi mr (zq_ok (True) ((nI 1 ≤ x ∧ x ≤ nI 6)) ((zv_np S < 5)) (nI (zv_np S)) (zt_puppet S x) sh mi mr) (zq_no (True) ((nI 1 ≤ x ∧ x ≤ nI 6)) ((zv_np S < 5)) sh mi mr) := by
  refine zz_begin RX5 [(0, .ref 2), (1, .int x)] (by decide) rfl rfl (Nat.le_of_ble_eq_true rfl) rfl ?_
  intro Γ D E ad hX hr hN hT
  obtain ⟨hRm, hRp, hRv, hRs, hRf⟩ := id hR
  obtain ⟨m1, m2, m3, m4, m5, m6, m7, m8, m9, m10, m11, m12, m13, m14, m15, m16, m17, m18, m19, m20⟩ := hRm
  obtain ⟨hWp, hWv, hWs, hWk, hWr, hWf⟩ := id hW
  obtain ⟨p0, p1, p2, p3, p4, p5⟩ := hWp
  obtain ⟨v0, v1, v2, v3, v4⟩ := hWv
  obtain ⟨s0, s1, s2, s3⟩ := hWs
  obtain ⟨f0, f1, f2, f3⟩ := hWf
  refine zz_iload_n hX dX5_puppet_0 1 rfl rfl ?_
  refine zz_iconst (v := nI 1) hX dX5_puppet_1 rfl ?_
  refine zz_bipush (v := nI 6) hX dX5_puppet_2 rfl ?_
  refine zz_sC hX zf_M_X5_59 (As := [.int x, .int (nI 1), .int (nI 6)]) (st := []) (k_needRange x (nI 1) (nI 6) sh mi mr) rfl rfl (by decide) (Nat.le_of_ble_eq_true rfl) (Nat.le_of_ble_eq_true rfl) (Nat.le_of_ble_eq_true rfl) dX5_puppet_4 (fun p4 => ?_) (fun x4 => zz_out hX hT (Nat.le_of_ble_eq_true rfl) (Nat.le_of_ble_eq_true rfl) (by unfold zq_no; skip; exact ⟨Or.inr (Or.inl ⟨rfl, trivial, fun h => x4 (h)⟩), rfl, rfl, rfl⟩))
  obtain ⟨jn, hjn, rfl⟩ := zs_rng1 (a := 1) (n := 6) p4 (by decide) (by decide)
  have z_jn : zn (nI jn) = jn := nI_clamp (n := jn) (by omega)
  refine zz_aload_n hX dX5_puppet_7 0 rfl rfl ?_
  refine zz_getI (x := nI (zv_np S)) hX zf_F_X5_15.r m1 rfl ((m13.trans p0)) dX5_puppet_8 ?_
  refine zz_iconst (v := nI 5) hX dX5_puppet_11 rfl ?_
  refine zz_icmp_ltN hX (by omega) (by decide) 25 dX5_puppet_12 (by decide) (fun c12 => ?_) (fun c12 => ?_)
  · skip
    refine zz_aload_n hX dX5_puppet_25 0 rfl rfl ?_
    refine zz_getR (y := 3) hX zf_F_X5_11.r m1 rfl m2 dX5_puppet_26 ?_
    refine zz_aload_n hX dX5_puppet_29 0 rfl rfl ?_
    refine zz_getI (x := nI (zv_np S)) hX zf_F_X5_15.r m1 rfl ((m13.trans p0)) dX5_puppet_30 ?_
    refine zz_new hX (200 + 4 * zv_np S) (hRf.1 _ (by omega) (by omega)) zf_CL0 zw_cl_X5_9 zw_inst_X0 zw_init_X0 (by omega) (by omega) dX5_puppet_33 ?_
    refine zz_dup hX dX5_puppet_36 rfl ?_
    refine zz_iload_n hX dX5_puppet_37 1 rfl rfl ?_
    refine zz_callI hX zf_M_X5_70 (b := 200 + 4 * zv_np S) (As := [.int (nI jn)]) (st := [.ref (200 + 4 * zv_np S), .int (nI (zv_np S)), .ref 3]) (k_initP (zm_u1 sh (200 + 4 * zv_np S) (some (0, 0))) (zm_u1 mi (200 + 4 * zv_np S) (fun _ => 0)) (zm_u1 mr (200 + 4 * zv_np S) (fun _ => none)) (200 + 4 * zv_np S) jn hjn zm_u1s (fun l h1 h2 => (zm_u1n (by omega)).trans (hRf.1 l (by omega) (by omega)))) rfl rfl (by decide) (Nat.le_of_ble_eq_true rfl) (by omega) (by omega) dX5_puppet_38 ?_ (fun _ _ _ _ h _ => h.elim)
    rintro v9 s38 i38 m38 ⟨rfl, hP38, hi38, ha38, hb38, hc38, hs38⟩ -
    refine zz_aast hX ((hs38 _ (by unfold zr_ot; omega)).1.trans ((zm_u1n (by omega)).trans m8)) (by decide) (by decide) rfl rfl hP38.1 (zv_np S) rfl (by omega) (by decide) dX5_puppet_41 ?_
    refine zz_aload_n hX dX5_puppet_42 0 rfl rfl ?_
    refine zz_dup hX dX5_puppet_43 rfl ?_
    refine zz_getI (x := nI (zv_np S)) hX zf_F_X5_15.r ((hs38 _ (by unfold zr_ot; omega)).1.trans ((zm_u1n (by omega)).trans m1)) rfl (((congrFun ((hs38 _ (by unfold zr_ot; omega)).2.1.trans (zm_u1n (by omega))) _).trans (m13.trans p0))) dX5_puppet_44 ?_
    refine zz_dup_x1 hX dX5_puppet_47 rfl rfl ?_
    refine zz_iconst (v := nI 1) hX dX5_puppet_48 rfl ?_
    refine zz_iadd (z := nI ((zv_np S) + 1)) hX dX5_puppet_49 (nI_add _ _) ?_
    refine zz_putI hX zf_F_X5_15 ((hs38 _ (by unfold zr_ot; omega)).1.trans ((zm_u1n (by omega)).trans m1)) rfl rfl rfl dX5_puppet_50 ?_
    refine zz_iret hX hr rfl (Nat.le_of_ble_eq_true rfl) (Nat.le_of_ble_eq_true rfl) dX5_puppet_53 ?_
    unfold zq_ok
    (try rw [z_jn])
    exact ⟨⟨trivial, p4, c12⟩, rfl, (zR_puppet hW hR c12 hjn hs38 hP38 hi38 ha38 hb38 hc38), (fun l hl => by unfold zr_out at hl; obtain ⟨f1, f2, f3⟩ := hs38 l (by unfold zr_ot; omega); rw [zm_u1n (by omega)] at f1 f2 f3; exact ⟨f1, (zm_u2r (by omega)).trans f2, (zm_u2r (by omega)).trans f3⟩)⟩
  · skip
    refine zz_throw hX hT zf_T_X5_65 dX5_puppet_15 dX5_puppet_18 dX5_puppet_19 dX5_puppet_21 dX5_puppet_24 (by decide) (Nat.le_of_ble_eq_true rfl) (Nat.le_of_ble_eq_true rfl) (Nat.le_of_ble_eq_true rfl) ?_
    unfold zq_no; (try rw [z_jn]); exact ⟨Or.inr (Or.inr ⟨rfl, trivial, p4, fun h => absurd h (by omega)⟩), rfl, rfl, rfl⟩

set_option maxRecDepth 20000 in
theorem P_shot (S : zS) (sh : zm_Sh) (mi : zm_Mi) (mr : zm_Mr) (hW : zW S) (hR : zR S sh mi mr) (px nx tx v : Int32) : zz_Con yX5_shot (.code yX5_shot cX5_shot 6 (some Jvm.ClassFile.FieldType.int)) 10 50 1400 [.ref 2, .int px, .int nx, .int tx, .int v] sh mi mr (zq_ok ((zs_ix px (zv_np S)) ∧ (v = -1 ∨ zs_ix v (zv_nv S))) ((nI 1 ≤ nx ∧ nx ≤ nI 48) ∧ (nI 1 ≤ tx ∧ tx ≤ nI 2)) ((zv_ns S < 8)) (nI (zv_ns S)) (zt_shot S px nx tx v) sh mi mr) (zq_no ((zs_ix px (zv_np S)) ∧ (v = -1 ∨ zs_ix v (zv_nv S))) ((nI 1 ≤ nx ∧ nx ≤ nI 48) ∧ (nI 1 ≤ tx ∧ tx ≤ nI 2)) ((zv_ns S < 8)) sh mi mr) := by
  refine zz_begin RX5 [(0, .ref 2), (1, .int px), (2, .int nx), (3, .int tx), (4, .int v)] (by decide) rfl rfl (Nat.le_of_ble_eq_true rfl) rfl ?_
  intro Γ D E ad hX hr hN hT
  obtain ⟨hRm, hRp, hRv, hRs, hRf⟩ := id hR
  obtain ⟨m1, m2, m3, m4, m5, m6, m7, m8, m9, m10, m11, m12, m13, m14, m15, m16, m17, m18, m19, m20⟩ := hRm
  obtain ⟨hWp, hWv, hWs, hWk, hWr, hWf⟩ := id hW
  obtain ⟨p0, p1, p2, p3, p4, p5⟩ := hWp
  obtain ⟨v0, v1, v2, v3, v4⟩ := hWv
  obtain ⟨s0, s1, s2, s3⟩ := hWs
  obtain ⟨f0, f1, f2, f3⟩ := hWf
  refine zz_aload_n hX dX5_shot_0 0 rfl rfl ?_
  refine zz_iload_n hX dX5_shot_1 1 rfl rfl ?_
  refine zz_callV hX zf_M_X5_73 (As := [.int px]) (st := []) (K_puppetAt S sh mi mr hW hR px) m1 rfl rfl rfl (by decide) (Nat.le_of_ble_eq_true rfl) (Nat.le_of_ble_eq_true rfl) (Nat.le_of_ble_eq_true rfl) dX5_shot_2 ?_ ?_
  rotate_left
  · rintro e9 s9 i9 m9 ⟨x2, rfl, rfl, rfl, rfl⟩ -; exact zz_out hX hT (Nat.le_of_ble_eq_true rfl) (Nat.le_of_ble_eq_true rfl) (by unfold zq_no; skip; exact ⟨Or.inl ⟨rfl, fun h => x2 (h.1)⟩, rfl, rfl, rfl⟩)
  rintro v9 s9 i9 m9 ⟨p, hp, rfl, rfl, e2, e3, e4⟩ -
  obtain rfl := e2.symm
  obtain rfl := e3.symm
  obtain rfl := e4.symm
  have z_p : zn (nI p) = p := nI_clamp (n := p) (by omega)
  obtain ⟨e1, e2, e3, e4, e5, e6⟩ := hRp p hp
  obtain ⟨g1, g2, g3, g4, g5, g6, g7⟩ := e2
  obtain ⟨h1, h2, h3⟩ := p2 p hp
  refine zz_astore (ls' := [(0, .ref 2), (1, .int (nI p)), (2, .int nx), (3, .int tx), (4, .int v), (5, .ref (200 + 4 * p))]) hX dX5_shot_5 (Nat.le_of_ble_eq_true rfl) rfl ?_
  refine zz_aload_n hX dX5_shot_7 0 rfl rfl ?_
  refine zz_iload hX dX5_shot_8 4 rfl ?_
  refine zz_vC hX zf_M_X5_98 (As := [.int v]) (st := []) (K_needVoice S sh mi mr hW hR v) m1 rfl rfl rfl (by decide) (Nat.le_of_ble_eq_true rfl) (Nat.le_of_ble_eq_true rfl) (Nat.le_of_ble_eq_true rfl) dX5_shot_10 (fun p10 => ?_) (fun x10 => zz_out hX hT (Nat.le_of_ble_eq_true rfl) (Nat.le_of_ble_eq_true rfl) (by unfold zq_no; (try rw [z_p]); exact ⟨Or.inl ⟨rfl, fun h => x10 (h.2)⟩, rfl, rfl, rfl⟩))
  refine zz_iload_n hX dX5_shot_13 2 rfl rfl ?_
  refine zz_iconst (v := nI 1) hX dX5_shot_14 rfl ?_
  refine zz_bipush (v := nI 48) hX dX5_shot_15 rfl ?_
  refine zz_sC hX zf_M_X5_59 (As := [.int nx, .int (nI 1), .int (nI 48)]) (st := []) (k_needRange nx (nI 1) (nI 48) sh mi mr) rfl rfl (by decide) (Nat.le_of_ble_eq_true rfl) (Nat.le_of_ble_eq_true rfl) (Nat.le_of_ble_eq_true rfl) dX5_shot_17 (fun p17 => ?_) (fun x17 => zz_out hX hT (Nat.le_of_ble_eq_true rfl) (Nat.le_of_ble_eq_true rfl) (by unfold zq_no; (try rw [z_p]); exact ⟨Or.inr (Or.inl ⟨rfl, ⟨zs_ix_nI hp (by omega), p10⟩, fun h => x17 (h.1)⟩), rfl, rfl, rfl⟩))
  obtain ⟨n, hn, rfl⟩ := zs_rng1 (a := 1) (n := 48) p17 (by decide) (by decide)
  have z_n : zn (nI n) = n := nI_clamp (n := n) (by omega)
  refine zz_iload_n hX dX5_shot_20 3 rfl rfl ?_
  refine zz_iconst (v := nI 1) hX dX5_shot_21 rfl ?_
  refine zz_iconst (v := nI 2) hX dX5_shot_22 rfl ?_
  refine zz_sC hX zf_M_X5_59 (As := [.int tx, .int (nI 1), .int (nI 2)]) (st := []) (k_needRange tx (nI 1) (nI 2) sh mi mr) rfl rfl (by decide) (Nat.le_of_ble_eq_true rfl) (Nat.le_of_ble_eq_true rfl) (Nat.le_of_ble_eq_true rfl) dX5_shot_23 (fun p23 => ?_) (fun x23 => zz_out hX hT (Nat.le_of_ble_eq_true rfl) (Nat.le_of_ble_eq_true rfl) (by unfold zq_no; (try rw [z_p]); (try rw [z_n]); exact ⟨Or.inr (Or.inl ⟨rfl, ⟨zs_ix_nI hp (by omega), p10⟩, fun h => x23 (h.2)⟩), rfl, rfl, rfl⟩))
  obtain ⟨stp, hstp, rfl⟩ := zs_rng1 (a := 1) (n := 2) p23 (by decide) (by decide)
  have z_stp : zn (nI stp) = stp := nI_clamp (n := stp) (by omega)
  refine zz_aload_n hX dX5_shot_26 0 rfl rfl ?_
  refine zz_getI (x := nI (zv_ns S)) hX zf_F_X5_39.r m1 rfl ((m15.trans s0)) dX5_shot_27 ?_
  refine zz_bipush (v := nI 8) hX dX5_shot_30 rfl ?_
  refine zz_icmp_ltN hX (by omega) (by decide) 45 dX5_shot_32 (by decide) (fun c32 => ?_) (fun c32 => ?_)
  · skip
    refine zz_aload_n hX dX5_shot_45 0 rfl rfl ?_
    refine zz_getR (y := 5) hX zf_F_X5_35.r m1 rfl m5 dX5_shot_46 ?_
    refine zz_aload_n hX dX5_shot_49 0 rfl rfl ?_
    refine zz_getI (x := nI (zv_ns S)) hX zf_F_X5_39.r m1 rfl ((m15.trans s0)) dX5_shot_50 ?_
    refine zz_new hX (1000 + 100 * zv_ns S) (hRf.2.2 _ (by omega)) zf_CL2 zw_cl_X5_33 zw_inst_X2 zw_init_X2 (by omega) (by omega) dX5_shot_53 ?_
    refine zz_dup hX dX5_shot_56 rfl ?_
    refine zz_aload hX dX5_shot_57 5 rfl ?_
    refine zz_iload_n hX dX5_shot_59 2 rfl rfl ?_
    refine zz_iload_n hX dX5_shot_60 3 rfl rfl ?_
    refine zz_iload hX dX5_shot_61 4 rfl ?_
    refine zz_callI hX zf_M_X5_103 (b := 1000 + 100 * zv_ns S) (As := [.ref (200 + 4 * p), .int (nI n), .int (nI stp), .int v]) (st := [.ref (1000 + 100 * zv_ns S), .int (nI (zv_ns S)), .ref 5]) (k_initS (zm_u1 sh (1000 + 100 * zv_ns S) (some (0, 2))) (zm_u1 mi (1000 + 100 * zv_ns S) (fun _ => 0)) (zm_u1 mr (1000 + 100 * zv_ns S) (fun _ => none)) (1000 + 100 * zv_ns S) (200 + 4 * p) (zv_jn S p) n (nI stp) v (by omega) ⟨h2, h3⟩ hn.2 (zr_P_same (hRp p hp).2.1 (fun l q1 q2 => ⟨zm_u1n (by omega), zm_u1n (by omega)⟩)) ((congrFun (zm_u1n (by omega)) _).trans (e3.trans h1)) zm_u1s (fun l h1 h2 => (zm_u1n (by omega)).trans (hRf.2.2 l (by omega)))) rfl rfl (by decide) (Nat.le_of_ble_eq_true rfl) (by omega) (by omega) dX5_shot_63 ?_ (fun _ _ _ _ h _ => h.elim)
    rintro v9 s63 i63 m63 h63 -
    obtain rfl := h63.1
    have hs63 := h63.2.2.2.2.2.2.2
    refine zz_aast hX ((hs63 _ (by unfold zr_ot; omega)).1.trans ((zm_u1n (by omega)).trans m10)) (by decide) (by decide) rfl rfl h63.2.1.1 (zv_ns S) rfl (by omega) (by decide) dX5_shot_66 ?_
    refine zz_aload_n hX dX5_shot_67 0 rfl rfl ?_
    refine zz_dup hX dX5_shot_68 rfl ?_
    refine zz_getI (x := nI (zv_ns S)) hX zf_F_X5_39.r ((hs63 _ (by unfold zr_ot; omega)).1.trans ((zm_u1n (by omega)).trans m1)) rfl (((congrFun ((hs63 _ (by unfold zr_ot; omega)).2.1.trans (zm_u1n (by omega))) _).trans (m15.trans s0))) dX5_shot_69 ?_
    refine zz_dup_x1 hX dX5_shot_72 rfl rfl ?_
    refine zz_iconst (v := nI 1) hX dX5_shot_73 rfl ?_
    refine zz_iadd (z := nI ((zv_ns S) + 1)) hX dX5_shot_74 (nI_add _ _) ?_
    refine zz_putI hX zf_F_X5_39 ((hs63 _ (by unfold zr_ot; omega)).1.trans ((zm_u1n (by omega)).trans m1)) rfl rfl rfl dX5_shot_75 ?_
    refine zz_iret hX hr rfl (Nat.le_of_ble_eq_true rfl) (Nat.le_of_ble_eq_true rfl) dX5_shot_78 ?_
    unfold zq_ok
    (try rw [z_p]); (try rw [z_n]); (try rw [z_stp])
    exact ⟨⟨⟨zs_ix_nI hp (by omega), p10⟩, ⟨p17, p23⟩, c32⟩, rfl, (zR_shot hW hR c32 hp hn hstp h63), (fun l hl => by unfold zr_out at hl; obtain ⟨f1, f2, f3⟩ := hs63 l (by unfold zr_ot; omega); rw [zm_u1n (by omega)] at f1 f2 f3; exact ⟨f1, (zm_u2r (by omega)).trans f2, (zm_u2r (by omega)).trans f3⟩)⟩
  · skip
    refine zz_throw hX hT zf_T_X5_101 dX5_shot_35 dX5_shot_38 dX5_shot_39 dX5_shot_41 dX5_shot_44 (by decide) (Nat.le_of_ble_eq_true rfl) (Nat.le_of_ble_eq_true rfl) (Nat.le_of_ble_eq_true rfl) ?_
    unfold zq_no; (try rw [z_p]); (try rw [z_n]); (try rw [z_stp]); exact ⟨Or.inr (Or.inr ⟨rfl, ⟨zs_ix_nI hp (by omega), p10⟩, ⟨p17, p23⟩, fun h => absurd h (by omega)⟩), rfl, rfl, rfl⟩

