/-! ===== the law's loop, from its head; the law from its entry ===== -/
section ZLP
variable {Γ : zz_C} {G : zz_G} {Q : State → Prop} {mc ms : Nat}
set_option maxRecDepth 20000 in
theorem law_loop (hX : zz_X Γ G RL cL_law 12 mc ms) (hml : G.2.2.1 = 7) (hL : G.2.1.2.2.1 ≤ 2560) (hmc : 31000 ≤ mc) (hms : 760000 ≤ ms) (hend : ∀ (sh : zm_Sh) (mi : zm_Mi) (mr : zm_Mr) (c s n : Nat), c ≤ mc → s ≤ ms → zz Γ G Q c s sh mi mr 2335 (zl_ls n) []) :
    ∀ (f n : Nat), f + n = 514 → n ≤ 512 → ∀ (S : zS) (sh : zm_Sh) (mi : zm_Mi) (mr : zm_Mr) (c s : Nat), zl_I S sh mi mr → c ≤ 100 + 60 * n → s ≤ 10000 + 1460 * n → zz Γ G Q c s sh mi mr 23 (zl_ls n) [] := by
  intro f
  induction f with
  | zero => intro n h1 h2; omega
  | succ f ih =>
    intro n hf hn S sh mi mr c s hI hc hs
    have h10 := hI.2.2.2.2
    have h4 : 4 < G.2.2.1 := by rw [hml]; decide
    refine zz_iload hX dL_law_23 4 rfl ?_
    refine zz_aload_n hX dL_law_25 0 rfl rfl ?_
    refine zz_slen hX h10 dL_law_26 ?_
    refine zz_iconst (v := nI 5) hX dL_law_27 rfl ?_
    refine zz_isub (z := nI G.2.1.2.2.1 - nI 5) hX dL_law_28 rfl ?_
    refine zz_icmp_gt hX 2335 dL_law_29 rfl (fun _ => hend _ _ _ _ _ _ (by omega) (by omega)) (fun cl => ?_)
    have hl : 5 * n + 5 ≤ G.2.1.2.2.1 := by
      rw [zs_lt, pk_sub_toInt (by omega) (by omega), nI_toInt (by omega)] at cl
      omega
    have hn9 : n ≤ 511 := by omega
    have hN : zl_N Γ G Q n c s := fun S' sh' mi' mr' c' s' hI' hc' hs' => by
      have e1 : c' ≤ 100 + 60 * (n + 1) := by omega
      have e2 : s' ≤ 10000 + 1460 * (n + 1) := by omega
      refine zz_iinc (v := nI (5 * (n + 1))) (ls' := zl_ls (n + 1)) hX dL_law_2329 4 rfl (by show nI (5 * n) + nI 5 = nI (5 * n + 5); exact nI_add _ _) h4 rfl ?_
      refine zz_goto hX 23 dL_law_2332 rfl ?_
      exact ih (n + 1) (by omega) (by omega) S' sh' mi' mr' c' s' hI' e1 e2
    have hc2 : c + 60 ≤ mc := by omega
    have hs2 : s + 1460 ≤ ms := by omega
    refine zz_aload_n hX dL_law_32 0 rfl rfl ?_
    refine zz_iload hX dL_law_33 4 rfl ?_
    refine zz_sld hX h10 (5 * n) rfl (by omega) (by omega) dL_law_35 ?_
    refine zz_bipush (v := nI 63) hX dL_law_36 rfl ?_
    refine zz_iand (z := G.2.1.2.2.2 (5 * n) &&& nI 63) hX dL_law_38 rfl ?_
    generalize G.2.1.2.2.2 (5 * n) &&& nI 63 = x
    by_cases s0 : x = nI 0
    · refine zz_tableIn hX 184 (off := 145) dL_law_39 (by rw [s0]; decide) (by rw [s0]; decide) (by rw [s0]; rfl) (by decide) ?_
      exact L_puppet hX hml S sh mi mr n hl hL hI hc2 hs2 hN
    by_cases s1 : x = nI 1
    · refine zz_tableIn hX 240 (off := 201) dL_law_39 (by rw [s1]; decide) (by rw [s1]; decide) (by rw [s1]; rfl) (by decide) ?_
      exact L_mouths hX hml S sh mi mr n hl hL hI hc2 hs2 hN
    by_cases s2 : x = nI 2
    · refine zz_tableIn hX 320 (off := 281) dL_law_39 (by rw [s2]; decide) (by rw [s2]; decide) (by rw [s2]; rfl) (by decide) ?_
      exact L_sound hX hml S sh mi mr n hl hL hI hc2 hs2 hN
    by_cases s3 : x = nI 3
    · refine zz_tableIn hX 388 (off := 349) dL_law_39 (by rw [s3]; decide) (by rw [s3]; decide) (by rw [s3]; rfl) (by decide) ?_
      exact L_voice hX hml S sh mi mr n hl hL hI hc2 hs2 hN
    by_cases s4 : x = nI 4
    · refine zz_tableIn hX 432 (off := 393) dL_law_39 (by rw [s4]; decide) (by rw [s4]; decide) (by rw [s4]; rfl) (by decide) ?_
      exact L_shot hX hml S sh mi mr n hl hL hI hc2 hs2 hN
    by_cases s5 : x = nI 5
    · refine zz_tableIn hX 524 (off := 485) dL_law_39 (by rw [s5]; decide) (by rw [s5]; decide) (by rw [s5]; rfl) (by decide) ?_
      exact L_assign hX hml S sh mi mr n hl hL hI hc2 hs2 hN
    by_cases s6 : x = nI 6
    · refine zz_tableIn hX 592 (off := 553) dL_law_39 (by rw [s6]; decide) (by rw [s6]; decide) (by rw [s6]; rfl) (by decide) ?_
      exact L_ill hX hml S sh mi mr n hl hL hI hc2 hs2 hN
    by_cases s7 : x = nI 7
    · refine zz_tableIn hX 683 (off := 644) dL_law_39 (by rw [s7]; decide) (by rw [s7]; decide) (by rw [s7]; rfl) (by decide) ?_
      exact L_dub hX hml S sh mi mr n hl hL hI hc2 hs2 hN
    by_cases s8 : x = nI 8
    · refine zz_tableIn hX 751 (off := 712) dL_law_39 (by rw [s8]; decide) (by rw [s8]; decide) (by rw [s8]; rfl) (by decide) ?_
      exact L_key hX hml S sh mi mr n hl hL hI hc2 hs2 hN
    by_cases s9 : x = nI 9
    · refine zz_tableIn hX 843 (off := 804) dL_law_39 (by rw [s9]; decide) (by rw [s9]; decide) (by rw [s9]; rfl) (by decide) ?_
      exact L_camera hX hml S sh mi mr n hl hL hI hc2 hs2 hN
    by_cases s10 : x = nI 10
    · refine zz_tableIn hX 923 (off := 884) dL_law_39 (by rw [s10]; decide) (by rw [s10]; decide) (by rw [s10]; rfl) (by decide) ?_
      exact L_play hX hml S sh mi mr n hl hL hI hc2 hs2 hN
    by_cases s11 : x = nI 11
    · refine zz_tableIn hX 979 (off := 940) dL_law_39 (by rw [s11]; decide) (by rw [s11]; decide) (by rw [s11]; rfl) (by decide) ?_
      exact L_strike hX hml S sh mi mr n hl hL hI hc2 hs2 hN
    by_cases s12 : x = nI 12
    · refine zz_tableIn hX 1035 (off := 996) dL_law_39 (by rw [s12]; decide) (by rw [s12]; decide) (by rw [s12]; rfl) (by decide) ?_
      exact L_bump hX hml S sh mi mr n hl hL hI hc2 hs2 hN
    by_cases s13 : x = nI 13
    · refine zz_tableIn hX 1103 (off := 1064) dL_law_39 (by rw [s13]; decide) (by rw [s13]; decide) (by rw [s13]; rfl) (by decide) ?_
      exact L_level hX hml S sh mi mr n hl hL hI hc2 hs2 hN
    by_cases s14 : x = nI 14
    · refine zz_tableIn hX 1159 (off := 1120) dL_law_39 (by rw [s14]; decide) (by rw [s14]; decide) (by rw [s14]; rfl) (by decide) ?_
      exact L_anew hX hml S sh mi mr n hl hL hI hc2 hs2 hN
    by_cases s15 : x = nI 15
    · refine zz_tableIn hX 1227 (off := 1188) dL_law_39 (by rw [s15]; decide) (by rw [s15]; decide) (by rw [s15]; rfl) (by decide) ?_
      exact L_mend hX hml S sh mi mr n hl hL hI hc2 hs2 hN
    by_cases s16 : x = nI 16
    · refine zz_tableIn hX 1295 (off := 1256) dL_law_39 (by rw [s16]; decide) (by rw [s16]; decide) (by rw [s16]; rfl) (by decide) ?_
      exact L_lamp hX hml S sh mi mr n hl hL hI hc2 hs2 hN
    by_cases s17 : x = nI 17
    · refine zz_tableIn hX 1308 (off := 1269) dL_law_39 (by rw [s17]; decide) (by rw [s17]; decide) (by rw [s17]; rfl) (by decide) ?_
      exact L_cut hX hml S sh mi mr n hl hL hI hc2 hs2 hN
    by_cases s18 : x = nI 18
    · refine zz_tableIn hX 1364 (off := 1325) dL_law_39 (by rw [s18]; decide) (by rw [s18]; decide) (by rw [s18]; rfl) (by decide) ?_
      exact L_cutOut hX hml S sh mi mr n hl hL hI hc2 hs2 hN
    by_cases s19 : x = nI 19
    · refine zz_tableIn hX 1420 (off := 1381) dL_law_39 (by rw [s19]; decide) (by rw [s19]; decide) (by rw [s19]; rfl) (by decide) ?_
      exact L_degree hX hml S sh mi mr n hl hL hI hc2 hs2 hN
    by_cases s20 : x = nI 20
    · refine zz_tableIn hX 1500 (off := 1461) dL_law_39 (by rw [s20]; decide) (by rw [s20]; decide) (by rw [s20]; rfl) (by decide) ?_
      exact L_mouth hX hml S sh mi mr n hl hL hI hc2 hs2 hN
    by_cases s21 : x = nI 21
    · refine zz_tableIn hX 1568 (off := 1529) dL_law_39 (by rw [s21]; decide) (by rw [s21]; decide) (by rw [s21]; rfl) (by decide) ?_
      exact L_place hX hml S sh mi mr n hl hL hI hc2 hs2 hN
    by_cases s22 : x = nI 22
    · refine zz_tableIn hX 1636 (off := 1597) dL_law_39 (by rw [s22]; decide) (by rw [s22]; decide) (by rw [s22]; rfl) (by decide) ?_
      exact L_wants hX hml S sh mi mr n hl hL hI hc2 hs2 hN
    by_cases s23 : x = nI 23
    · refine zz_tableIn hX 1704 (off := 1665) dL_law_39 (by rw [s23]; decide) (by rw [s23]; decide) (by rw [s23]; rfl) (by decide) ?_
      exact L_bars hX hml S sh mi mr n hl hL hI hc2 hs2 hN
    by_cases s24 : x = nI 24
    · refine zz_tableIn hX 1760 (off := 1721) dL_law_39 (by rw [s24]; decide) (by rw [s24]; decide) (by rw [s24]; rfl) (by decide) ?_
      exact L_wears hX hml S sh mi mr n hl hL hI hc2 hs2 hN
    by_cases s25 : x = nI 25
    · refine zz_tableIn hX 1828 (off := 1789) dL_law_39 (by rw [s25]; decide) (by rw [s25]; decide) (by rw [s25]; rfl) (by decide) ?_
      exact L_struck hX hml S sh mi mr n hl hL hI hc2 hs2 hN
    by_cases s26 : x = nI 26
    · refine zz_tableIn hX 1884 (off := 1845) dL_law_39 (by rw [s26]; decide) (by rw [s26]; decide) (by rw [s26]; rfl) (by decide) ?_
      exact L_pose hX hml S sh mi mr n hl hL hI hc2 hs2 hN
    by_cases s27 : x = nI 27
    · refine zz_tableIn hX 1964 (off := 1925) dL_law_39 (by rw [s27]; decide) (by rw [s27]; decide) (by rw [s27]; rfl) (by decide) ?_
      exact L_ofFrame hX hml S sh mi mr n hl hL hI hc2 hs2 hN
    by_cases s28 : x = nI 28
    · refine zz_tableIn hX 2044 (off := 2005) dL_law_39 (by rw [s28]; decide) (by rw [s28]; decide) (by rw [s28]; rfl) (by decide) ?_
      exact L_faults hX hml S sh mi mr n hl hL hI hc2 hs2 hN
    by_cases s29 : x = nI 29
    · refine zz_tableIn hX 2112 (off := 2073) dL_law_39 (by rw [s29]; decide) (by rw [s29]; decide) (by rw [s29]; rfl) (by decide) ?_
      exact L_ofJoint hX hml S sh mi mr n hl hL hI hc2 hs2 hN
    by_cases s30 : x = nI 30
    · refine zz_tableIn hX 2192 (off := 2153) dL_law_39 (by rw [s30]; decide) (by rw [s30]; decide) (by rw [s30]; rfl) (by decide) ?_
      exact L_left hX hml S sh mi mr n hl hL hI hc2 hs2 hN
    by_cases s31 : x = nI 31
    · refine zz_tableIn hX 2260 (off := 2221) dL_law_39 (by rw [s31]; decide) (by rw [s31]; decide) (by rw [s31]; rfl) (by decide) ?_
      exact L_light hX hml S sh mi mr n hl hL hI hc2 hs2 hN
    by_cases s32 : x = nI 32
    · refine zz_tableIn hX 2273 (off := 2234) dL_law_39 (by rw [s32]; decide) (by rw [s32]; decide) (by rw [s32]; rfl) (by decide) ?_
      exact L_film hX hml S sh mi mr n hl hL hI hc2 hs2 hN
    have t0 := zs_neqn s0 (by decide)
    have t1 := zs_neqn s1 (by decide)
    have t2 := zs_neqn s2 (by decide)
    have t3 := zs_neqn s3 (by decide)
    have t4 := zs_neqn s4 (by decide)
    have t5 := zs_neqn s5 (by decide)
    have t6 := zs_neqn s6 (by decide)
    have t7 := zs_neqn s7 (by decide)
    have t8 := zs_neqn s8 (by decide)
    have t9 := zs_neqn s9 (by decide)
    have t10 := zs_neqn s10 (by decide)
    have t11 := zs_neqn s11 (by decide)
    have t12 := zs_neqn s12 (by decide)
    have t13 := zs_neqn s13 (by decide)
    have t14 := zs_neqn s14 (by decide)
    have t15 := zs_neqn s15 (by decide)
    have t16 := zs_neqn s16 (by decide)
    have t17 := zs_neqn s17 (by decide)
    have t18 := zs_neqn s18 (by decide)
    have t19 := zs_neqn s19 (by decide)
    have t20 := zs_neqn s20 (by decide)
    have t21 := zs_neqn s21 (by decide)
    have t22 := zs_neqn s22 (by decide)
    have t23 := zs_neqn s23 (by decide)
    have t24 := zs_neqn s24 (by decide)
    have t25 := zs_neqn s25 (by decide)
    have t26 := zs_neqn s26 (by decide)
    have t27 := zs_neqn s27 (by decide)
    have t28 := zs_neqn s28 (by decide)
    have t29 := zs_neqn s29 (by decide)
    have t30 := zs_neqn s30 (by decide)
    have t31 := zs_neqn s31 (by decide)
    have t32 := zs_neqn s32 (by decide)
    refine zz_tableOut hX 2329 dL_law_39 (by omega) (by decide) ?_
    exact hN S sh mi mr c s hI (by omega) (by omega)
theorem law_entry (hX : zz_X Γ G RL cL_law 12 601024 7293034) (hml : G.2.2.1 = 7) (hL : G.2.1.2.2.1 ≤ 2560) (hend : ∀ (sh : zm_Sh) (mi : zm_Mi) (mr : zm_Mr) (c s n : Nat), c ≤ 601024 → s ≤ 7293034 → zz Γ G Q c s sh mi mr 2335 (zl_ls n) [])
    (sh : zm_Sh) (mi : zm_Mi) (mr : zm_Mr) (h10 : sh 10 = some (9, 0)) (hf : ∀ l, l ≠ 10 → sh l = none) : zz Γ G Q 0 0 sh mi mr 0 [(0, .ref 10)] [] := by
  have h1 : 1 < G.2.2.1 := by rw [hml]; decide
  have h2 : 2 < G.2.2.1 := by rw [hml]; decide
  have h3 : 3 < G.2.2.1 := by rw [hml]; decide
  have h4 : 4 < G.2.2.1 := by rw [hml]; decide
  refine zz_new hX 2 (hf 2 (by decide)) zf_CL5 zw_cl_L_8 zw_inst_X5 zw_init_X5 (by omega) (by omega) dL_law_0 ?_
  refine zz_dup hX dL_law_3 rfl ?_
  refine zz_callI hX zf_M_L_114 (As := []) (b := 2) (st := [.ref 2]) (k_init0 _ _ _ zm_u1s (fun l hl => (zm_u1n (by omega)).trans (hf l (by omega)))) rfl rfl (by decide) (by decide) (by omega) (by omega) dL_law_4 ?_ (fun _ _ _ _ h _ => h.elim)
  rintro v1 s1 i1 m1 ⟨rfl, hR1, hS1⟩ -
  have k1 : s1 1 = none := (hS1 1 (Or.inl (by decide))).1.trans ((zm_u1n (by decide)).trans (hf 1 (by decide)))
  have k8 : s1 8 = none := (hS1 8 (Or.inr ⟨by decide, by decide⟩)).1.trans ((zm_u1n (by decide)).trans (hf 8 (by decide)))
  have k10 : s1 10 = some (9, 0) := (hS1 10 (Or.inr ⟨by decide, by decide⟩)).1.trans ((zm_u1n (by decide)).trans h10)
  have k100 : ∀ l, 100 ≤ l ∧ l < 131 → s1 l = none := fun l hl => (hS1 l (Or.inr ⟨by omega, by omega⟩)).1.trans ((zm_u1n (by omega)).trans (hf l (by omega)))
  refine zz_astore_n (ls' := [(0, .ref 10), (1, .ref 2)]) hX dL_law_7 rfl h1 rfl ?_
  refine zz_new hX 1 k1 zf_CL6 zw_cl_L_115 zw_inst_X6 zw_init_X6 (by omega) (by omega) dL_law_8 ?_
  refine zz_dup hX dL_law_11 rfl ?_
  refine zz_callI hX zf_M_L_117 (As := []) (b := 1) (st := [.ref 1]) (m_init _ _ _ zm_u1s zm_u1s (fun l hl => (zm_u1n (by omega)).trans (k100 l hl))) rfl rfl (by decide) (by decide) (by omega) (by omega) dL_law_12 ?_ (fun _ _ _ _ h _ => h.elim)
  rintro v2 s2 i2 m2 ⟨rfl, hM2, hS2⟩ -
  have j8 : s2 8 = none := (hS2 8 ⟨by decide, by decide⟩).1.trans ((zm_u1n (by decide)).trans k8)
  have j10 : s2 10 = some (9, 0) := (hS2 10 ⟨by decide, by decide⟩).1.trans ((zm_u1n (by decide)).trans k10)
  refine zz_astore_n (ls' := [(0, .ref 10), (1, .ref 2), (2, .ref 1)]) hX dL_law_15 rfl h2 rfl ?_
  refine zz_iconst (v := nI 1) hX dL_law_16 rfl ?_
  refine zz_newa hX 8 j8 (kd := 3) (n := 1) (Or.inr (Or.inr rfl)) rfl zw_arr_long rfl (by omega) (by omega) (by omega) dL_law_17 ?_
  refine zz_astore_n (ls' := [(0, .ref 10), (1, .ref 2), (2, .ref 1), (3, .ref 8)]) hX dL_law_19 rfl h3 rfl ?_
  refine zz_iconst (v := nI (5 * 0)) hX dL_law_20 rfl ?_
  refine zz_istore (ls' := zl_ls 0) hX dL_law_21 h4 rfl ?_
  refine law_loop hX hml hL (by decide) (by decide) hend 514 0 rfl (by omega) zt_0 _ _ _ _ _ ⟨zW_0, zR_same zW_0 hR1 (fun l hl => ?_), zM_same hM2 (fun l hl => ⟨zm_u1n (by omega), zm_u1n (by omega), zm_u1n (by omega)⟩), zm_u1s, (zm_u1n (by decide)).trans j10⟩ (by omega) (by omega)
  have hl2 : (2 ≤ l ∧ l ≤ 7) ∨ 200 ≤ l := hl
  have g := hS2 l ⟨by omega, by omega⟩
  exact ⟨(zm_u1n (by omega)).trans (g.1.trans (zm_u1n (by omega))), (zm_u1n (by omega)).trans (g.2.1.trans (zm_u1n (by omega))), (zm_u1n (by omega)).trans (g.2.2.trans (zm_u1n (by omega)))⟩
end ZLP
