/-! ===== the steps of isTold ===== -/
theorem zs_r2 {a x b : Nat} (hx : x < 2 ^ 30) (ha : a < 2 ^ 30 := by decide) (hb : b < 2 ^ 30 := by decide) : (nI a ≤ nI x ∧ nI x ≤ nI b) ↔ (a ≤ x ∧ x ≤ b) := by
  rw [nI_leI (by omega) (by omega), nI_leI (by omega) (by omega)]
theorem zs_10 {x : Int32} (h : ¬ x ≤ nI 9) : nI 10 ≤ x := by
  have t9 : (nI 9).toInt = 9 := nI_toInt (by decide)
  have t10 : (nI 10).toInt = 10 := nI_toInt (by decide)
  rw [zs_le, t9] at h; rw [zs_le, t10]; omega
theorem zs_n10 {x : Int32} (h : x ≤ nI 9) : ¬ nI 10 ≤ x := by
  have t9 : (nI 9).toInt = 9 := nI_toInt (by decide)
  have t10 : (nI 10).toInt = 10 := nI_toInt (by decide)
  rw [zs_le, t9] at h; rw [zs_le, t10]; omega
theorem zs_w1 {w n : Nat} (hw : w < 1000) (hn : n < 1000) : nI n ≤ nI w - nI 1 ↔ n + 1 ≤ w := by
  rw [zs_le, pk_sub_toInt (by omega) (by decide), nI_toInt (by omega)]
  omega
theorem zs_wv {w n : Nat} (hw : w < 1000) (hn : n < 1000) : (nI w - nI 1 = -1 ∨ zs_ix (nI w - nI 1) n) ↔ w ≤ n := by
  have t : (nI w - nI 1).toInt = (w : Int) - 1 := pk_sub_toInt (by omega) (by decide)
  have tm : (-1 : Int32).toInt = -1 := by decide
  unfold zs_ix
  rw [zs_eq, t, tm]
  omega
theorem zs_wz {w : Nat} (hw : w < 1000) : zn (nI w - nI 1 + 1) = w := by
  have e : nI w - nI 1 + 1 = nI w := by rw [show (1 : Int32) = nI 1 from rfl, Int32.sub_add_cancel]
  rw [e]; exact nI_clamp (n := w) (by omega)
theorem zs_ixl {t n : Nat} (h : zs_ix (nI t) n) (ht : t < 2 ^ 31) : t < n := by
  unfold zs_ix at h
  rw [nI_toInt ht] at h
  omega
theorem ql_ill_ans {S : zS} (h : zW S) {a : Nat} (ha : a < 5) : S 17 a = nI (ql_iw S / 2 ^ a % 2) := by
  rw [ql_iw_b h ha]
  rcases h.2.2.2.2.2.2.2.2.2 a with e | e <;> rw [e] <;> decide
set_option maxHeartbeats 1000000 in
set_option maxRecDepth 20000 in
theorem T_puppet (n : Nat) (hn : n + 1 ≤ 64) (S : zS) (sh : zm_Sh) (mi : zm_Mi) (mr : zm_Mr) (hI : ql_I n S sh mi) (hR : zR S sh mi mr) (h10 : sh 10 = some (9, 0)) (one two : Nat) (ho : one < 60000) (ht : two < 60000) (h2 : zv_np S < 2) : zz_Con yL_isTold (.code yL_isTold cL_isTold 16 (some Jvm.ClassFile.FieldType.boolean)) 12 10 60 [.ref 2, .ref 100, .ref 102, .ref 103, .ref 104, .ref 109, .int (nI 0), .int (nI one), .int (nI two)] sh mi mr (ql_T n) zz_none := by
  refine zz_begin RL [(0, .ref 2), (1, .ref 100), (2, .ref 102), (3, .ref 103), (4, .ref 104), (5, .ref 109), (6, .int (nI 0)), (7, .int (nI one)), (8, .int (nI two))] (by decide) rfl rfl (Nat.le_of_ble_eq_true rfl) rfl ?_
  intro Γ D E ad hX hr hN hT
  obtain ⟨n1, n2, n3, n4⟩ := ql_num hI
  have hsm := ql_small hI
  refine zz_iload hX dL_isTold_0 6 rfl ?_
  refine zz_if_ne hX 116 dL_isTold_2 (by decide) (fun c => absurd c (by decide)) (fun _ => ?_)
  refine zz_aload hX dL_isTold_5 5 rfl ?_
  refine zz_iconst (v := nI 0) hX dL_isTold_7 rfl ?_
  refine zz_iald (x := nI (zv_np S)) hX (ql_s109 hI) 0 rfl (by decide) (by decide) ((ql_g0 hI)) dL_isTold_8 ?_
  refine zz_iconst (v := nI 2) hX dL_isTold_9 rfl ?_
  refine zz_icmp_geN hX (by omega) (by decide) 116 dL_isTold_10 (by decide) (fun c10 => absurd c10 (by omega)) (fun c10 => ?_)
  have K40 : ∀ x : Nat, (x = 0 ∨ x = 7 ∨ (1 ≤ x ∧ x ≤ 3)) → zz Γ (D, E, 16, ad, sh) (zz_End Γ (D, E, 16, ad, sh) (ql_T n) zz_none 10 60) 0 0 sh mi mr 40 [(0, .ref 2), (1, .ref 100), (2, .ref 102), (3, .ref 103), (4, .ref 104), (5, .ref 109), (6, .int (nI 0)), (7, .int (nI one)), (8, .int (nI two))] [.int (nI x)] := by
    intro x hx
    refine zz_istore (ls' := [(0, .ref 2), (1, .ref 100), (2, .ref 102), (3, .ref 103), (4, .ref 104), (5, .ref 109), (6, .int (nI 0)), (7, .int (nI one)), (8, .int (nI two)), (9, .int (nI x))]) hX dL_isTold_40 (Nat.le_of_ble_eq_true rfl) rfl ?_
    by_cases g0 : 0 < x ∧ x < 4
    · skip
      refine zz_iload hX dL_isTold_42 9 rfl ?_
      refine zz_if_leN hX (by omega) 57 dL_isTold_44 (by decide) (fun c44 => absurd c44 (by omega)) (fun c44 => ?_)
      refine zz_iload hX dL_isTold_47 9 rfl ?_
      refine zz_iconst (v := nI 4) hX dL_isTold_49 rfl ?_
      refine zz_icmp_geN hX (by omega) (by decide) 57 dL_isTold_50 (by decide) (fun c50 => absurd c50 (by omega)) (fun c50 => ?_)
      refine zz_iconst (v := nI 1) hX dL_isTold_53 rfl ?_
      refine zz_goto hX 58 dL_isTold_54 (by decide) ?_
      refine zz_istore (ls' := [(0, .ref 2), (1, .ref 100), (2, .ref 102), (3, .ref 103), (4, .ref 104), (5, .ref 109), (6, .int (nI 0)), (7, .int (nI one)), (8, .int (nI two)), (9, .int (nI x)), (10, .int (nI 1))]) hX dL_isTold_58 (Nat.le_of_ble_eq_true rfl) rfl ?_
      refine zz_iload hX dL_isTold_60 10 rfl ?_
      refine zz_if_eq hX 81 dL_isTold_62 (by decide) (fun c => absurd c (by decide)) (fun _ => ?_)
      refine zz_aload_n hX dL_isTold_65 1 rfl rfl ?_
      refine zz_aload hX dL_isTold_66 5 rfl ?_
      refine zz_iconst (v := nI 0) hX dL_isTold_68 rfl ?_
      refine zz_iald (x := nI (zv_np S)) hX (ql_s109 hI) 0 rfl (by decide) (by decide) ((ql_g0 hI)) dL_isTold_69 ?_
      refine zz_iload hX dL_isTold_70 9 rfl ?_
      refine zz_iast hX (ql_s100 hI) (zv_np S) rfl (by omega) (by decide) dL_isTold_72 ?_
      refine zz_aload hX dL_isTold_73 5 rfl ?_
      refine zz_iconst (v := nI 0) hX dL_isTold_75 rfl ?_
      refine zz_dup2 hX dL_isTold_76 rfl rfl ?_
      refine zz_iald (x := nI (zv_np S)) hX (ql_s109 hI) 0 rfl (by decide) (by decide) (((zm_u2l (by decide))).trans ((ql_g0 hI))) dL_isTold_77 ?_
      refine zz_iconst (v := nI 1) hX dL_isTold_78 rfl ?_
      refine zz_iadd (z := nI (zv_np S + 1)) hX dL_isTold_79 (nI_add _ _) ?_
      refine zz_iast hX (ql_s109 hI) 0 rfl (by decide) (by decide) dL_isTold_80 ?_
      refine zz_aload_n hX dL_isTold_81 0 rfl rfl ?_
      refine zz_iconst (v := nI 0) hX dL_isTold_82 rfl ?_
      refine zz_iload hX dL_isTold_83 9 rfl ?_
      refine zz_iconst (v := nI 0) hX dL_isTold_85 rfl ?_
      refine zz_iconst (v := nI 0) hX dL_isTold_86 rfl ?_
      refine zz_iconst (v := nI 0) hX dL_isTold_87 rfl ?_
      have hB9 : nI 1 ≤ nI x ∧ nI x ≤ nI 6 := (zs_r2 (by omega)).mpr (by omega)
      have hC9 : zv_np S < 5 := by omega
      refine zz_callSH hX zf_M_L_161 (As := [.ref 2, .int (nI 0), .int (nI x), .int (nI 0), .int (nI 0), .int (nI 0)]) (st := []) (D_puppet S sh (zm_u2 (zm_u2 mi 100 (zv_np S) (nI x)) 109 0 (nI (zv_np S + 1))) mr (ql_W hI) (ql_R_f (ql_W hI) hR (M := (zm_u2 (zm_u2 mi 100 (zv_np S) (nI x)) 109 0 (nI (zv_np S + 1)))) (fun l hl => (zm_u2r (by omega)).trans (zm_u2r (by omega)))) (nI x) (nI 0) (nI 0) (nI 0)) rfl rfl (by decide) (Nat.le_of_ble_eq_true rfl) (Nat.le_of_ble_eq_true rfl) (Nat.le_of_ble_eq_true rfl) dL_isTold_88 ?_ (fun _ _ _ _ h _ => h.elim)
      rintro v9 s9 i9 m9 ⟨k9, rfl, hk9, hS9⟩ -
      obtain ⟨e9, hR9⟩ := zq_d1 hk9 trivial hB9 hC9
      obtain rfl := e9.symm
      refine zz_iload hX dL_isTold_91 10 rfl ?_
      refine zz_if_eq hX 105 dL_isTold_93 (by decide) (fun c => absurd c (by decide)) (fun _ => ?_)
      refine zz_aload hX dL_isTold_96 5 rfl ?_
      refine zz_iconst (v := nI 0) hX dL_isTold_98 rfl ?_
      refine zz_iald (x := nI (zv_np S + 1)) hX ((hS9 109 (by unfold zr_out; omega)).1.trans (ql_s109 hI)) 0 rfl (by decide) (by decide) ((congrFun (hS9 109 (by unfold zr_out; omega)).2.1 _).trans (zm_u2s)) dL_isTold_99 ?_
      refine zz_iconst (v := nI 1) hX dL_isTold_100 rfl ?_
      refine zz_isub (z := nI (zv_np S + 1 - 1)) hX dL_isTold_101 (pk_sub (by omega)) ?_
      refine zz_goto hX 107 dL_isTold_102 (by decide) ?_
      refine zz_icmp_neN hX (by omega) (by omega) 114 dL_isTold_107 (by decide) (fun c107 => absurd c107 (by omega)) (fun c107 => ?_)
      refine zz_iconst (v := nI 1) hX dL_isTold_110 rfl ?_
      refine zz_goto hX 115 dL_isTold_111 (by decide) ?_
      refine zz_iret hX hr rfl (Nat.le_of_ble_eq_true rfl) (Nat.le_of_ble_eq_true rfl) dL_isTold_115 ?_
      exact ⟨rfl, ⟨_, ql_J_end hn (U_puppet (ql_W hI) _ trivial hB9 hC9) (ql_B_puppet (ql_BB hI) (by omega) (by omega)) (ql_N_puppet hI.2.2.2 (by omega) (fun a ha => (ql_shot hI ha).2.1)) hR9 hS9⟩, ql_10 h10 hS9⟩
    · skip
      refine zz_iload hX dL_isTold_42 9 rfl ?_
      refine zz_if_leN hX (by omega) 57 dL_isTold_44 (by decide) (fun c44 => ?_) (fun c44 => ?_)
      · skip
        refine zz_iconst (v := nI 0) hX dL_isTold_57 rfl ?_
        refine zz_istore (ls' := [(0, .ref 2), (1, .ref 100), (2, .ref 102), (3, .ref 103), (4, .ref 104), (5, .ref 109), (6, .int (nI 0)), (7, .int (nI one)), (8, .int (nI two)), (9, .int (nI x)), (10, .int (nI 0))]) hX dL_isTold_58 (Nat.le_of_ble_eq_true rfl) rfl ?_
        refine zz_iload hX dL_isTold_60 10 rfl ?_
        refine zz_if_eq hX 81 dL_isTold_62 (by decide) (fun _ => ?_) (fun c => absurd c (by decide))
        refine zz_aload_n hX dL_isTold_81 0 rfl rfl ?_
        refine zz_iconst (v := nI 0) hX dL_isTold_82 rfl ?_
        refine zz_iload hX dL_isTold_83 9 rfl ?_
        refine zz_iconst (v := nI 0) hX dL_isTold_85 rfl ?_
        refine zz_iconst (v := nI 0) hX dL_isTold_86 rfl ?_
        refine zz_iconst (v := nI 0) hX dL_isTold_87 rfl ?_
        refine zz_callSH hX zf_M_L_161 (As := [.ref 2, .int (nI 0), .int (nI x), .int (nI 0), .int (nI 0), .int (nI 0)]) (st := []) (D_puppet S sh mi mr (ql_W hI) (ql_R_f (ql_W hI) hR (M := mi) (fun l hl => rfl)) (nI x) (nI 0) (nI 0) (nI 0)) rfl rfl (by decide) (Nat.le_of_ble_eq_true rfl) (Nat.le_of_ble_eq_true rfl) (Nat.le_of_ble_eq_true rfl) dL_isTold_88 ?_ (fun _ _ _ _ h _ => h.elim)
        rintro v9 s9 i9 m9 ⟨k9, rfl, hk9, hS9⟩ -
        obtain ⟨e9, hR9⟩ := zq_d3 hk9 trivial (fun h => by have h2 := (zs_r2 (x := x) (by omega)).mp h; omega)
        obtain rfl := e9.symm
        refine zz_iload hX dL_isTold_91 10 rfl ?_
        refine zz_if_eq hX 105 dL_isTold_93 (by decide) (fun _ => ?_) (fun c => absurd c (by decide))
        refine zz_ldc (v := -2000000) hX zw_con_L_87 dL_isTold_105 ?_
        refine zz_icmp_ne hX 114 dL_isTold_107 (by decide) (fun c => absurd c (by decide)) (fun _ => ?_)
        refine zz_iconst (v := nI 1) hX dL_isTold_110 rfl ?_
        refine zz_goto hX 115 dL_isTold_111 (by decide) ?_
        refine zz_iret hX hr rfl (Nat.le_of_ble_eq_true rfl) (Nat.le_of_ble_eq_true rfl) dL_isTold_115 ?_
        exact ⟨rfl, ⟨_, ql_J_end hn (ql_W hI) (ql_B_mono (ql_BB hI) (by omega)) hI.2.2.2 hR9 hS9⟩, ql_10 h10 hS9⟩
      · skip
        refine zz_iload hX dL_isTold_47 9 rfl ?_
        refine zz_iconst (v := nI 4) hX dL_isTold_49 rfl ?_
        refine zz_icmp_geN hX (by omega) (by decide) 57 dL_isTold_50 (by decide) (fun c50 => ?_) (fun c50 => absurd c50 (by omega))
        refine zz_iconst (v := nI 0) hX dL_isTold_57 rfl ?_
        refine zz_istore (ls' := [(0, .ref 2), (1, .ref 100), (2, .ref 102), (3, .ref 103), (4, .ref 104), (5, .ref 109), (6, .int (nI 0)), (7, .int (nI one)), (8, .int (nI two)), (9, .int (nI x)), (10, .int (nI 0))]) hX dL_isTold_58 (Nat.le_of_ble_eq_true rfl) rfl ?_
        refine zz_iload hX dL_isTold_60 10 rfl ?_
        refine zz_if_eq hX 81 dL_isTold_62 (by decide) (fun _ => ?_) (fun c => absurd c (by decide))
        refine zz_aload_n hX dL_isTold_81 0 rfl rfl ?_
        refine zz_iconst (v := nI 0) hX dL_isTold_82 rfl ?_
        refine zz_iload hX dL_isTold_83 9 rfl ?_
        refine zz_iconst (v := nI 0) hX dL_isTold_85 rfl ?_
        refine zz_iconst (v := nI 0) hX dL_isTold_86 rfl ?_
        refine zz_iconst (v := nI 0) hX dL_isTold_87 rfl ?_
        refine zz_callSH hX zf_M_L_161 (As := [.ref 2, .int (nI 0), .int (nI x), .int (nI 0), .int (nI 0), .int (nI 0)]) (st := []) (D_puppet S sh mi mr (ql_W hI) (ql_R_f (ql_W hI) hR (M := mi) (fun l hl => rfl)) (nI x) (nI 0) (nI 0) (nI 0)) rfl rfl (by decide) (Nat.le_of_ble_eq_true rfl) (Nat.le_of_ble_eq_true rfl) (Nat.le_of_ble_eq_true rfl) dL_isTold_88 ?_ (fun _ _ _ _ h _ => h.elim)
        rintro v9 s9 i9 m9 ⟨k9, rfl, hk9, hS9⟩ -
        obtain ⟨e9, hR9⟩ := zq_d3 hk9 trivial (fun h => by have h2 := (zs_r2 (x := x) (by omega)).mp h; omega)
        obtain rfl := e9.symm
        refine zz_iload hX dL_isTold_91 10 rfl ?_
        refine zz_if_eq hX 105 dL_isTold_93 (by decide) (fun _ => ?_) (fun c => absurd c (by decide))
        refine zz_ldc (v := -2000000) hX zw_con_L_87 dL_isTold_105 ?_
        refine zz_icmp_ne hX 114 dL_isTold_107 (by decide) (fun c => absurd c (by decide)) (fun _ => ?_)
        refine zz_iconst (v := nI 1) hX dL_isTold_110 rfl ?_
        refine zz_goto hX 115 dL_isTold_111 (by decide) ?_
        refine zz_iret hX hr rfl (Nat.le_of_ble_eq_true rfl) (Nat.le_of_ble_eq_true rfl) dL_isTold_115 ?_
        exact ⟨rfl, ⟨_, ql_J_end hn (ql_W hI) (ql_B_mono (ql_BB hI) (by omega)) hI.2.2.2 hR9 hS9⟩, ql_10 h10 hS9⟩
  refine zz_iload hX dL_isTold_13 7 rfl ?_
  refine zz_bipush (v := nI 9) hX dL_isTold_15 rfl ?_
  refine zz_irem (z := nI (one % 9)) hX dL_isTold_17 (by decide) (pk_rem (by omega) (by decide) (by decide)) ?_
  refine zz_if_neN hX (by omega) 34 dL_isTold_18 (by decide) (fun c18 => ?_) (fun c18 => ?_)
  · skip
    refine zz_iconst (v := nI 1) hX dL_isTold_34 rfl ?_
    refine zz_iload hX dL_isTold_35 7 rfl ?_
    refine zz_iconst (v := nI 3) hX dL_isTold_37 rfl ?_
    refine zz_irem (z := nI (one % 3)) hX dL_isTold_38 (by decide) (pk_rem (by omega) (by decide) (by decide)) ?_
    refine zz_iadd (z := nI (1 + one % 3)) hX dL_isTold_39 (nI_add _ _) ?_
    exact K40 (1 + one % 3) (by omega)
  · skip
    refine zz_iload hX dL_isTold_21 7 rfl ?_
    refine zz_bipush (v := nI 9) hX dL_isTold_23 rfl ?_
    refine zz_idiv (z := nI (one / 9)) hX dL_isTold_25 (by decide) (pk_div (by omega) (by decide) (by decide)) ?_
    refine zz_iconst (v := nI 2) hX dL_isTold_26 rfl ?_
    refine zz_irem (z := nI ((one / 9) % 2)) hX dL_isTold_27 (by decide) (pk_rem (by omega) (by decide) (by decide)) ?_
    refine zz_bipush (v := nI 7) hX dL_isTold_28 rfl ?_
    refine zz_imul (z := nI (((one / 9) % 2) * 7)) hX dL_isTold_30 (pk_mul _ _) ?_
    refine zz_goto hX 40 dL_isTold_31 (by decide) ?_
    exact K40 (((one / 9) % 2) * 7) (by omega)

set_option maxHeartbeats 1000000 in
set_option maxRecDepth 20000 in
theorem T_mouths0 (n : Nat) (hn : n + 1 ≤ 64) (S : zS) (sh : zm_Sh) (mi : zm_Mi) (mr : zm_Mr) (hI : ql_I n S sh mi) (hR : zR S sh mi mr) (h10 : sh 10 = some (9, 0)) (one two : Nat) (ho : one < 60000) (ht : two < 60000) (h2 : ¬ zv_np S < 2) : zz_Con yL_isTold (.code yL_isTold cL_isTold 16 (some Jvm.ClassFile.FieldType.boolean)) 12 10 60 [.ref 2, .ref 100, .ref 102, .ref 103, .ref 104, .ref 109, .int (nI 0), .int (nI one), .int (nI two)] sh mi mr (ql_T n) zz_none := by
  refine zz_begin RL [(0, .ref 2), (1, .ref 100), (2, .ref 102), (3, .ref 103), (4, .ref 104), (5, .ref 109), (6, .int (nI 0)), (7, .int (nI one)), (8, .int (nI two))] (by decide) rfl rfl (Nat.le_of_ble_eq_true rfl) rfl ?_
  intro Γ D E ad hX hr hN hT
  obtain ⟨n1, n2, n3, n4⟩ := ql_num hI
  have hsm := ql_small hI
  refine zz_iload hX dL_isTold_0 6 rfl ?_
  refine zz_if_ne hX 116 dL_isTold_2 (by decide) (fun c => absurd c (by decide)) (fun _ => ?_)
  refine zz_aload hX dL_isTold_5 5 rfl ?_
  refine zz_iconst (v := nI 0) hX dL_isTold_7 rfl ?_
  refine zz_iald (x := nI (zv_np S)) hX (ql_s109 hI) 0 rfl (by decide) (by decide) ((ql_g0 hI)) dL_isTold_8 ?_
  refine zz_iconst (v := nI 2) hX dL_isTold_9 rfl ?_
  refine zz_icmp_geN hX (by omega) (by decide) 116 dL_isTold_10 (by decide) (fun c10 => ?_) (fun c10 => absurd c10 (by omega))
  refine zz_iload hX dL_isTold_116 7 rfl ?_
  refine zz_aload hX dL_isTold_118 5 rfl ?_
  refine zz_iconst (v := nI 0) hX dL_isTold_120 rfl ?_
  refine zz_iald (x := nI (zv_np S)) hX (ql_s109 hI) 0 rfl (by decide) (by decide) ((ql_g0 hI)) dL_isTold_121 ?_
  refine zz_iconst (v := nI 1) hX dL_isTold_122 rfl ?_
  refine zz_iadd (z := nI (zv_np S + 1)) hX dL_isTold_123 (nI_add _ _) ?_
  refine zz_irem (z := nI (one % (zv_np S + 1))) hX dL_isTold_124 (nI_ne0 (by omega) (by omega)) (pk_rem (by omega) (by omega) (by omega)) ?_
  have ht9 : one % (zv_np S + 1) < zv_np S + 1 := Nat.mod_lt _ (by omega)
  generalize one % (zv_np S + 1) = t at ht9 ⊢
  have z_t : zn (nI t) = t := nI_clamp (n := t) (by omega)
  refine zz_istore (ls' := [(0, .ref 2), (1, .ref 100), (2, .ref 102), (3, .ref 103), (4, .ref 104), (5, .ref 109), (6, .int (nI 0)), (7, .int (nI one)), (8, .int (nI two)), (9, .int (nI t))]) hX dL_isTold_125 (Nat.le_of_ble_eq_true rfl) rfl ?_
  refine zz_iload hX dL_isTold_127 6 rfl ?_
  refine zz_iconst (v := nI 2) hX dL_isTold_129 rfl ?_
  refine zz_icmp_ge hX 360 dL_isTold_130 (by decide) (fun c => absurd c (by decide)) (fun _ => ?_)
  have K152 : ∀ y : Nat, y ≤ 10 → zz Γ (D, E, 16, ad, sh) (zz_End Γ (D, E, 16, ad, sh) (ql_T n) zz_none 10 60) 0 0 sh mi mr 152 [(0, .ref 2), (1, .ref 100), (2, .ref 102), (3, .ref 103), (4, .ref 104), (5, .ref 109), (6, .int (nI 0)), (7, .int (nI one)), (8, .int (nI two)), (9, .int (nI t))] [.int (nI y)] := by
    intro y hy
    refine zz_istore (ls' := [(0, .ref 2), (1, .ref 100), (2, .ref 102), (3, .ref 103), (4, .ref 104), (5, .ref 109), (6, .int (nI 0)), (7, .int (nI one)), (8, .int (nI two)), (9, .int (nI t)), (10, .int (nI y))]) hX dL_isTold_152 (Nat.le_of_ble_eq_true rfl) rfl ?_
    have K187 : ∀ x : Nat, x ≤ 10 → zz Γ (D, E, 16, ad, sh) (zz_End Γ (D, E, 16, ad, sh) (ql_T n) zz_none 10 60) 0 0 sh mi mr 187 [(0, .ref 2), (1, .ref 100), (2, .ref 102), (3, .ref 103), (4, .ref 104), (5, .ref 109), (6, .int (nI 0)), (7, .int (nI one)), (8, .int (nI two)), (9, .int (nI t)), (10, .int (nI y))] [.int (nI x)] := by
      intro x hx
      have z_y : zn (nI y) = y := nI_clamp (n := y) (by omega)
      refine zz_istore (ls' := [(0, .ref 2), (1, .ref 100), (2, .ref 102), (3, .ref 103), (4, .ref 104), (5, .ref 109), (6, .int (nI 0)), (7, .int (nI one)), (8, .int (nI two)), (9, .int (nI t)), (10, .int (nI y)), (11, .int (nI x))]) hX dL_isTold_187 (Nat.le_of_ble_eq_true rfl) rfl ?_
      by_cases g0 : t < zv_np S
      · skip
        by_cases g1 : y < 10 ∧ 0 < x ∧ x < 10
        · skip
          by_cases g2 : S 4 (10 * t + y) + nI x ≤ nI 9
          · skip
            refine zz_iload hX dL_isTold_189 9 rfl ?_
            refine zz_aload hX dL_isTold_191 5 rfl ?_
            refine zz_iconst (v := nI 0) hX dL_isTold_193 rfl ?_
            refine zz_iald (x := nI (zv_np S)) hX (ql_s109 hI) 0 rfl (by decide) (by decide) ((ql_g0 hI)) dL_isTold_194 ?_
            refine zz_icmp_geN hX (by omega) (by omega) 202 dL_isTold_195 (by decide) (fun c195 => absurd c195 (by omega)) (fun c195 => ?_)
            refine zz_iconst (v := nI 1) hX dL_isTold_198 rfl ?_
            refine zz_goto hX 203 dL_isTold_199 (by decide) ?_
            refine zz_istore (ls' := [(0, .ref 2), (1, .ref 100), (2, .ref 102), (3, .ref 103), (4, .ref 104), (5, .ref 109), (6, .int (nI 0)), (7, .int (nI one)), (8, .int (nI two)), (9, .int (nI t)), (10, .int (nI y)), (11, .int (nI x)), (12, .int (nI 1))]) hX dL_isTold_203 (Nat.le_of_ble_eq_true rfl) rfl ?_
            refine zz_iload hX dL_isTold_205 10 rfl ?_
            refine zz_bipush (v := nI 10) hX dL_isTold_207 rfl ?_
            refine zz_icmp_geN hX (by omega) (by decide) 228 dL_isTold_209 (by decide) (fun c209 => absurd c209 (by omega)) (fun c209 => ?_)
            refine zz_iload hX dL_isTold_212 11 rfl ?_
            refine zz_if_leN hX (by omega) 228 dL_isTold_214 (by decide) (fun c214 => absurd c214 (by omega)) (fun c214 => ?_)
            refine zz_iload hX dL_isTold_217 11 rfl ?_
            refine zz_bipush (v := nI 10) hX dL_isTold_219 rfl ?_
            refine zz_icmp_geN hX (by omega) (by decide) 228 dL_isTold_221 (by decide) (fun c221 => absurd c221 (by omega)) (fun c221 => ?_)
            refine zz_iconst (v := nI 1) hX dL_isTold_224 rfl ?_
            refine zz_goto hX 229 dL_isTold_225 (by decide) ?_
            refine zz_istore (ls' := [(0, .ref 2), (1, .ref 100), (2, .ref 102), (3, .ref 103), (4, .ref 104), (5, .ref 109), (6, .int (nI 0)), (7, .int (nI one)), (8, .int (nI two)), (9, .int (nI t)), (10, .int (nI y)), (11, .int (nI x)), (12, .int (nI 1)), (13, .int (nI 1))]) hX dL_isTold_229 (Nat.le_of_ble_eq_true rfl) rfl ?_
            refine zz_iload hX dL_isTold_231 12 rfl ?_
            refine zz_if_eq hX 254 dL_isTold_233 (by decide) (fun c => absurd c (by decide)) (fun _ => ?_)
            refine zz_iload hX dL_isTold_236 10 rfl ?_
            refine zz_bipush (v := nI 10) hX dL_isTold_238 rfl ?_
            refine zz_icmp_geN hX (by omega) (by decide) 254 dL_isTold_240 (by decide) (fun c240 => absurd c240 (by omega)) (fun c240 => ?_)
            refine zz_bipush (v := nI 10) hX dL_isTold_243 rfl ?_
            refine zz_iload hX dL_isTold_245 9 rfl ?_
            refine zz_imul (z := nI (10 * t)) hX dL_isTold_247 (pk_mul _ _) ?_
            refine zz_iload hX dL_isTold_248 10 rfl ?_
            refine zz_iadd (z := nI (10 * t + y)) hX dL_isTold_250 (nI_add _ _) ?_
            refine zz_goto hX 256 dL_isTold_251 (by decide) ?_
            refine zz_istore (ls' := [(0, .ref 2), (1, .ref 100), (2, .ref 102), (3, .ref 103), (4, .ref 104), (5, .ref 109), (6, .int (nI 0)), (7, .int (nI one)), (8, .int (nI two)), (9, .int (nI t)), (10, .int (nI y)), (11, .int (nI x)), (12, .int (nI 1)), (13, .int (nI 1)), (14, .int (nI (10 * t + y)))]) hX dL_isTold_256 (Nat.le_of_ble_eq_true rfl) rfl ?_
            refine zz_iload hX dL_isTold_258 12 rfl ?_
            refine zz_if_eq hX 284 dL_isTold_260 (by decide) (fun c => absurd c (by decide)) (fun _ => ?_)
            refine zz_iload hX dL_isTold_263 13 rfl ?_
            refine zz_if_eq hX 284 dL_isTold_265 (by decide) (fun c => absurd c (by decide)) (fun _ => ?_)
            refine zz_aload_n hX dL_isTold_268 2 rfl rfl ?_
            refine zz_iload hX dL_isTold_269 14 rfl ?_
            refine zz_iald (x := S 4 (10 * t + y)) hX (ql_s102 hI) (10 * t + y) rfl (by omega) (by decide) ((ql_Nm hI t y (by omega) (by omega))) dL_isTold_271 ?_
            refine zz_iload hX dL_isTold_272 11 rfl ?_
            refine zz_iadd (z := (S 4 (10 * t + y)) + (nI x)) hX dL_isTold_274 rfl ?_
            refine zz_bipush (v := nI 10) hX dL_isTold_275 rfl ?_
            refine zz_icmp_ge hX 284 dL_isTold_277 (by decide) (fun c277 => absurd c277 (zs_n10 g2)) (fun c277 => ?_)
            refine zz_iconst (v := nI 1) hX dL_isTold_280 rfl ?_
            refine zz_goto hX 285 dL_isTold_281 (by decide) ?_
            refine zz_istore (ls' := [(0, .ref 2), (1, .ref 100), (2, .ref 102), (3, .ref 103), (4, .ref 104), (5, .ref 109), (6, .int (nI 0)), (7, .int (nI one)), (8, .int (nI two)), (9, .int (nI t)), (10, .int (nI y)), (11, .int (nI x)), (12, .int (nI 1)), (13, .int (nI 1)), (14, .int (nI (10 * t + y))), (15, .int (nI 1))]) hX dL_isTold_285 (Nat.le_of_ble_eq_true rfl) rfl ?_
            refine zz_aload_n hX dL_isTold_287 2 rfl rfl ?_
            refine zz_iload hX dL_isTold_288 14 rfl ?_
            refine zz_dup2 hX dL_isTold_290 rfl rfl ?_
            refine zz_iald (x := S 4 (10 * t + y)) hX (ql_s102 hI) (10 * t + y) rfl (by omega) (by decide) ((ql_Nm hI t y (by omega) (by omega))) dL_isTold_291 ?_
            refine zz_iload hX dL_isTold_292 15 rfl ?_
            refine zz_if_eq hX 302 dL_isTold_294 (by decide) (fun c => absurd c (by decide)) (fun _ => ?_)
            refine zz_iload hX dL_isTold_297 11 rfl ?_
            refine zz_goto hX 303 dL_isTold_299 (by decide) ?_
            refine zz_iadd (z := (S 4 (10 * t + y)) + (nI x)) hX dL_isTold_303 rfl ?_
            refine zz_iast hX (ql_s102 hI) (10 * t + y) rfl (by omega) (by decide) dL_isTold_304 ?_
            refine zz_aload_n hX dL_isTold_305 0 rfl rfl ?_
            refine zz_iconst (v := nI 1) hX dL_isTold_306 rfl ?_
            refine zz_iload hX dL_isTold_307 9 rfl ?_
            refine zz_iload hX dL_isTold_309 10 rfl ?_
            refine zz_iload hX dL_isTold_311 11 rfl ?_
            refine zz_iconst (v := nI 0) hX dL_isTold_313 rfl ?_
            have hA9 : zs_ix (nI t) (zv_np S) := zs_ix_nI g0 (by omega)
            have hB9 : (nI 0 ≤ nI y ∧ nI y ≤ nI 9) ∧ (nI 1 ≤ nI x ∧ nI x ≤ nI 9) := ⟨(zs_r2 (by omega)).mpr (by omega), (zs_r2 (by omega)).mpr (by omega)⟩
            have hC9 : S 4 (10 * zn (nI t) + zn (nI y)) + nI x ≤ nI 9 := by rw [z_t, z_y]; exact g2
            refine zz_callSH hX zf_M_L_161 (As := [.ref 2, .int (nI 1), .int (nI t), .int (nI y), .int (nI x), .int (nI 0)]) (st := []) (D_mouths S sh (zm_u2 mi 102 (10 * t + y) ((S 4 (10 * t + y)) + (nI x))) mr (ql_W hI) (ql_R_f (ql_W hI) hR (M := (zm_u2 mi 102 (10 * t + y) ((S 4 (10 * t + y)) + (nI x)))) (fun l hl => zm_u2r (by omega))) (nI t) (nI y) (nI x) (nI 0)) rfl rfl (by decide) (Nat.le_of_ble_eq_true rfl) (Nat.le_of_ble_eq_true rfl) (Nat.le_of_ble_eq_true rfl) dL_isTold_314 ?_ (fun _ _ _ _ h _ => h.elim)
            rintro v9 s9 i9 m9 ⟨k9, rfl, hk9, hS9⟩ -
            obtain ⟨e9, hR9⟩ := zq_d1 hk9 hA9 hB9 hC9
            simp only [z_t, z_y] at e9 hR9
            obtain rfl := e9.symm
            refine zz_iload hX dL_isTold_317 12 rfl ?_
            refine zz_if_ne hX 327 dL_isTold_319 (by decide) (fun _ => ?_) (fun c => absurd c (by decide))
            refine zz_iload hX dL_isTold_327 13 rfl ?_
            refine zz_if_ne hX 337 dL_isTold_329 (by decide) (fun _ => ?_) (fun c => absurd c (by decide))
            refine zz_iload hX dL_isTold_337 15 rfl ?_
            refine zz_if_eq hX 349 dL_isTold_339 (by decide) (fun c => absurd c (by decide)) (fun _ => ?_)
            refine zz_aload_n hX dL_isTold_342 2 rfl rfl ?_
            refine zz_iload hX dL_isTold_343 14 rfl ?_
            refine zz_iald (x := (S 4 (10 * t + y)) + (nI x)) hX ((hS9 102 (by unfold zr_out; omega)).1.trans (ql_s102 hI)) (10 * t + y) rfl (by omega) (by decide) ((congrFun (hS9 102 (by unfold zr_out; omega)).2.1 _).trans (zm_u2s)) dL_isTold_345 ?_
            refine zz_goto hX 351 dL_isTold_346 (by decide) ?_
            refine zz_icmp_ne hX 358 dL_isTold_351 (by decide) (fun c351 => absurd rfl c351) (fun c351 => ?_)
            refine zz_iconst (v := nI 1) hX dL_isTold_354 rfl ?_
            refine zz_goto hX 359 dL_isTold_355 (by decide) ?_
            refine zz_iret hX hr rfl (Nat.le_of_ble_eq_true rfl) (Nat.le_of_ble_eq_true rfl) dL_isTold_359 ?_
            exact ⟨rfl, ⟨_, ql_J_end hn (by have z := U_mouths (ql_W hI) (nI t) (nI y) (nI x) hA9 hB9 hC9; simp only [z_t, z_y] at z; exact z) (ql_B_mouths (ql_BB hI) (by omega) g2) (ql_N_m hI.2.2.2 (by omega) (by omega)) hR9 hS9⟩, ql_10 h10 hS9⟩
          · skip
            refine zz_iload hX dL_isTold_189 9 rfl ?_
            refine zz_aload hX dL_isTold_191 5 rfl ?_
            refine zz_iconst (v := nI 0) hX dL_isTold_193 rfl ?_
            refine zz_iald (x := nI (zv_np S)) hX (ql_s109 hI) 0 rfl (by decide) (by decide) ((ql_g0 hI)) dL_isTold_194 ?_
            refine zz_icmp_geN hX (by omega) (by omega) 202 dL_isTold_195 (by decide) (fun c195 => absurd c195 (by omega)) (fun c195 => ?_)
            refine zz_iconst (v := nI 1) hX dL_isTold_198 rfl ?_
            refine zz_goto hX 203 dL_isTold_199 (by decide) ?_
            refine zz_istore (ls' := [(0, .ref 2), (1, .ref 100), (2, .ref 102), (3, .ref 103), (4, .ref 104), (5, .ref 109), (6, .int (nI 0)), (7, .int (nI one)), (8, .int (nI two)), (9, .int (nI t)), (10, .int (nI y)), (11, .int (nI x)), (12, .int (nI 1))]) hX dL_isTold_203 (Nat.le_of_ble_eq_true rfl) rfl ?_
            refine zz_iload hX dL_isTold_205 10 rfl ?_
            refine zz_bipush (v := nI 10) hX dL_isTold_207 rfl ?_
            refine zz_icmp_geN hX (by omega) (by decide) 228 dL_isTold_209 (by decide) (fun c209 => absurd c209 (by omega)) (fun c209 => ?_)
            refine zz_iload hX dL_isTold_212 11 rfl ?_
            refine zz_if_leN hX (by omega) 228 dL_isTold_214 (by decide) (fun c214 => absurd c214 (by omega)) (fun c214 => ?_)
            refine zz_iload hX dL_isTold_217 11 rfl ?_
            refine zz_bipush (v := nI 10) hX dL_isTold_219 rfl ?_
            refine zz_icmp_geN hX (by omega) (by decide) 228 dL_isTold_221 (by decide) (fun c221 => absurd c221 (by omega)) (fun c221 => ?_)
            refine zz_iconst (v := nI 1) hX dL_isTold_224 rfl ?_
            refine zz_goto hX 229 dL_isTold_225 (by decide) ?_
            refine zz_istore (ls' := [(0, .ref 2), (1, .ref 100), (2, .ref 102), (3, .ref 103), (4, .ref 104), (5, .ref 109), (6, .int (nI 0)), (7, .int (nI one)), (8, .int (nI two)), (9, .int (nI t)), (10, .int (nI y)), (11, .int (nI x)), (12, .int (nI 1)), (13, .int (nI 1))]) hX dL_isTold_229 (Nat.le_of_ble_eq_true rfl) rfl ?_
            refine zz_iload hX dL_isTold_231 12 rfl ?_
            refine zz_if_eq hX 254 dL_isTold_233 (by decide) (fun c => absurd c (by decide)) (fun _ => ?_)
            refine zz_iload hX dL_isTold_236 10 rfl ?_
            refine zz_bipush (v := nI 10) hX dL_isTold_238 rfl ?_
            refine zz_icmp_geN hX (by omega) (by decide) 254 dL_isTold_240 (by decide) (fun c240 => absurd c240 (by omega)) (fun c240 => ?_)
            refine zz_bipush (v := nI 10) hX dL_isTold_243 rfl ?_
            refine zz_iload hX dL_isTold_245 9 rfl ?_
            refine zz_imul (z := nI (10 * t)) hX dL_isTold_247 (pk_mul _ _) ?_
            refine zz_iload hX dL_isTold_248 10 rfl ?_
            refine zz_iadd (z := nI (10 * t + y)) hX dL_isTold_250 (nI_add _ _) ?_
            refine zz_goto hX 256 dL_isTold_251 (by decide) ?_
            refine zz_istore (ls' := [(0, .ref 2), (1, .ref 100), (2, .ref 102), (3, .ref 103), (4, .ref 104), (5, .ref 109), (6, .int (nI 0)), (7, .int (nI one)), (8, .int (nI two)), (9, .int (nI t)), (10, .int (nI y)), (11, .int (nI x)), (12, .int (nI 1)), (13, .int (nI 1)), (14, .int (nI (10 * t + y)))]) hX dL_isTold_256 (Nat.le_of_ble_eq_true rfl) rfl ?_
            refine zz_iload hX dL_isTold_258 12 rfl ?_
            refine zz_if_eq hX 284 dL_isTold_260 (by decide) (fun c => absurd c (by decide)) (fun _ => ?_)
            refine zz_iload hX dL_isTold_263 13 rfl ?_
            refine zz_if_eq hX 284 dL_isTold_265 (by decide) (fun c => absurd c (by decide)) (fun _ => ?_)
            refine zz_aload_n hX dL_isTold_268 2 rfl rfl ?_
            refine zz_iload hX dL_isTold_269 14 rfl ?_
            refine zz_iald (x := S 4 (10 * t + y)) hX (ql_s102 hI) (10 * t + y) rfl (by omega) (by decide) ((ql_Nm hI t y (by omega) (by omega))) dL_isTold_271 ?_
            refine zz_iload hX dL_isTold_272 11 rfl ?_
            refine zz_iadd (z := (S 4 (10 * t + y)) + (nI x)) hX dL_isTold_274 rfl ?_
            refine zz_bipush (v := nI 10) hX dL_isTold_275 rfl ?_
            refine zz_icmp_ge hX 284 dL_isTold_277 (by decide) (fun c277 => ?_) (fun c277 => absurd (zs_10 g2) c277)
            refine zz_iconst (v := nI 0) hX dL_isTold_284 rfl ?_
            refine zz_istore (ls' := [(0, .ref 2), (1, .ref 100), (2, .ref 102), (3, .ref 103), (4, .ref 104), (5, .ref 109), (6, .int (nI 0)), (7, .int (nI one)), (8, .int (nI two)), (9, .int (nI t)), (10, .int (nI y)), (11, .int (nI x)), (12, .int (nI 1)), (13, .int (nI 1)), (14, .int (nI (10 * t + y))), (15, .int (nI 0))]) hX dL_isTold_285 (Nat.le_of_ble_eq_true rfl) rfl ?_
            refine zz_aload_n hX dL_isTold_287 2 rfl rfl ?_
            refine zz_iload hX dL_isTold_288 14 rfl ?_
            refine zz_dup2 hX dL_isTold_290 rfl rfl ?_
            refine zz_iald (x := S 4 (10 * t + y)) hX (ql_s102 hI) (10 * t + y) rfl (by omega) (by decide) ((ql_Nm hI t y (by omega) (by omega))) dL_isTold_291 ?_
            refine zz_iload hX dL_isTold_292 15 rfl ?_
            refine zz_if_eq hX 302 dL_isTold_294 (by decide) (fun _ => ?_) (fun c => absurd c (by decide))
            refine zz_iconst (v := nI 0) hX dL_isTold_302 rfl ?_
            refine zz_iadd (z := (S 4 (10 * t + y)) + (nI 0)) hX dL_isTold_303 rfl ?_
            refine zz_iast hX (ql_s102 hI) (10 * t + y) rfl (by omega) (by decide) dL_isTold_304 ?_
            refine zz_aload_n hX dL_isTold_305 0 rfl rfl ?_
            refine zz_iconst (v := nI 1) hX dL_isTold_306 rfl ?_
            refine zz_iload hX dL_isTold_307 9 rfl ?_
            refine zz_iload hX dL_isTold_309 10 rfl ?_
            refine zz_iload hX dL_isTold_311 11 rfl ?_
            refine zz_iconst (v := nI 0) hX dL_isTold_313 rfl ?_
            have hA9 : zs_ix (nI t) (zv_np S) := zs_ix_nI g0 (by omega)
            have hB9 : (nI 0 ≤ nI y ∧ nI y ≤ nI 9) ∧ (nI 1 ≤ nI x ∧ nI x ≤ nI 9) := ⟨(zs_r2 (by omega)).mpr (by omega), (zs_r2 (by omega)).mpr (by omega)⟩
            refine zz_callSH hX zf_M_L_161 (As := [.ref 2, .int (nI 1), .int (nI t), .int (nI y), .int (nI x), .int (nI 0)]) (st := []) (D_mouths S sh (zm_u2 mi 102 (10 * t + y) ((S 4 (10 * t + y)) + (nI 0))) mr (ql_W hI) (ql_R_f (ql_W hI) hR (M := (zm_u2 mi 102 (10 * t + y) ((S 4 (10 * t + y)) + (nI 0)))) (fun l hl => zm_u2r (by omega))) (nI t) (nI y) (nI x) (nI 0)) rfl rfl (by decide) (Nat.le_of_ble_eq_true rfl) (Nat.le_of_ble_eq_true rfl) (Nat.le_of_ble_eq_true rfl) dL_isTold_314 ?_ (fun _ _ _ _ h _ => h.elim)
            rintro v9 s9 i9 m9 ⟨k9, rfl, hk9, hS9⟩ -
            obtain ⟨e9, hR9⟩ := zq_d4 hk9 hA9 hB9 (fun h => g2 (by rw [z_t, z_y] at h; exact h))
            obtain rfl := e9.symm
            refine zz_iload hX dL_isTold_317 12 rfl ?_
            refine zz_if_ne hX 327 dL_isTold_319 (by decide) (fun _ => ?_) (fun c => absurd c (by decide))
            refine zz_iload hX dL_isTold_327 13 rfl ?_
            refine zz_if_ne hX 337 dL_isTold_329 (by decide) (fun _ => ?_) (fun c => absurd c (by decide))
            refine zz_iload hX dL_isTold_337 15 rfl ?_
            refine zz_if_eq hX 349 dL_isTold_339 (by decide) (fun _ => ?_) (fun c => absurd c (by decide))
            refine zz_ldc (v := -1000000) hX zw_con_L_90 dL_isTold_349 ?_
            refine zz_icmp_ne hX 358 dL_isTold_351 (by decide) (fun c => absurd c (by decide)) (fun _ => ?_)
            refine zz_iconst (v := nI 1) hX dL_isTold_354 rfl ?_
            refine zz_goto hX 359 dL_isTold_355 (by decide) ?_
            refine zz_iret hX hr rfl (Nat.le_of_ble_eq_true rfl) (Nat.le_of_ble_eq_true rfl) dL_isTold_359 ?_
            exact ⟨rfl, ⟨_, ql_J_end hn (ql_W hI) (ql_B_mono (ql_BB hI) (by omega)) (by rw [zm_u2_id ((ql_Nm hI t y (by omega) (by omega)).trans zs_add0.symm)]; exact hI.2.2.2) hR9 hS9⟩, ql_10 h10 hS9⟩
        · skip
          refine zz_iload hX dL_isTold_189 9 rfl ?_
          refine zz_aload hX dL_isTold_191 5 rfl ?_
          refine zz_iconst (v := nI 0) hX dL_isTold_193 rfl ?_
          refine zz_iald (x := nI (zv_np S)) hX (ql_s109 hI) 0 rfl (by decide) (by decide) ((ql_g0 hI)) dL_isTold_194 ?_
          refine zz_icmp_geN hX (by omega) (by omega) 202 dL_isTold_195 (by decide) (fun c195 => absurd c195 (by omega)) (fun c195 => ?_)
          refine zz_iconst (v := nI 1) hX dL_isTold_198 rfl ?_
          refine zz_goto hX 203 dL_isTold_199 (by decide) ?_
          refine zz_istore (ls' := [(0, .ref 2), (1, .ref 100), (2, .ref 102), (3, .ref 103), (4, .ref 104), (5, .ref 109), (6, .int (nI 0)), (7, .int (nI one)), (8, .int (nI two)), (9, .int (nI t)), (10, .int (nI y)), (11, .int (nI x)), (12, .int (nI 1))]) hX dL_isTold_203 (Nat.le_of_ble_eq_true rfl) rfl ?_
          have K229 : zz Γ (D, E, 16, ad, sh) (zz_End Γ (D, E, 16, ad, sh) (ql_T n) zz_none 10 60) 0 0 sh mi mr 229 [(0, .ref 2), (1, .ref 100), (2, .ref 102), (3, .ref 103), (4, .ref 104), (5, .ref 109), (6, .int (nI 0)), (7, .int (nI one)), (8, .int (nI two)), (9, .int (nI t)), (10, .int (nI y)), (11, .int (nI x)), (12, .int (nI 1))] [.int (nI 0)] := by
            refine zz_istore (ls' := [(0, .ref 2), (1, .ref 100), (2, .ref 102), (3, .ref 103), (4, .ref 104), (5, .ref 109), (6, .int (nI 0)), (7, .int (nI one)), (8, .int (nI two)), (9, .int (nI t)), (10, .int (nI y)), (11, .int (nI x)), (12, .int (nI 1)), (13, .int (nI 0))]) hX dL_isTold_229 (Nat.le_of_ble_eq_true rfl) rfl ?_
            refine zz_iload hX dL_isTold_231 12 rfl ?_
            refine zz_if_eq hX 254 dL_isTold_233 (by decide) (fun c => absurd c (by decide)) (fun _ => ?_)
            refine zz_iload hX dL_isTold_236 10 rfl ?_
            refine zz_bipush (v := nI 10) hX dL_isTold_238 rfl ?_
            refine zz_icmp_geN hX (by omega) (by decide) 254 dL_isTold_240 (by decide) (fun c240 => ?_) (fun c240 => ?_)
            · skip
              refine zz_bipush (v := nI 20) hX dL_isTold_254 rfl ?_
              refine zz_istore (ls' := [(0, .ref 2), (1, .ref 100), (2, .ref 102), (3, .ref 103), (4, .ref 104), (5, .ref 109), (6, .int (nI 0)), (7, .int (nI one)), (8, .int (nI two)), (9, .int (nI t)), (10, .int (nI y)), (11, .int (nI x)), (12, .int (nI 1)), (13, .int (nI 0)), (14, .int (nI 20))]) hX dL_isTold_256 (Nat.le_of_ble_eq_true rfl) rfl ?_
              refine zz_iload hX dL_isTold_258 12 rfl ?_
              refine zz_if_eq hX 284 dL_isTold_260 (by decide) (fun c => absurd c (by decide)) (fun _ => ?_)
              refine zz_iload hX dL_isTold_263 13 rfl ?_
              refine zz_if_eq hX 284 dL_isTold_265 (by decide) (fun _ => ?_) (fun c => absurd c (by decide))
              refine zz_iconst (v := nI 0) hX dL_isTold_284 rfl ?_
              refine zz_istore (ls' := [(0, .ref 2), (1, .ref 100), (2, .ref 102), (3, .ref 103), (4, .ref 104), (5, .ref 109), (6, .int (nI 0)), (7, .int (nI one)), (8, .int (nI two)), (9, .int (nI t)), (10, .int (nI y)), (11, .int (nI x)), (12, .int (nI 1)), (13, .int (nI 0)), (14, .int (nI 20)), (15, .int (nI 0))]) hX dL_isTold_285 (Nat.le_of_ble_eq_true rfl) rfl ?_
              refine zz_aload_n hX dL_isTold_287 2 rfl rfl ?_
              refine zz_iload hX dL_isTold_288 14 rfl ?_
              refine zz_dup2 hX dL_isTold_290 rfl rfl ?_
              refine zz_iald (x := mi 102 20) hX (ql_s102 hI) 20 rfl (by decide) (by decide) rfl dL_isTold_291 ?_
              refine zz_iload hX dL_isTold_292 15 rfl ?_
              refine zz_if_eq hX 302 dL_isTold_294 (by decide) (fun _ => ?_) (fun c => absurd c (by decide))
              refine zz_iconst (v := nI 0) hX dL_isTold_302 rfl ?_
              refine zz_iadd (z := (mi 102 20) + (nI 0)) hX dL_isTold_303 rfl ?_
              refine zz_iast hX (ql_s102 hI) 20 rfl (by decide) (by decide) dL_isTold_304 ?_
              refine zz_aload_n hX dL_isTold_305 0 rfl rfl ?_
              refine zz_iconst (v := nI 1) hX dL_isTold_306 rfl ?_
              refine zz_iload hX dL_isTold_307 9 rfl ?_
              refine zz_iload hX dL_isTold_309 10 rfl ?_
              refine zz_iload hX dL_isTold_311 11 rfl ?_
              refine zz_iconst (v := nI 0) hX dL_isTold_313 rfl ?_
              have hA9 : zs_ix (nI t) (zv_np S) := zs_ix_nI g0 (by omega)
              refine zz_callSH hX zf_M_L_161 (As := [.ref 2, .int (nI 1), .int (nI t), .int (nI y), .int (nI x), .int (nI 0)]) (st := []) (D_mouths S sh (zm_u2 mi 102 20 ((mi 102 20) + (nI 0))) mr (ql_W hI) (ql_R_f (ql_W hI) hR (M := (zm_u2 mi 102 20 ((mi 102 20) + (nI 0)))) (fun l hl => zm_u2r (by omega))) (nI t) (nI y) (nI x) (nI 0)) rfl rfl (by decide) (Nat.le_of_ble_eq_true rfl) (Nat.le_of_ble_eq_true rfl) (Nat.le_of_ble_eq_true rfl) dL_isTold_314 ?_ (fun _ _ _ _ h _ => h.elim)
              rintro v9 s9 i9 m9 ⟨k9, rfl, hk9, hS9⟩ -
              obtain ⟨e9, hR9⟩ := zq_d3 hk9 hA9 (fun h => by have h1 := (zs_r2 (x := y) (by omega)).mp h.1; have h2 := (zs_r2 (x := x) (by omega)).mp h.2; omega)
              obtain rfl := e9.symm
              refine zz_iload hX dL_isTold_317 12 rfl ?_
              refine zz_if_ne hX 327 dL_isTold_319 (by decide) (fun _ => ?_) (fun c => absurd c (by decide))
              refine zz_iload hX dL_isTold_327 13 rfl ?_
              refine zz_if_ne hX 337 dL_isTold_329 (by decide) (fun c => absurd c (by decide)) (fun _ => ?_)
              refine zz_ldc (v := -2000000) hX zw_con_L_87 dL_isTold_332 ?_
              refine zz_goto hX 351 dL_isTold_334 (by decide) ?_
              refine zz_icmp_ne hX 358 dL_isTold_351 (by decide) (fun c => absurd c (by decide)) (fun _ => ?_)
              refine zz_iconst (v := nI 1) hX dL_isTold_354 rfl ?_
              refine zz_goto hX 359 dL_isTold_355 (by decide) ?_
              refine zz_iret hX hr rfl (Nat.le_of_ble_eq_true rfl) (Nat.le_of_ble_eq_true rfl) dL_isTold_359 ?_
              exact ⟨rfl, ⟨_, ql_J_end hn (ql_W hI) (ql_B_mono (ql_BB hI) (by omega)) (ql_N_g hI.2.2.2 n3 hsm.1 (by unfold ql_gar; omega)) hR9 hS9⟩, ql_10 h10 hS9⟩
            · skip
              refine zz_bipush (v := nI 10) hX dL_isTold_243 rfl ?_
              refine zz_iload hX dL_isTold_245 9 rfl ?_
              refine zz_imul (z := nI (10 * t)) hX dL_isTold_247 (pk_mul _ _) ?_
              refine zz_iload hX dL_isTold_248 10 rfl ?_
              refine zz_iadd (z := nI (10 * t + y)) hX dL_isTold_250 (nI_add _ _) ?_
              refine zz_goto hX 256 dL_isTold_251 (by decide) ?_
              refine zz_istore (ls' := [(0, .ref 2), (1, .ref 100), (2, .ref 102), (3, .ref 103), (4, .ref 104), (5, .ref 109), (6, .int (nI 0)), (7, .int (nI one)), (8, .int (nI two)), (9, .int (nI t)), (10, .int (nI y)), (11, .int (nI x)), (12, .int (nI 1)), (13, .int (nI 0)), (14, .int (nI (10 * t + y)))]) hX dL_isTold_256 (Nat.le_of_ble_eq_true rfl) rfl ?_
              refine zz_iload hX dL_isTold_258 12 rfl ?_
              refine zz_if_eq hX 284 dL_isTold_260 (by decide) (fun c => absurd c (by decide)) (fun _ => ?_)
              refine zz_iload hX dL_isTold_263 13 rfl ?_
              refine zz_if_eq hX 284 dL_isTold_265 (by decide) (fun _ => ?_) (fun c => absurd c (by decide))
              refine zz_iconst (v := nI 0) hX dL_isTold_284 rfl ?_
              refine zz_istore (ls' := [(0, .ref 2), (1, .ref 100), (2, .ref 102), (3, .ref 103), (4, .ref 104), (5, .ref 109), (6, .int (nI 0)), (7, .int (nI one)), (8, .int (nI two)), (9, .int (nI t)), (10, .int (nI y)), (11, .int (nI x)), (12, .int (nI 1)), (13, .int (nI 0)), (14, .int (nI (10 * t + y))), (15, .int (nI 0))]) hX dL_isTold_285 (Nat.le_of_ble_eq_true rfl) rfl ?_
              refine zz_aload_n hX dL_isTold_287 2 rfl rfl ?_
              refine zz_iload hX dL_isTold_288 14 rfl ?_
              refine zz_dup2 hX dL_isTold_290 rfl rfl ?_
              refine zz_iald (x := S 4 (10 * t + y)) hX (ql_s102 hI) (10 * t + y) rfl (by omega) (by decide) ((ql_Nm hI t y (by omega) (by omega))) dL_isTold_291 ?_
              refine zz_iload hX dL_isTold_292 15 rfl ?_
              refine zz_if_eq hX 302 dL_isTold_294 (by decide) (fun _ => ?_) (fun c => absurd c (by decide))
              refine zz_iconst (v := nI 0) hX dL_isTold_302 rfl ?_
              refine zz_iadd (z := (S 4 (10 * t + y)) + (nI 0)) hX dL_isTold_303 rfl ?_
              refine zz_iast hX (ql_s102 hI) (10 * t + y) rfl (by omega) (by decide) dL_isTold_304 ?_
              refine zz_aload_n hX dL_isTold_305 0 rfl rfl ?_
              refine zz_iconst (v := nI 1) hX dL_isTold_306 rfl ?_
              refine zz_iload hX dL_isTold_307 9 rfl ?_
              refine zz_iload hX dL_isTold_309 10 rfl ?_
              refine zz_iload hX dL_isTold_311 11 rfl ?_
              refine zz_iconst (v := nI 0) hX dL_isTold_313 rfl ?_
              have hA9 : zs_ix (nI t) (zv_np S) := zs_ix_nI g0 (by omega)
              refine zz_callSH hX zf_M_L_161 (As := [.ref 2, .int (nI 1), .int (nI t), .int (nI y), .int (nI x), .int (nI 0)]) (st := []) (D_mouths S sh (zm_u2 mi 102 (10 * t + y) ((S 4 (10 * t + y)) + (nI 0))) mr (ql_W hI) (ql_R_f (ql_W hI) hR (M := (zm_u2 mi 102 (10 * t + y) ((S 4 (10 * t + y)) + (nI 0)))) (fun l hl => zm_u2r (by omega))) (nI t) (nI y) (nI x) (nI 0)) rfl rfl (by decide) (Nat.le_of_ble_eq_true rfl) (Nat.le_of_ble_eq_true rfl) (Nat.le_of_ble_eq_true rfl) dL_isTold_314 ?_ (fun _ _ _ _ h _ => h.elim)
              rintro v9 s9 i9 m9 ⟨k9, rfl, hk9, hS9⟩ -
              obtain ⟨e9, hR9⟩ := zq_d3 hk9 hA9 (fun h => by have h1 := (zs_r2 (x := y) (by omega)).mp h.1; have h2 := (zs_r2 (x := x) (by omega)).mp h.2; omega)
              obtain rfl := e9.symm
              refine zz_iload hX dL_isTold_317 12 rfl ?_
              refine zz_if_ne hX 327 dL_isTold_319 (by decide) (fun _ => ?_) (fun c => absurd c (by decide))
              refine zz_iload hX dL_isTold_327 13 rfl ?_
              refine zz_if_ne hX 337 dL_isTold_329 (by decide) (fun c => absurd c (by decide)) (fun _ => ?_)
              refine zz_ldc (v := -2000000) hX zw_con_L_87 dL_isTold_332 ?_
              refine zz_goto hX 351 dL_isTold_334 (by decide) ?_
              refine zz_icmp_ne hX 358 dL_isTold_351 (by decide) (fun c => absurd c (by decide)) (fun _ => ?_)
              refine zz_iconst (v := nI 1) hX dL_isTold_354 rfl ?_
              refine zz_goto hX 359 dL_isTold_355 (by decide) ?_
              refine zz_iret hX hr rfl (Nat.le_of_ble_eq_true rfl) (Nat.le_of_ble_eq_true rfl) dL_isTold_359 ?_
              exact ⟨rfl, ⟨_, ql_J_end hn (ql_W hI) (ql_B_mono (ql_BB hI) (by omega)) (by rw [zm_u2_id ((ql_Nm hI t y (by omega) (by omega)).trans zs_add0.symm)]; exact hI.2.2.2) hR9 hS9⟩, ql_10 h10 hS9⟩
          refine zz_iload hX dL_isTold_205 10 rfl ?_
          refine zz_bipush (v := nI 10) hX dL_isTold_207 rfl ?_
          refine zz_icmp_geN hX (by omega) (by decide) 228 dL_isTold_209 (by decide) (fun c209 => ?_) (fun c209 => ?_)
          · skip
            refine zz_iconst (v := nI 0) hX dL_isTold_228 rfl ?_
            exact zz_top (rfl) K229
          · skip
            refine zz_iload hX dL_isTold_212 11 rfl ?_
            refine zz_if_leN hX (by omega) 228 dL_isTold_214 (by decide) (fun c214 => ?_) (fun c214 => ?_)
            · skip
              refine zz_iconst (v := nI 0) hX dL_isTold_228 rfl ?_
              exact zz_top (rfl) K229
            · skip
              refine zz_iload hX dL_isTold_217 11 rfl ?_
              refine zz_bipush (v := nI 10) hX dL_isTold_219 rfl ?_
              refine zz_icmp_geN hX (by omega) (by decide) 228 dL_isTold_221 (by decide) (fun c221 => ?_) (fun c221 => absurd c221 (by omega))
              refine zz_iconst (v := nI 0) hX dL_isTold_228 rfl ?_
              exact zz_top (rfl) K229
      · skip
        refine zz_iload hX dL_isTold_189 9 rfl ?_
        refine zz_aload hX dL_isTold_191 5 rfl ?_
        refine zz_iconst (v := nI 0) hX dL_isTold_193 rfl ?_
        refine zz_iald (x := nI (zv_np S)) hX (ql_s109 hI) 0 rfl (by decide) (by decide) ((ql_g0 hI)) dL_isTold_194 ?_
        refine zz_icmp_geN hX (by omega) (by omega) 202 dL_isTold_195 (by decide) (fun c195 => ?_) (fun c195 => absurd c195 (by omega))
        refine zz_iconst (v := nI 0) hX dL_isTold_202 rfl ?_
        refine zz_istore (ls' := [(0, .ref 2), (1, .ref 100), (2, .ref 102), (3, .ref 103), (4, .ref 104), (5, .ref 109), (6, .int (nI 0)), (7, .int (nI one)), (8, .int (nI two)), (9, .int (nI t)), (10, .int (nI y)), (11, .int (nI x)), (12, .int (nI 0))]) hX dL_isTold_203 (Nat.le_of_ble_eq_true rfl) rfl ?_
        have K229 : ∀ b : Nat, b ≤ 1 → zz Γ (D, E, 16, ad, sh) (zz_End Γ (D, E, 16, ad, sh) (ql_T n) zz_none 10 60) 0 0 sh mi mr 229 [(0, .ref 2), (1, .ref 100), (2, .ref 102), (3, .ref 103), (4, .ref 104), (5, .ref 109), (6, .int (nI 0)), (7, .int (nI one)), (8, .int (nI two)), (9, .int (nI t)), (10, .int (nI y)), (11, .int (nI x)), (12, .int (nI 0))] [.int (nI b)] := by
          intro b hb
          refine zz_istore (ls' := [(0, .ref 2), (1, .ref 100), (2, .ref 102), (3, .ref 103), (4, .ref 104), (5, .ref 109), (6, .int (nI 0)), (7, .int (nI one)), (8, .int (nI two)), (9, .int (nI t)), (10, .int (nI y)), (11, .int (nI x)), (12, .int (nI 0)), (13, .int (nI b))]) hX dL_isTold_229 (Nat.le_of_ble_eq_true rfl) rfl ?_
          refine zz_iload hX dL_isTold_231 12 rfl ?_
          refine zz_if_eq hX 254 dL_isTold_233 (by decide) (fun _ => ?_) (fun c => absurd c (by decide))
          refine zz_bipush (v := nI 20) hX dL_isTold_254 rfl ?_
          refine zz_istore (ls' := [(0, .ref 2), (1, .ref 100), (2, .ref 102), (3, .ref 103), (4, .ref 104), (5, .ref 109), (6, .int (nI 0)), (7, .int (nI one)), (8, .int (nI two)), (9, .int (nI t)), (10, .int (nI y)), (11, .int (nI x)), (12, .int (nI 0)), (13, .int (nI b)), (14, .int (nI 20))]) hX dL_isTold_256 (Nat.le_of_ble_eq_true rfl) rfl ?_
          refine zz_iload hX dL_isTold_258 12 rfl ?_
          refine zz_if_eq hX 284 dL_isTold_260 (by decide) (fun _ => ?_) (fun c => absurd c (by decide))
          refine zz_iconst (v := nI 0) hX dL_isTold_284 rfl ?_
          refine zz_istore (ls' := [(0, .ref 2), (1, .ref 100), (2, .ref 102), (3, .ref 103), (4, .ref 104), (5, .ref 109), (6, .int (nI 0)), (7, .int (nI one)), (8, .int (nI two)), (9, .int (nI t)), (10, .int (nI y)), (11, .int (nI x)), (12, .int (nI 0)), (13, .int (nI b)), (14, .int (nI 20)), (15, .int (nI 0))]) hX dL_isTold_285 (Nat.le_of_ble_eq_true rfl) rfl ?_
          refine zz_aload_n hX dL_isTold_287 2 rfl rfl ?_
          refine zz_iload hX dL_isTold_288 14 rfl ?_
          refine zz_dup2 hX dL_isTold_290 rfl rfl ?_
          refine zz_iald (x := mi 102 20) hX (ql_s102 hI) 20 rfl (by decide) (by decide) rfl dL_isTold_291 ?_
          refine zz_iload hX dL_isTold_292 15 rfl ?_
          refine zz_if_eq hX 302 dL_isTold_294 (by decide) (fun _ => ?_) (fun c => absurd c (by decide))
          refine zz_iconst (v := nI 0) hX dL_isTold_302 rfl ?_
          refine zz_iadd (z := (mi 102 20) + (nI 0)) hX dL_isTold_303 rfl ?_
          refine zz_iast hX (ql_s102 hI) 20 rfl (by decide) (by decide) dL_isTold_304 ?_
          refine zz_aload_n hX dL_isTold_305 0 rfl rfl ?_
          refine zz_iconst (v := nI 1) hX dL_isTold_306 rfl ?_
          refine zz_iload hX dL_isTold_307 9 rfl ?_
          refine zz_iload hX dL_isTold_309 10 rfl ?_
          refine zz_iload hX dL_isTold_311 11 rfl ?_
          refine zz_iconst (v := nI 0) hX dL_isTold_313 rfl ?_
          refine zz_callSH hX zf_M_L_161 (As := [.ref 2, .int (nI 1), .int (nI t), .int (nI y), .int (nI x), .int (nI 0)]) (st := []) (D_mouths S sh (zm_u2 mi 102 20 ((mi 102 20) + (nI 0))) mr (ql_W hI) (ql_R_f (ql_W hI) hR (M := (zm_u2 mi 102 20 ((mi 102 20) + (nI 0)))) (fun l hl => zm_u2r (by omega))) (nI t) (nI y) (nI x) (nI 0)) rfl rfl (by decide) (Nat.le_of_ble_eq_true rfl) (Nat.le_of_ble_eq_true rfl) (Nat.le_of_ble_eq_true rfl) dL_isTold_314 ?_ (fun _ _ _ _ h _ => h.elim)
          rintro v9 s9 i9 m9 ⟨k9, rfl, hk9, hS9⟩ -
          obtain ⟨e9, hR9⟩ := zq_d2 hk9 (zs_ix_not g0 (by omega))
          obtain rfl := e9.symm
          refine zz_iload hX dL_isTold_317 12 rfl ?_
          refine zz_if_ne hX 327 dL_isTold_319 (by decide) (fun c => absurd c (by decide)) (fun _ => ?_)
          refine zz_ldc (v := -3000000) hX zw_con_L_84 dL_isTold_322 ?_
          refine zz_goto hX 351 dL_isTold_324 (by decide) ?_
          refine zz_icmp_ne hX 358 dL_isTold_351 (by decide) (fun c => absurd c (by decide)) (fun _ => ?_)
          refine zz_iconst (v := nI 1) hX dL_isTold_354 rfl ?_
          refine zz_goto hX 359 dL_isTold_355 (by decide) ?_
          refine zz_iret hX hr rfl (Nat.le_of_ble_eq_true rfl) (Nat.le_of_ble_eq_true rfl) dL_isTold_359 ?_
          exact ⟨rfl, ⟨_, ql_J_end hn (ql_W hI) (ql_B_mono (ql_BB hI) (by omega)) (ql_N_g hI.2.2.2 n3 hsm.1 (by unfold ql_gar; omega)) hR9 hS9⟩, ql_10 h10 hS9⟩
        refine zz_iload hX dL_isTold_205 10 rfl ?_
        refine zz_bipush (v := nI 10) hX dL_isTold_207 rfl ?_
        refine zz_icmp_geN hX (by omega) (by decide) 228 dL_isTold_209 (by decide) (fun c209 => ?_) (fun c209 => ?_)
        · skip
          refine zz_iconst (v := nI 0) hX dL_isTold_228 rfl ?_
          exact K229 0 (by omega)
        · skip
          refine zz_iload hX dL_isTold_212 11 rfl ?_
          refine zz_if_leN hX (by omega) 228 dL_isTold_214 (by decide) (fun c214 => ?_) (fun c214 => ?_)
          · skip
            refine zz_iconst (v := nI 0) hX dL_isTold_228 rfl ?_
            exact K229 0 (by omega)
          · skip
            refine zz_iload hX dL_isTold_217 11 rfl ?_
            refine zz_bipush (v := nI 10) hX dL_isTold_219 rfl ?_
            refine zz_icmp_geN hX (by omega) (by decide) 228 dL_isTold_221 (by decide) (fun c221 => ?_) (fun c221 => ?_)
            · skip
              refine zz_iconst (v := nI 0) hX dL_isTold_228 rfl ?_
              exact K229 0 (by omega)
            · skip
              refine zz_iconst (v := nI 1) hX dL_isTold_224 rfl ?_
              refine zz_goto hX 229 dL_isTold_225 (by decide) ?_
              exact K229 1 (by omega)
    refine zz_iload hX dL_isTold_154 8 rfl ?_
    refine zz_bipush (v := nI 13) hX dL_isTold_156 rfl ?_
    refine zz_idiv (z := nI (two / 13)) hX dL_isTold_158 (by decide) (pk_div (by omega) (by decide) (by decide)) ?_
    refine zz_bipush (v := nI 9) hX dL_isTold_159 rfl ?_
    refine zz_irem (z := nI ((two / 13) % 9)) hX dL_isTold_161 (by decide) (pk_rem (by omega) (by decide) (by decide)) ?_
    refine zz_if_neN hX (by omega) 178 dL_isTold_162 (by decide) (fun c162 => ?_) (fun c162 => ?_)
    · skip
      refine zz_iconst (v := nI 1) hX dL_isTold_178 rfl ?_
      refine zz_iload hX dL_isTold_179 8 rfl ?_
      refine zz_bipush (v := nI 13) hX dL_isTold_181 rfl ?_
      refine zz_idiv (z := nI (two / 13)) hX dL_isTold_183 (by decide) (pk_div (by omega) (by decide) (by decide)) ?_
      refine zz_iconst (v := nI 4) hX dL_isTold_184 rfl ?_
      refine zz_irem (z := nI ((two / 13) % 4)) hX dL_isTold_185 (by decide) (pk_rem (by omega) (by decide) (by decide)) ?_
      refine zz_iadd (z := nI (1 + (two / 13) % 4)) hX dL_isTold_186 (nI_add _ _) ?_
      exact K187 (1 + (two / 13) % 4) (by omega)
    · skip
      refine zz_iload hX dL_isTold_165 8 rfl ?_
      refine zz_bipush (v := nI 117) hX dL_isTold_167 rfl ?_
      refine zz_idiv (z := nI (two / 117)) hX dL_isTold_169 (by decide) (pk_div (by omega) (by decide) (by decide)) ?_
      refine zz_iconst (v := nI 2) hX dL_isTold_170 rfl ?_
      refine zz_irem (z := nI ((two / 117) % 2)) hX dL_isTold_171 (by decide) (pk_rem (by omega) (by decide) (by decide)) ?_
      refine zz_bipush (v := nI 10) hX dL_isTold_172 rfl ?_
      refine zz_imul (z := nI (((two / 117) % 2) * 10)) hX dL_isTold_174 (pk_mul _ _) ?_
      refine zz_goto hX 187 dL_isTold_175 (by decide) ?_
      exact K187 (((two / 117) % 2) * 10) (by omega)
  refine zz_iload hX dL_isTold_133 8 rfl ?_
  refine zz_bipush (v := nI 13) hX dL_isTold_135 rfl ?_
  refine zz_irem (z := nI (two % 13)) hX dL_isTold_137 (by decide) (pk_rem (by omega) (by decide) (by decide)) ?_
  refine zz_bipush (v := nI 12) hX dL_isTold_138 rfl ?_
  refine zz_icmp_neN hX (by omega) (by decide) 148 dL_isTold_140 (by decide) (fun c140 => ?_) (fun c140 => ?_)
  · skip
    refine zz_iload hX dL_isTold_148 8 rfl ?_
    refine zz_iconst (v := nI 3) hX dL_isTold_150 rfl ?_
    refine zz_irem (z := nI (two % 3)) hX dL_isTold_151 (by decide) (pk_rem (by omega) (by decide) (by decide)) ?_
    exact K152 (two % 3) (by omega)
  · skip
    refine zz_bipush (v := nI 10) hX dL_isTold_143 rfl ?_
    refine zz_goto hX 152 dL_isTold_145 (by decide) ?_
    exact K152 10 (by omega)

set_option maxHeartbeats 1000000 in
set_option maxRecDepth 20000 in
theorem T_mouths (n : Nat) (hn : n + 1 ≤ 64) (S : zS) (sh : zm_Sh) (mi : zm_Mi) (mr : zm_Mr) (hI : ql_I n S sh mi) (hR : zR S sh mi mr) (h10 : sh 10 = some (9, 0)) (one two : Nat) (ho : one < 60000) (ht : two < 60000)  : zz_Con yL_isTold (.code yL_isTold cL_isTold 16 (some Jvm.ClassFile.FieldType.boolean)) 12 10 60 [.ref 2, .ref 100, .ref 102, .ref 103, .ref 104, .ref 109, .int (nI 1), .int (nI one), .int (nI two)] sh mi mr (ql_T n) zz_none := by
  refine zz_begin RL [(0, .ref 2), (1, .ref 100), (2, .ref 102), (3, .ref 103), (4, .ref 104), (5, .ref 109), (6, .int (nI 1)), (7, .int (nI one)), (8, .int (nI two))] (by decide) rfl rfl (Nat.le_of_ble_eq_true rfl) rfl ?_
  intro Γ D E ad hX hr hN hT
  obtain ⟨n1, n2, n3, n4⟩ := ql_num hI
  have hsm := ql_small hI
  refine zz_iload hX dL_isTold_0 6 rfl ?_
  refine zz_if_ne hX 116 dL_isTold_2 (by decide) (fun _ => ?_) (fun c => absurd c (by decide))
  refine zz_iload hX dL_isTold_116 7 rfl ?_
  refine zz_aload hX dL_isTold_118 5 rfl ?_
  refine zz_iconst (v := nI 0) hX dL_isTold_120 rfl ?_
  refine zz_iald (x := nI (zv_np S)) hX (ql_s109 hI) 0 rfl (by decide) (by decide) ((ql_g0 hI)) dL_isTold_121 ?_
  refine zz_iconst (v := nI 1) hX dL_isTold_122 rfl ?_
  refine zz_iadd (z := nI (zv_np S + 1)) hX dL_isTold_123 (nI_add _ _) ?_
  refine zz_irem (z := nI (one % (zv_np S + 1))) hX dL_isTold_124 (nI_ne0 (by omega) (by omega)) (pk_rem (by omega) (by omega) (by omega)) ?_
  have ht9 : one % (zv_np S + 1) < zv_np S + 1 := Nat.mod_lt _ (by omega)
  generalize one % (zv_np S + 1) = t at ht9 ⊢
  have z_t : zn (nI t) = t := nI_clamp (n := t) (by omega)
  refine zz_istore (ls' := [(0, .ref 2), (1, .ref 100), (2, .ref 102), (3, .ref 103), (4, .ref 104), (5, .ref 109), (6, .int (nI 1)), (7, .int (nI one)), (8, .int (nI two)), (9, .int (nI t))]) hX dL_isTold_125 (Nat.le_of_ble_eq_true rfl) rfl ?_
  refine zz_iload hX dL_isTold_127 6 rfl ?_
  refine zz_iconst (v := nI 2) hX dL_isTold_129 rfl ?_
  refine zz_icmp_ge hX 360 dL_isTold_130 (by decide) (fun c => absurd c (by decide)) (fun _ => ?_)
  have K152 : ∀ y : Nat, y ≤ 10 → zz Γ (D, E, 16, ad, sh) (zz_End Γ (D, E, 16, ad, sh) (ql_T n) zz_none 10 60) 0 0 sh mi mr 152 [(0, .ref 2), (1, .ref 100), (2, .ref 102), (3, .ref 103), (4, .ref 104), (5, .ref 109), (6, .int (nI 1)), (7, .int (nI one)), (8, .int (nI two)), (9, .int (nI t))] [.int (nI y)] := by
    intro y hy
    refine zz_istore (ls' := [(0, .ref 2), (1, .ref 100), (2, .ref 102), (3, .ref 103), (4, .ref 104), (5, .ref 109), (6, .int (nI 1)), (7, .int (nI one)), (8, .int (nI two)), (9, .int (nI t)), (10, .int (nI y))]) hX dL_isTold_152 (Nat.le_of_ble_eq_true rfl) rfl ?_
    have K187 : ∀ x : Nat, x ≤ 10 → zz Γ (D, E, 16, ad, sh) (zz_End Γ (D, E, 16, ad, sh) (ql_T n) zz_none 10 60) 0 0 sh mi mr 187 [(0, .ref 2), (1, .ref 100), (2, .ref 102), (3, .ref 103), (4, .ref 104), (5, .ref 109), (6, .int (nI 1)), (7, .int (nI one)), (8, .int (nI two)), (9, .int (nI t)), (10, .int (nI y))] [.int (nI x)] := by
      intro x hx
      have z_y : zn (nI y) = y := nI_clamp (n := y) (by omega)
      refine zz_istore (ls' := [(0, .ref 2), (1, .ref 100), (2, .ref 102), (3, .ref 103), (4, .ref 104), (5, .ref 109), (6, .int (nI 1)), (7, .int (nI one)), (8, .int (nI two)), (9, .int (nI t)), (10, .int (nI y)), (11, .int (nI x))]) hX dL_isTold_187 (Nat.le_of_ble_eq_true rfl) rfl ?_
      by_cases g0 : t < zv_np S
      · skip
        by_cases g1 : y < 10 ∧ 0 < x ∧ x < 10
        · skip
          by_cases g2 : S 4 (10 * t + y) + nI x ≤ nI 9
          · skip
            refine zz_iload hX dL_isTold_189 9 rfl ?_
            refine zz_aload hX dL_isTold_191 5 rfl ?_
            refine zz_iconst (v := nI 0) hX dL_isTold_193 rfl ?_
            refine zz_iald (x := nI (zv_np S)) hX (ql_s109 hI) 0 rfl (by decide) (by decide) ((ql_g0 hI)) dL_isTold_194 ?_
            refine zz_icmp_geN hX (by omega) (by omega) 202 dL_isTold_195 (by decide) (fun c195 => absurd c195 (by omega)) (fun c195 => ?_)
            refine zz_iconst (v := nI 1) hX dL_isTold_198 rfl ?_
            refine zz_goto hX 203 dL_isTold_199 (by decide) ?_
            refine zz_istore (ls' := [(0, .ref 2), (1, .ref 100), (2, .ref 102), (3, .ref 103), (4, .ref 104), (5, .ref 109), (6, .int (nI 1)), (7, .int (nI one)), (8, .int (nI two)), (9, .int (nI t)), (10, .int (nI y)), (11, .int (nI x)), (12, .int (nI 1))]) hX dL_isTold_203 (Nat.le_of_ble_eq_true rfl) rfl ?_
            refine zz_iload hX dL_isTold_205 10 rfl ?_
            refine zz_bipush (v := nI 10) hX dL_isTold_207 rfl ?_
            refine zz_icmp_geN hX (by omega) (by decide) 228 dL_isTold_209 (by decide) (fun c209 => absurd c209 (by omega)) (fun c209 => ?_)
            refine zz_iload hX dL_isTold_212 11 rfl ?_
            refine zz_if_leN hX (by omega) 228 dL_isTold_214 (by decide) (fun c214 => absurd c214 (by omega)) (fun c214 => ?_)
            refine zz_iload hX dL_isTold_217 11 rfl ?_
            refine zz_bipush (v := nI 10) hX dL_isTold_219 rfl ?_
            refine zz_icmp_geN hX (by omega) (by decide) 228 dL_isTold_221 (by decide) (fun c221 => absurd c221 (by omega)) (fun c221 => ?_)
            refine zz_iconst (v := nI 1) hX dL_isTold_224 rfl ?_
            refine zz_goto hX 229 dL_isTold_225 (by decide) ?_
            refine zz_istore (ls' := [(0, .ref 2), (1, .ref 100), (2, .ref 102), (3, .ref 103), (4, .ref 104), (5, .ref 109), (6, .int (nI 1)), (7, .int (nI one)), (8, .int (nI two)), (9, .int (nI t)), (10, .int (nI y)), (11, .int (nI x)), (12, .int (nI 1)), (13, .int (nI 1))]) hX dL_isTold_229 (Nat.le_of_ble_eq_true rfl) rfl ?_
            refine zz_iload hX dL_isTold_231 12 rfl ?_
            refine zz_if_eq hX 254 dL_isTold_233 (by decide) (fun c => absurd c (by decide)) (fun _ => ?_)
            refine zz_iload hX dL_isTold_236 10 rfl ?_
            refine zz_bipush (v := nI 10) hX dL_isTold_238 rfl ?_
            refine zz_icmp_geN hX (by omega) (by decide) 254 dL_isTold_240 (by decide) (fun c240 => absurd c240 (by omega)) (fun c240 => ?_)
            refine zz_bipush (v := nI 10) hX dL_isTold_243 rfl ?_
            refine zz_iload hX dL_isTold_245 9 rfl ?_
            refine zz_imul (z := nI (10 * t)) hX dL_isTold_247 (pk_mul _ _) ?_
            refine zz_iload hX dL_isTold_248 10 rfl ?_
            refine zz_iadd (z := nI (10 * t + y)) hX dL_isTold_250 (nI_add _ _) ?_
            refine zz_goto hX 256 dL_isTold_251 (by decide) ?_
            refine zz_istore (ls' := [(0, .ref 2), (1, .ref 100), (2, .ref 102), (3, .ref 103), (4, .ref 104), (5, .ref 109), (6, .int (nI 1)), (7, .int (nI one)), (8, .int (nI two)), (9, .int (nI t)), (10, .int (nI y)), (11, .int (nI x)), (12, .int (nI 1)), (13, .int (nI 1)), (14, .int (nI (10 * t + y)))]) hX dL_isTold_256 (Nat.le_of_ble_eq_true rfl) rfl ?_
            refine zz_iload hX dL_isTold_258 12 rfl ?_
            refine zz_if_eq hX 284 dL_isTold_260 (by decide) (fun c => absurd c (by decide)) (fun _ => ?_)
            refine zz_iload hX dL_isTold_263 13 rfl ?_
            refine zz_if_eq hX 284 dL_isTold_265 (by decide) (fun c => absurd c (by decide)) (fun _ => ?_)
            refine zz_aload_n hX dL_isTold_268 2 rfl rfl ?_
            refine zz_iload hX dL_isTold_269 14 rfl ?_
            refine zz_iald (x := S 4 (10 * t + y)) hX (ql_s102 hI) (10 * t + y) rfl (by omega) (by decide) ((ql_Nm hI t y (by omega) (by omega))) dL_isTold_271 ?_
            refine zz_iload hX dL_isTold_272 11 rfl ?_
            refine zz_iadd (z := (S 4 (10 * t + y)) + (nI x)) hX dL_isTold_274 rfl ?_
            refine zz_bipush (v := nI 10) hX dL_isTold_275 rfl ?_
            refine zz_icmp_ge hX 284 dL_isTold_277 (by decide) (fun c277 => absurd c277 (zs_n10 g2)) (fun c277 => ?_)
            refine zz_iconst (v := nI 1) hX dL_isTold_280 rfl ?_
            refine zz_goto hX 285 dL_isTold_281 (by decide) ?_
            refine zz_istore (ls' := [(0, .ref 2), (1, .ref 100), (2, .ref 102), (3, .ref 103), (4, .ref 104), (5, .ref 109), (6, .int (nI 1)), (7, .int (nI one)), (8, .int (nI two)), (9, .int (nI t)), (10, .int (nI y)), (11, .int (nI x)), (12, .int (nI 1)), (13, .int (nI 1)), (14, .int (nI (10 * t + y))), (15, .int (nI 1))]) hX dL_isTold_285 (Nat.le_of_ble_eq_true rfl) rfl ?_
            refine zz_aload_n hX dL_isTold_287 2 rfl rfl ?_
            refine zz_iload hX dL_isTold_288 14 rfl ?_
            refine zz_dup2 hX dL_isTold_290 rfl rfl ?_
            refine zz_iald (x := S 4 (10 * t + y)) hX (ql_s102 hI) (10 * t + y) rfl (by omega) (by decide) ((ql_Nm hI t y (by omega) (by omega))) dL_isTold_291 ?_
            refine zz_iload hX dL_isTold_292 15 rfl ?_
            refine zz_if_eq hX 302 dL_isTold_294 (by decide) (fun c => absurd c (by decide)) (fun _ => ?_)
            refine zz_iload hX dL_isTold_297 11 rfl ?_
            refine zz_goto hX 303 dL_isTold_299 (by decide) ?_
            refine zz_iadd (z := (S 4 (10 * t + y)) + (nI x)) hX dL_isTold_303 rfl ?_
            refine zz_iast hX (ql_s102 hI) (10 * t + y) rfl (by omega) (by decide) dL_isTold_304 ?_
            refine zz_aload_n hX dL_isTold_305 0 rfl rfl ?_
            refine zz_iconst (v := nI 1) hX dL_isTold_306 rfl ?_
            refine zz_iload hX dL_isTold_307 9 rfl ?_
            refine zz_iload hX dL_isTold_309 10 rfl ?_
            refine zz_iload hX dL_isTold_311 11 rfl ?_
            refine zz_iconst (v := nI 0) hX dL_isTold_313 rfl ?_
            have hA9 : zs_ix (nI t) (zv_np S) := zs_ix_nI g0 (by omega)
            have hB9 : (nI 0 ≤ nI y ∧ nI y ≤ nI 9) ∧ (nI 1 ≤ nI x ∧ nI x ≤ nI 9) := ⟨(zs_r2 (by omega)).mpr (by omega), (zs_r2 (by omega)).mpr (by omega)⟩
            have hC9 : S 4 (10 * zn (nI t) + zn (nI y)) + nI x ≤ nI 9 := by rw [z_t, z_y]; exact g2
            refine zz_callSH hX zf_M_L_161 (As := [.ref 2, .int (nI 1), .int (nI t), .int (nI y), .int (nI x), .int (nI 0)]) (st := []) (D_mouths S sh (zm_u2 mi 102 (10 * t + y) ((S 4 (10 * t + y)) + (nI x))) mr (ql_W hI) (ql_R_f (ql_W hI) hR (M := (zm_u2 mi 102 (10 * t + y) ((S 4 (10 * t + y)) + (nI x)))) (fun l hl => zm_u2r (by omega))) (nI t) (nI y) (nI x) (nI 0)) rfl rfl (by decide) (Nat.le_of_ble_eq_true rfl) (Nat.le_of_ble_eq_true rfl) (Nat.le_of_ble_eq_true rfl) dL_isTold_314 ?_ (fun _ _ _ _ h _ => h.elim)
            rintro v9 s9 i9 m9 ⟨k9, rfl, hk9, hS9⟩ -
            obtain ⟨e9, hR9⟩ := zq_d1 hk9 hA9 hB9 hC9
            simp only [z_t, z_y] at e9 hR9
            obtain rfl := e9.symm
            refine zz_iload hX dL_isTold_317 12 rfl ?_
            refine zz_if_ne hX 327 dL_isTold_319 (by decide) (fun _ => ?_) (fun c => absurd c (by decide))
            refine zz_iload hX dL_isTold_327 13 rfl ?_
            refine zz_if_ne hX 337 dL_isTold_329 (by decide) (fun _ => ?_) (fun c => absurd c (by decide))
            refine zz_iload hX dL_isTold_337 15 rfl ?_
            refine zz_if_eq hX 349 dL_isTold_339 (by decide) (fun c => absurd c (by decide)) (fun _ => ?_)
            refine zz_aload_n hX dL_isTold_342 2 rfl rfl ?_
            refine zz_iload hX dL_isTold_343 14 rfl ?_
            refine zz_iald (x := (S 4 (10 * t + y)) + (nI x)) hX ((hS9 102 (by unfold zr_out; omega)).1.trans (ql_s102 hI)) (10 * t + y) rfl (by omega) (by decide) ((congrFun (hS9 102 (by unfold zr_out; omega)).2.1 _).trans (zm_u2s)) dL_isTold_345 ?_
            refine zz_goto hX 351 dL_isTold_346 (by decide) ?_
            refine zz_icmp_ne hX 358 dL_isTold_351 (by decide) (fun c351 => absurd rfl c351) (fun c351 => ?_)
            refine zz_iconst (v := nI 1) hX dL_isTold_354 rfl ?_
            refine zz_goto hX 359 dL_isTold_355 (by decide) ?_
            refine zz_iret hX hr rfl (Nat.le_of_ble_eq_true rfl) (Nat.le_of_ble_eq_true rfl) dL_isTold_359 ?_
            exact ⟨rfl, ⟨_, ql_J_end hn (by have z := U_mouths (ql_W hI) (nI t) (nI y) (nI x) hA9 hB9 hC9; simp only [z_t, z_y] at z; exact z) (ql_B_mouths (ql_BB hI) (by omega) g2) (ql_N_m hI.2.2.2 (by omega) (by omega)) hR9 hS9⟩, ql_10 h10 hS9⟩
          · skip
            refine zz_iload hX dL_isTold_189 9 rfl ?_
            refine zz_aload hX dL_isTold_191 5 rfl ?_
            refine zz_iconst (v := nI 0) hX dL_isTold_193 rfl ?_
            refine zz_iald (x := nI (zv_np S)) hX (ql_s109 hI) 0 rfl (by decide) (by decide) ((ql_g0 hI)) dL_isTold_194 ?_
            refine zz_icmp_geN hX (by omega) (by omega) 202 dL_isTold_195 (by decide) (fun c195 => absurd c195 (by omega)) (fun c195 => ?_)
            refine zz_iconst (v := nI 1) hX dL_isTold_198 rfl ?_
            refine zz_goto hX 203 dL_isTold_199 (by decide) ?_
            refine zz_istore (ls' := [(0, .ref 2), (1, .ref 100), (2, .ref 102), (3, .ref 103), (4, .ref 104), (5, .ref 109), (6, .int (nI 1)), (7, .int (nI one)), (8, .int (nI two)), (9, .int (nI t)), (10, .int (nI y)), (11, .int (nI x)), (12, .int (nI 1))]) hX dL_isTold_203 (Nat.le_of_ble_eq_true rfl) rfl ?_
            refine zz_iload hX dL_isTold_205 10 rfl ?_
            refine zz_bipush (v := nI 10) hX dL_isTold_207 rfl ?_
            refine zz_icmp_geN hX (by omega) (by decide) 228 dL_isTold_209 (by decide) (fun c209 => absurd c209 (by omega)) (fun c209 => ?_)
            refine zz_iload hX dL_isTold_212 11 rfl ?_
            refine zz_if_leN hX (by omega) 228 dL_isTold_214 (by decide) (fun c214 => absurd c214 (by omega)) (fun c214 => ?_)
            refine zz_iload hX dL_isTold_217 11 rfl ?_
            refine zz_bipush (v := nI 10) hX dL_isTold_219 rfl ?_
            refine zz_icmp_geN hX (by omega) (by decide) 228 dL_isTold_221 (by decide) (fun c221 => absurd c221 (by omega)) (fun c221 => ?_)
            refine zz_iconst (v := nI 1) hX dL_isTold_224 rfl ?_
            refine zz_goto hX 229 dL_isTold_225 (by decide) ?_
            refine zz_istore (ls' := [(0, .ref 2), (1, .ref 100), (2, .ref 102), (3, .ref 103), (4, .ref 104), (5, .ref 109), (6, .int (nI 1)), (7, .int (nI one)), (8, .int (nI two)), (9, .int (nI t)), (10, .int (nI y)), (11, .int (nI x)), (12, .int (nI 1)), (13, .int (nI 1))]) hX dL_isTold_229 (Nat.le_of_ble_eq_true rfl) rfl ?_
            refine zz_iload hX dL_isTold_231 12 rfl ?_
            refine zz_if_eq hX 254 dL_isTold_233 (by decide) (fun c => absurd c (by decide)) (fun _ => ?_)
            refine zz_iload hX dL_isTold_236 10 rfl ?_
            refine zz_bipush (v := nI 10) hX dL_isTold_238 rfl ?_
            refine zz_icmp_geN hX (by omega) (by decide) 254 dL_isTold_240 (by decide) (fun c240 => absurd c240 (by omega)) (fun c240 => ?_)
            refine zz_bipush (v := nI 10) hX dL_isTold_243 rfl ?_
            refine zz_iload hX dL_isTold_245 9 rfl ?_
            refine zz_imul (z := nI (10 * t)) hX dL_isTold_247 (pk_mul _ _) ?_
            refine zz_iload hX dL_isTold_248 10 rfl ?_
            refine zz_iadd (z := nI (10 * t + y)) hX dL_isTold_250 (nI_add _ _) ?_
            refine zz_goto hX 256 dL_isTold_251 (by decide) ?_
            refine zz_istore (ls' := [(0, .ref 2), (1, .ref 100), (2, .ref 102), (3, .ref 103), (4, .ref 104), (5, .ref 109), (6, .int (nI 1)), (7, .int (nI one)), (8, .int (nI two)), (9, .int (nI t)), (10, .int (nI y)), (11, .int (nI x)), (12, .int (nI 1)), (13, .int (nI 1)), (14, .int (nI (10 * t + y)))]) hX dL_isTold_256 (Nat.le_of_ble_eq_true rfl) rfl ?_
            refine zz_iload hX dL_isTold_258 12 rfl ?_
            refine zz_if_eq hX 284 dL_isTold_260 (by decide) (fun c => absurd c (by decide)) (fun _ => ?_)
            refine zz_iload hX dL_isTold_263 13 rfl ?_
            refine zz_if_eq hX 284 dL_isTold_265 (by decide) (fun c => absurd c (by decide)) (fun _ => ?_)
            refine zz_aload_n hX dL_isTold_268 2 rfl rfl ?_
            refine zz_iload hX dL_isTold_269 14 rfl ?_
            refine zz_iald (x := S 4 (10 * t + y)) hX (ql_s102 hI) (10 * t + y) rfl (by omega) (by decide) ((ql_Nm hI t y (by omega) (by omega))) dL_isTold_271 ?_
            refine zz_iload hX dL_isTold_272 11 rfl ?_
            refine zz_iadd (z := (S 4 (10 * t + y)) + (nI x)) hX dL_isTold_274 rfl ?_
            refine zz_bipush (v := nI 10) hX dL_isTold_275 rfl ?_
            refine zz_icmp_ge hX 284 dL_isTold_277 (by decide) (fun c277 => ?_) (fun c277 => absurd (zs_10 g2) c277)
            refine zz_iconst (v := nI 0) hX dL_isTold_284 rfl ?_
            refine zz_istore (ls' := [(0, .ref 2), (1, .ref 100), (2, .ref 102), (3, .ref 103), (4, .ref 104), (5, .ref 109), (6, .int (nI 1)), (7, .int (nI one)), (8, .int (nI two)), (9, .int (nI t)), (10, .int (nI y)), (11, .int (nI x)), (12, .int (nI 1)), (13, .int (nI 1)), (14, .int (nI (10 * t + y))), (15, .int (nI 0))]) hX dL_isTold_285 (Nat.le_of_ble_eq_true rfl) rfl ?_
            refine zz_aload_n hX dL_isTold_287 2 rfl rfl ?_
            refine zz_iload hX dL_isTold_288 14 rfl ?_
            refine zz_dup2 hX dL_isTold_290 rfl rfl ?_
            refine zz_iald (x := S 4 (10 * t + y)) hX (ql_s102 hI) (10 * t + y) rfl (by omega) (by decide) ((ql_Nm hI t y (by omega) (by omega))) dL_isTold_291 ?_
            refine zz_iload hX dL_isTold_292 15 rfl ?_
            refine zz_if_eq hX 302 dL_isTold_294 (by decide) (fun _ => ?_) (fun c => absurd c (by decide))
            refine zz_iconst (v := nI 0) hX dL_isTold_302 rfl ?_
            refine zz_iadd (z := (S 4 (10 * t + y)) + (nI 0)) hX dL_isTold_303 rfl ?_
            refine zz_iast hX (ql_s102 hI) (10 * t + y) rfl (by omega) (by decide) dL_isTold_304 ?_
            refine zz_aload_n hX dL_isTold_305 0 rfl rfl ?_
            refine zz_iconst (v := nI 1) hX dL_isTold_306 rfl ?_
            refine zz_iload hX dL_isTold_307 9 rfl ?_
            refine zz_iload hX dL_isTold_309 10 rfl ?_
            refine zz_iload hX dL_isTold_311 11 rfl ?_
            refine zz_iconst (v := nI 0) hX dL_isTold_313 rfl ?_
            have hA9 : zs_ix (nI t) (zv_np S) := zs_ix_nI g0 (by omega)
            have hB9 : (nI 0 ≤ nI y ∧ nI y ≤ nI 9) ∧ (nI 1 ≤ nI x ∧ nI x ≤ nI 9) := ⟨(zs_r2 (by omega)).mpr (by omega), (zs_r2 (by omega)).mpr (by omega)⟩
            refine zz_callSH hX zf_M_L_161 (As := [.ref 2, .int (nI 1), .int (nI t), .int (nI y), .int (nI x), .int (nI 0)]) (st := []) (D_mouths S sh (zm_u2 mi 102 (10 * t + y) ((S 4 (10 * t + y)) + (nI 0))) mr (ql_W hI) (ql_R_f (ql_W hI) hR (M := (zm_u2 mi 102 (10 * t + y) ((S 4 (10 * t + y)) + (nI 0)))) (fun l hl => zm_u2r (by omega))) (nI t) (nI y) (nI x) (nI 0)) rfl rfl (by decide) (Nat.le_of_ble_eq_true rfl) (Nat.le_of_ble_eq_true rfl) (Nat.le_of_ble_eq_true rfl) dL_isTold_314 ?_ (fun _ _ _ _ h _ => h.elim)
            rintro v9 s9 i9 m9 ⟨k9, rfl, hk9, hS9⟩ -
            obtain ⟨e9, hR9⟩ := zq_d4 hk9 hA9 hB9 (fun h => g2 (by rw [z_t, z_y] at h; exact h))
            obtain rfl := e9.symm
            refine zz_iload hX dL_isTold_317 12 rfl ?_
            refine zz_if_ne hX 327 dL_isTold_319 (by decide) (fun _ => ?_) (fun c => absurd c (by decide))
            refine zz_iload hX dL_isTold_327 13 rfl ?_
            refine zz_if_ne hX 337 dL_isTold_329 (by decide) (fun _ => ?_) (fun c => absurd c (by decide))
            refine zz_iload hX dL_isTold_337 15 rfl ?_
            refine zz_if_eq hX 349 dL_isTold_339 (by decide) (fun _ => ?_) (fun c => absurd c (by decide))
            refine zz_ldc (v := -1000000) hX zw_con_L_90 dL_isTold_349 ?_
            refine zz_icmp_ne hX 358 dL_isTold_351 (by decide) (fun c => absurd c (by decide)) (fun _ => ?_)
            refine zz_iconst (v := nI 1) hX dL_isTold_354 rfl ?_
            refine zz_goto hX 359 dL_isTold_355 (by decide) ?_
            refine zz_iret hX hr rfl (Nat.le_of_ble_eq_true rfl) (Nat.le_of_ble_eq_true rfl) dL_isTold_359 ?_
            exact ⟨rfl, ⟨_, ql_J_end hn (ql_W hI) (ql_B_mono (ql_BB hI) (by omega)) (by rw [zm_u2_id ((ql_Nm hI t y (by omega) (by omega)).trans zs_add0.symm)]; exact hI.2.2.2) hR9 hS9⟩, ql_10 h10 hS9⟩
        · skip
          refine zz_iload hX dL_isTold_189 9 rfl ?_
          refine zz_aload hX dL_isTold_191 5 rfl ?_
          refine zz_iconst (v := nI 0) hX dL_isTold_193 rfl ?_
          refine zz_iald (x := nI (zv_np S)) hX (ql_s109 hI) 0 rfl (by decide) (by decide) ((ql_g0 hI)) dL_isTold_194 ?_
          refine zz_icmp_geN hX (by omega) (by omega) 202 dL_isTold_195 (by decide) (fun c195 => absurd c195 (by omega)) (fun c195 => ?_)
          refine zz_iconst (v := nI 1) hX dL_isTold_198 rfl ?_
          refine zz_goto hX 203 dL_isTold_199 (by decide) ?_
          refine zz_istore (ls' := [(0, .ref 2), (1, .ref 100), (2, .ref 102), (3, .ref 103), (4, .ref 104), (5, .ref 109), (6, .int (nI 1)), (7, .int (nI one)), (8, .int (nI two)), (9, .int (nI t)), (10, .int (nI y)), (11, .int (nI x)), (12, .int (nI 1))]) hX dL_isTold_203 (Nat.le_of_ble_eq_true rfl) rfl ?_
          have K229 : zz Γ (D, E, 16, ad, sh) (zz_End Γ (D, E, 16, ad, sh) (ql_T n) zz_none 10 60) 0 0 sh mi mr 229 [(0, .ref 2), (1, .ref 100), (2, .ref 102), (3, .ref 103), (4, .ref 104), (5, .ref 109), (6, .int (nI 1)), (7, .int (nI one)), (8, .int (nI two)), (9, .int (nI t)), (10, .int (nI y)), (11, .int (nI x)), (12, .int (nI 1))] [.int (nI 0)] := by
            refine zz_istore (ls' := [(0, .ref 2), (1, .ref 100), (2, .ref 102), (3, .ref 103), (4, .ref 104), (5, .ref 109), (6, .int (nI 1)), (7, .int (nI one)), (8, .int (nI two)), (9, .int (nI t)), (10, .int (nI y)), (11, .int (nI x)), (12, .int (nI 1)), (13, .int (nI 0))]) hX dL_isTold_229 (Nat.le_of_ble_eq_true rfl) rfl ?_
            refine zz_iload hX dL_isTold_231 12 rfl ?_
            refine zz_if_eq hX 254 dL_isTold_233 (by decide) (fun c => absurd c (by decide)) (fun _ => ?_)
            refine zz_iload hX dL_isTold_236 10 rfl ?_
            refine zz_bipush (v := nI 10) hX dL_isTold_238 rfl ?_
            refine zz_icmp_geN hX (by omega) (by decide) 254 dL_isTold_240 (by decide) (fun c240 => ?_) (fun c240 => ?_)
            · skip
              refine zz_bipush (v := nI 20) hX dL_isTold_254 rfl ?_
              refine zz_istore (ls' := [(0, .ref 2), (1, .ref 100), (2, .ref 102), (3, .ref 103), (4, .ref 104), (5, .ref 109), (6, .int (nI 1)), (7, .int (nI one)), (8, .int (nI two)), (9, .int (nI t)), (10, .int (nI y)), (11, .int (nI x)), (12, .int (nI 1)), (13, .int (nI 0)), (14, .int (nI 20))]) hX dL_isTold_256 (Nat.le_of_ble_eq_true rfl) rfl ?_
              refine zz_iload hX dL_isTold_258 12 rfl ?_
              refine zz_if_eq hX 284 dL_isTold_260 (by decide) (fun c => absurd c (by decide)) (fun _ => ?_)
              refine zz_iload hX dL_isTold_263 13 rfl ?_
              refine zz_if_eq hX 284 dL_isTold_265 (by decide) (fun _ => ?_) (fun c => absurd c (by decide))
              refine zz_iconst (v := nI 0) hX dL_isTold_284 rfl ?_
              refine zz_istore (ls' := [(0, .ref 2), (1, .ref 100), (2, .ref 102), (3, .ref 103), (4, .ref 104), (5, .ref 109), (6, .int (nI 1)), (7, .int (nI one)), (8, .int (nI two)), (9, .int (nI t)), (10, .int (nI y)), (11, .int (nI x)), (12, .int (nI 1)), (13, .int (nI 0)), (14, .int (nI 20)), (15, .int (nI 0))]) hX dL_isTold_285 (Nat.le_of_ble_eq_true rfl) rfl ?_
              refine zz_aload_n hX dL_isTold_287 2 rfl rfl ?_
              refine zz_iload hX dL_isTold_288 14 rfl ?_
              refine zz_dup2 hX dL_isTold_290 rfl rfl ?_
              refine zz_iald (x := mi 102 20) hX (ql_s102 hI) 20 rfl (by decide) (by decide) rfl dL_isTold_291 ?_
              refine zz_iload hX dL_isTold_292 15 rfl ?_
              refine zz_if_eq hX 302 dL_isTold_294 (by decide) (fun _ => ?_) (fun c => absurd c (by decide))
              refine zz_iconst (v := nI 0) hX dL_isTold_302 rfl ?_
              refine zz_iadd (z := (mi 102 20) + (nI 0)) hX dL_isTold_303 rfl ?_
              refine zz_iast hX (ql_s102 hI) 20 rfl (by decide) (by decide) dL_isTold_304 ?_
              refine zz_aload_n hX dL_isTold_305 0 rfl rfl ?_
              refine zz_iconst (v := nI 1) hX dL_isTold_306 rfl ?_
              refine zz_iload hX dL_isTold_307 9 rfl ?_
              refine zz_iload hX dL_isTold_309 10 rfl ?_
              refine zz_iload hX dL_isTold_311 11 rfl ?_
              refine zz_iconst (v := nI 0) hX dL_isTold_313 rfl ?_
              have hA9 : zs_ix (nI t) (zv_np S) := zs_ix_nI g0 (by omega)
              refine zz_callSH hX zf_M_L_161 (As := [.ref 2, .int (nI 1), .int (nI t), .int (nI y), .int (nI x), .int (nI 0)]) (st := []) (D_mouths S sh (zm_u2 mi 102 20 ((mi 102 20) + (nI 0))) mr (ql_W hI) (ql_R_f (ql_W hI) hR (M := (zm_u2 mi 102 20 ((mi 102 20) + (nI 0)))) (fun l hl => zm_u2r (by omega))) (nI t) (nI y) (nI x) (nI 0)) rfl rfl (by decide) (Nat.le_of_ble_eq_true rfl) (Nat.le_of_ble_eq_true rfl) (Nat.le_of_ble_eq_true rfl) dL_isTold_314 ?_ (fun _ _ _ _ h _ => h.elim)
              rintro v9 s9 i9 m9 ⟨k9, rfl, hk9, hS9⟩ -
              obtain ⟨e9, hR9⟩ := zq_d3 hk9 hA9 (fun h => by have h1 := (zs_r2 (x := y) (by omega)).mp h.1; have h2 := (zs_r2 (x := x) (by omega)).mp h.2; omega)
              obtain rfl := e9.symm
              refine zz_iload hX dL_isTold_317 12 rfl ?_
              refine zz_if_ne hX 327 dL_isTold_319 (by decide) (fun _ => ?_) (fun c => absurd c (by decide))
              refine zz_iload hX dL_isTold_327 13 rfl ?_
              refine zz_if_ne hX 337 dL_isTold_329 (by decide) (fun c => absurd c (by decide)) (fun _ => ?_)
              refine zz_ldc (v := -2000000) hX zw_con_L_87 dL_isTold_332 ?_
              refine zz_goto hX 351 dL_isTold_334 (by decide) ?_
              refine zz_icmp_ne hX 358 dL_isTold_351 (by decide) (fun c => absurd c (by decide)) (fun _ => ?_)
              refine zz_iconst (v := nI 1) hX dL_isTold_354 rfl ?_
              refine zz_goto hX 359 dL_isTold_355 (by decide) ?_
              refine zz_iret hX hr rfl (Nat.le_of_ble_eq_true rfl) (Nat.le_of_ble_eq_true rfl) dL_isTold_359 ?_
              exact ⟨rfl, ⟨_, ql_J_end hn (ql_W hI) (ql_B_mono (ql_BB hI) (by omega)) (ql_N_g hI.2.2.2 n3 hsm.1 (by unfold ql_gar; omega)) hR9 hS9⟩, ql_10 h10 hS9⟩
            · skip
              refine zz_bipush (v := nI 10) hX dL_isTold_243 rfl ?_
              refine zz_iload hX dL_isTold_245 9 rfl ?_
              refine zz_imul (z := nI (10 * t)) hX dL_isTold_247 (pk_mul _ _) ?_
              refine zz_iload hX dL_isTold_248 10 rfl ?_
              refine zz_iadd (z := nI (10 * t + y)) hX dL_isTold_250 (nI_add _ _) ?_
              refine zz_goto hX 256 dL_isTold_251 (by decide) ?_
              refine zz_istore (ls' := [(0, .ref 2), (1, .ref 100), (2, .ref 102), (3, .ref 103), (4, .ref 104), (5, .ref 109), (6, .int (nI 1)), (7, .int (nI one)), (8, .int (nI two)), (9, .int (nI t)), (10, .int (nI y)), (11, .int (nI x)), (12, .int (nI 1)), (13, .int (nI 0)), (14, .int (nI (10 * t + y)))]) hX dL_isTold_256 (Nat.le_of_ble_eq_true rfl) rfl ?_
              refine zz_iload hX dL_isTold_258 12 rfl ?_
              refine zz_if_eq hX 284 dL_isTold_260 (by decide) (fun c => absurd c (by decide)) (fun _ => ?_)
              refine zz_iload hX dL_isTold_263 13 rfl ?_
              refine zz_if_eq hX 284 dL_isTold_265 (by decide) (fun _ => ?_) (fun c => absurd c (by decide))
              refine zz_iconst (v := nI 0) hX dL_isTold_284 rfl ?_
              refine zz_istore (ls' := [(0, .ref 2), (1, .ref 100), (2, .ref 102), (3, .ref 103), (4, .ref 104), (5, .ref 109), (6, .int (nI 1)), (7, .int (nI one)), (8, .int (nI two)), (9, .int (nI t)), (10, .int (nI y)), (11, .int (nI x)), (12, .int (nI 1)), (13, .int (nI 0)), (14, .int (nI (10 * t + y))), (15, .int (nI 0))]) hX dL_isTold_285 (Nat.le_of_ble_eq_true rfl) rfl ?_
              refine zz_aload_n hX dL_isTold_287 2 rfl rfl ?_
              refine zz_iload hX dL_isTold_288 14 rfl ?_
              refine zz_dup2 hX dL_isTold_290 rfl rfl ?_
              refine zz_iald (x := S 4 (10 * t + y)) hX (ql_s102 hI) (10 * t + y) rfl (by omega) (by decide) ((ql_Nm hI t y (by omega) (by omega))) dL_isTold_291 ?_
              refine zz_iload hX dL_isTold_292 15 rfl ?_
              refine zz_if_eq hX 302 dL_isTold_294 (by decide) (fun _ => ?_) (fun c => absurd c (by decide))
              refine zz_iconst (v := nI 0) hX dL_isTold_302 rfl ?_
              refine zz_iadd (z := (S 4 (10 * t + y)) + (nI 0)) hX dL_isTold_303 rfl ?_
              refine zz_iast hX (ql_s102 hI) (10 * t + y) rfl (by omega) (by decide) dL_isTold_304 ?_
              refine zz_aload_n hX dL_isTold_305 0 rfl rfl ?_
              refine zz_iconst (v := nI 1) hX dL_isTold_306 rfl ?_
              refine zz_iload hX dL_isTold_307 9 rfl ?_
              refine zz_iload hX dL_isTold_309 10 rfl ?_
              refine zz_iload hX dL_isTold_311 11 rfl ?_
              refine zz_iconst (v := nI 0) hX dL_isTold_313 rfl ?_
              have hA9 : zs_ix (nI t) (zv_np S) := zs_ix_nI g0 (by omega)
              refine zz_callSH hX zf_M_L_161 (As := [.ref 2, .int (nI 1), .int (nI t), .int (nI y), .int (nI x), .int (nI 0)]) (st := []) (D_mouths S sh (zm_u2 mi 102 (10 * t + y) ((S 4 (10 * t + y)) + (nI 0))) mr (ql_W hI) (ql_R_f (ql_W hI) hR (M := (zm_u2 mi 102 (10 * t + y) ((S 4 (10 * t + y)) + (nI 0)))) (fun l hl => zm_u2r (by omega))) (nI t) (nI y) (nI x) (nI 0)) rfl rfl (by decide) (Nat.le_of_ble_eq_true rfl) (Nat.le_of_ble_eq_true rfl) (Nat.le_of_ble_eq_true rfl) dL_isTold_314 ?_ (fun _ _ _ _ h _ => h.elim)
              rintro v9 s9 i9 m9 ⟨k9, rfl, hk9, hS9⟩ -
              obtain ⟨e9, hR9⟩ := zq_d3 hk9 hA9 (fun h => by have h1 := (zs_r2 (x := y) (by omega)).mp h.1; have h2 := (zs_r2 (x := x) (by omega)).mp h.2; omega)
              obtain rfl := e9.symm
              refine zz_iload hX dL_isTold_317 12 rfl ?_
              refine zz_if_ne hX 327 dL_isTold_319 (by decide) (fun _ => ?_) (fun c => absurd c (by decide))
              refine zz_iload hX dL_isTold_327 13 rfl ?_
              refine zz_if_ne hX 337 dL_isTold_329 (by decide) (fun c => absurd c (by decide)) (fun _ => ?_)
              refine zz_ldc (v := -2000000) hX zw_con_L_87 dL_isTold_332 ?_
              refine zz_goto hX 351 dL_isTold_334 (by decide) ?_
              refine zz_icmp_ne hX 358 dL_isTold_351 (by decide) (fun c => absurd c (by decide)) (fun _ => ?_)
              refine zz_iconst (v := nI 1) hX dL_isTold_354 rfl ?_
              refine zz_goto hX 359 dL_isTold_355 (by decide) ?_
              refine zz_iret hX hr rfl (Nat.le_of_ble_eq_true rfl) (Nat.le_of_ble_eq_true rfl) dL_isTold_359 ?_
              exact ⟨rfl, ⟨_, ql_J_end hn (ql_W hI) (ql_B_mono (ql_BB hI) (by omega)) (by rw [zm_u2_id ((ql_Nm hI t y (by omega) (by omega)).trans zs_add0.symm)]; exact hI.2.2.2) hR9 hS9⟩, ql_10 h10 hS9⟩
          refine zz_iload hX dL_isTold_205 10 rfl ?_
          refine zz_bipush (v := nI 10) hX dL_isTold_207 rfl ?_
          refine zz_icmp_geN hX (by omega) (by decide) 228 dL_isTold_209 (by decide) (fun c209 => ?_) (fun c209 => ?_)
          · skip
            refine zz_iconst (v := nI 0) hX dL_isTold_228 rfl ?_
            exact zz_top (rfl) K229
          · skip
            refine zz_iload hX dL_isTold_212 11 rfl ?_
            refine zz_if_leN hX (by omega) 228 dL_isTold_214 (by decide) (fun c214 => ?_) (fun c214 => ?_)
            · skip
              refine zz_iconst (v := nI 0) hX dL_isTold_228 rfl ?_
              exact zz_top (rfl) K229
            · skip
              refine zz_iload hX dL_isTold_217 11 rfl ?_
              refine zz_bipush (v := nI 10) hX dL_isTold_219 rfl ?_
              refine zz_icmp_geN hX (by omega) (by decide) 228 dL_isTold_221 (by decide) (fun c221 => ?_) (fun c221 => absurd c221 (by omega))
              refine zz_iconst (v := nI 0) hX dL_isTold_228 rfl ?_
              exact zz_top (rfl) K229
      · skip
        refine zz_iload hX dL_isTold_189 9 rfl ?_
        refine zz_aload hX dL_isTold_191 5 rfl ?_
        refine zz_iconst (v := nI 0) hX dL_isTold_193 rfl ?_
        refine zz_iald (x := nI (zv_np S)) hX (ql_s109 hI) 0 rfl (by decide) (by decide) ((ql_g0 hI)) dL_isTold_194 ?_
        refine zz_icmp_geN hX (by omega) (by omega) 202 dL_isTold_195 (by decide) (fun c195 => ?_) (fun c195 => absurd c195 (by omega))
        refine zz_iconst (v := nI 0) hX dL_isTold_202 rfl ?_
        refine zz_istore (ls' := [(0, .ref 2), (1, .ref 100), (2, .ref 102), (3, .ref 103), (4, .ref 104), (5, .ref 109), (6, .int (nI 1)), (7, .int (nI one)), (8, .int (nI two)), (9, .int (nI t)), (10, .int (nI y)), (11, .int (nI x)), (12, .int (nI 0))]) hX dL_isTold_203 (Nat.le_of_ble_eq_true rfl) rfl ?_
        have K229 : ∀ b : Nat, b ≤ 1 → zz Γ (D, E, 16, ad, sh) (zz_End Γ (D, E, 16, ad, sh) (ql_T n) zz_none 10 60) 0 0 sh mi mr 229 [(0, .ref 2), (1, .ref 100), (2, .ref 102), (3, .ref 103), (4, .ref 104), (5, .ref 109), (6, .int (nI 1)), (7, .int (nI one)), (8, .int (nI two)), (9, .int (nI t)), (10, .int (nI y)), (11, .int (nI x)), (12, .int (nI 0))] [.int (nI b)] := by
          intro b hb
          refine zz_istore (ls' := [(0, .ref 2), (1, .ref 100), (2, .ref 102), (3, .ref 103), (4, .ref 104), (5, .ref 109), (6, .int (nI 1)), (7, .int (nI one)), (8, .int (nI two)), (9, .int (nI t)), (10, .int (nI y)), (11, .int (nI x)), (12, .int (nI 0)), (13, .int (nI b))]) hX dL_isTold_229 (Nat.le_of_ble_eq_true rfl) rfl ?_
          refine zz_iload hX dL_isTold_231 12 rfl ?_
          refine zz_if_eq hX 254 dL_isTold_233 (by decide) (fun _ => ?_) (fun c => absurd c (by decide))
          refine zz_bipush (v := nI 20) hX dL_isTold_254 rfl ?_
          refine zz_istore (ls' := [(0, .ref 2), (1, .ref 100), (2, .ref 102), (3, .ref 103), (4, .ref 104), (5, .ref 109), (6, .int (nI 1)), (7, .int (nI one)), (8, .int (nI two)), (9, .int (nI t)), (10, .int (nI y)), (11, .int (nI x)), (12, .int (nI 0)), (13, .int (nI b)), (14, .int (nI 20))]) hX dL_isTold_256 (Nat.le_of_ble_eq_true rfl) rfl ?_
          refine zz_iload hX dL_isTold_258 12 rfl ?_
          refine zz_if_eq hX 284 dL_isTold_260 (by decide) (fun _ => ?_) (fun c => absurd c (by decide))
          refine zz_iconst (v := nI 0) hX dL_isTold_284 rfl ?_
          refine zz_istore (ls' := [(0, .ref 2), (1, .ref 100), (2, .ref 102), (3, .ref 103), (4, .ref 104), (5, .ref 109), (6, .int (nI 1)), (7, .int (nI one)), (8, .int (nI two)), (9, .int (nI t)), (10, .int (nI y)), (11, .int (nI x)), (12, .int (nI 0)), (13, .int (nI b)), (14, .int (nI 20)), (15, .int (nI 0))]) hX dL_isTold_285 (Nat.le_of_ble_eq_true rfl) rfl ?_
          refine zz_aload_n hX dL_isTold_287 2 rfl rfl ?_
          refine zz_iload hX dL_isTold_288 14 rfl ?_
          refine zz_dup2 hX dL_isTold_290 rfl rfl ?_
          refine zz_iald (x := mi 102 20) hX (ql_s102 hI) 20 rfl (by decide) (by decide) rfl dL_isTold_291 ?_
          refine zz_iload hX dL_isTold_292 15 rfl ?_
          refine zz_if_eq hX 302 dL_isTold_294 (by decide) (fun _ => ?_) (fun c => absurd c (by decide))
          refine zz_iconst (v := nI 0) hX dL_isTold_302 rfl ?_
          refine zz_iadd (z := (mi 102 20) + (nI 0)) hX dL_isTold_303 rfl ?_
          refine zz_iast hX (ql_s102 hI) 20 rfl (by decide) (by decide) dL_isTold_304 ?_
          refine zz_aload_n hX dL_isTold_305 0 rfl rfl ?_
          refine zz_iconst (v := nI 1) hX dL_isTold_306 rfl ?_
          refine zz_iload hX dL_isTold_307 9 rfl ?_
          refine zz_iload hX dL_isTold_309 10 rfl ?_
          refine zz_iload hX dL_isTold_311 11 rfl ?_
          refine zz_iconst (v := nI 0) hX dL_isTold_313 rfl ?_
          refine zz_callSH hX zf_M_L_161 (As := [.ref 2, .int (nI 1), .int (nI t), .int (nI y), .int (nI x), .int (nI 0)]) (st := []) (D_mouths S sh (zm_u2 mi 102 20 ((mi 102 20) + (nI 0))) mr (ql_W hI) (ql_R_f (ql_W hI) hR (M := (zm_u2 mi 102 20 ((mi 102 20) + (nI 0)))) (fun l hl => zm_u2r (by omega))) (nI t) (nI y) (nI x) (nI 0)) rfl rfl (by decide) (Nat.le_of_ble_eq_true rfl) (Nat.le_of_ble_eq_true rfl) (Nat.le_of_ble_eq_true rfl) dL_isTold_314 ?_ (fun _ _ _ _ h _ => h.elim)
          rintro v9 s9 i9 m9 ⟨k9, rfl, hk9, hS9⟩ -
          obtain ⟨e9, hR9⟩ := zq_d2 hk9 (zs_ix_not g0 (by omega))
          obtain rfl := e9.symm
          refine zz_iload hX dL_isTold_317 12 rfl ?_
          refine zz_if_ne hX 327 dL_isTold_319 (by decide) (fun c => absurd c (by decide)) (fun _ => ?_)
          refine zz_ldc (v := -3000000) hX zw_con_L_84 dL_isTold_322 ?_
          refine zz_goto hX 351 dL_isTold_324 (by decide) ?_
          refine zz_icmp_ne hX 358 dL_isTold_351 (by decide) (fun c => absurd c (by decide)) (fun _ => ?_)
          refine zz_iconst (v := nI 1) hX dL_isTold_354 rfl ?_
          refine zz_goto hX 359 dL_isTold_355 (by decide) ?_
          refine zz_iret hX hr rfl (Nat.le_of_ble_eq_true rfl) (Nat.le_of_ble_eq_true rfl) dL_isTold_359 ?_
          exact ⟨rfl, ⟨_, ql_J_end hn (ql_W hI) (ql_B_mono (ql_BB hI) (by omega)) (ql_N_g hI.2.2.2 n3 hsm.1 (by unfold ql_gar; omega)) hR9 hS9⟩, ql_10 h10 hS9⟩
        refine zz_iload hX dL_isTold_205 10 rfl ?_
        refine zz_bipush (v := nI 10) hX dL_isTold_207 rfl ?_
        refine zz_icmp_geN hX (by omega) (by decide) 228 dL_isTold_209 (by decide) (fun c209 => ?_) (fun c209 => ?_)
        · skip
          refine zz_iconst (v := nI 0) hX dL_isTold_228 rfl ?_
          exact K229 0 (by omega)
        · skip
          refine zz_iload hX dL_isTold_212 11 rfl ?_
          refine zz_if_leN hX (by omega) 228 dL_isTold_214 (by decide) (fun c214 => ?_) (fun c214 => ?_)
          · skip
            refine zz_iconst (v := nI 0) hX dL_isTold_228 rfl ?_
            exact K229 0 (by omega)
          · skip
            refine zz_iload hX dL_isTold_217 11 rfl ?_
            refine zz_bipush (v := nI 10) hX dL_isTold_219 rfl ?_
            refine zz_icmp_geN hX (by omega) (by decide) 228 dL_isTold_221 (by decide) (fun c221 => ?_) (fun c221 => ?_)
            · skip
              refine zz_iconst (v := nI 0) hX dL_isTold_228 rfl ?_
              exact K229 0 (by omega)
            · skip
              refine zz_iconst (v := nI 1) hX dL_isTold_224 rfl ?_
              refine zz_goto hX 229 dL_isTold_225 (by decide) ?_
              exact K229 1 (by omega)
    refine zz_iload hX dL_isTold_154 8 rfl ?_
    refine zz_bipush (v := nI 13) hX dL_isTold_156 rfl ?_
    refine zz_idiv (z := nI (two / 13)) hX dL_isTold_158 (by decide) (pk_div (by omega) (by decide) (by decide)) ?_
    refine zz_bipush (v := nI 9) hX dL_isTold_159 rfl ?_
    refine zz_irem (z := nI ((two / 13) % 9)) hX dL_isTold_161 (by decide) (pk_rem (by omega) (by decide) (by decide)) ?_
    refine zz_if_neN hX (by omega) 178 dL_isTold_162 (by decide) (fun c162 => ?_) (fun c162 => ?_)
    · skip
      refine zz_iconst (v := nI 1) hX dL_isTold_178 rfl ?_
      refine zz_iload hX dL_isTold_179 8 rfl ?_
      refine zz_bipush (v := nI 13) hX dL_isTold_181 rfl ?_
      refine zz_idiv (z := nI (two / 13)) hX dL_isTold_183 (by decide) (pk_div (by omega) (by decide) (by decide)) ?_
      refine zz_iconst (v := nI 4) hX dL_isTold_184 rfl ?_
      refine zz_irem (z := nI ((two / 13) % 4)) hX dL_isTold_185 (by decide) (pk_rem (by omega) (by decide) (by decide)) ?_
      refine zz_iadd (z := nI (1 + (two / 13) % 4)) hX dL_isTold_186 (nI_add _ _) ?_
      exact K187 (1 + (two / 13) % 4) (by omega)
    · skip
      refine zz_iload hX dL_isTold_165 8 rfl ?_
      refine zz_bipush (v := nI 117) hX dL_isTold_167 rfl ?_
      refine zz_idiv (z := nI (two / 117)) hX dL_isTold_169 (by decide) (pk_div (by omega) (by decide) (by decide)) ?_
      refine zz_iconst (v := nI 2) hX dL_isTold_170 rfl ?_
      refine zz_irem (z := nI ((two / 117) % 2)) hX dL_isTold_171 (by decide) (pk_rem (by omega) (by decide) (by decide)) ?_
      refine zz_bipush (v := nI 10) hX dL_isTold_172 rfl ?_
      refine zz_imul (z := nI (((two / 117) % 2) * 10)) hX dL_isTold_174 (pk_mul _ _) ?_
      refine zz_goto hX 187 dL_isTold_175 (by decide) ?_
      exact K187 (((two / 117) % 2) * 10) (by omega)
  refine zz_iload hX dL_isTold_133 8 rfl ?_
  refine zz_bipush (v := nI 13) hX dL_isTold_135 rfl ?_
  refine zz_irem (z := nI (two % 13)) hX dL_isTold_137 (by decide) (pk_rem (by omega) (by decide) (by decide)) ?_
  refine zz_bipush (v := nI 12) hX dL_isTold_138 rfl ?_
  refine zz_icmp_neN hX (by omega) (by decide) 148 dL_isTold_140 (by decide) (fun c140 => ?_) (fun c140 => ?_)
  · skip
    refine zz_iload hX dL_isTold_148 8 rfl ?_
    refine zz_iconst (v := nI 3) hX dL_isTold_150 rfl ?_
    refine zz_irem (z := nI (two % 3)) hX dL_isTold_151 (by decide) (pk_rem (by omega) (by decide) (by decide)) ?_
    exact K152 (two % 3) (by omega)
  · skip
    refine zz_bipush (v := nI 10) hX dL_isTold_143 rfl ?_
    refine zz_goto hX 152 dL_isTold_145 (by decide) ?_
    exact K152 10 (by omega)

set_option maxHeartbeats 1000000 in
set_option maxRecDepth 20000 in
theorem T_sound (n : Nat) (hn : n + 1 ≤ 64) (S : zS) (sh : zm_Sh) (mi : zm_Mi) (mr : zm_Mr) (hI : ql_I n S sh mi) (hR : zR S sh mi mr) (h10 : sh 10 = some (9, 0)) (one two : Nat) (ho : one < 60000) (ht : two < 60000)  : zz_Con yL_isTold (.code yL_isTold cL_isTold 16 (some Jvm.ClassFile.FieldType.boolean)) 12 10 60 [.ref 2, .ref 100, .ref 102, .ref 103, .ref 104, .ref 109, .int (nI 2), .int (nI one), .int (nI two)] sh mi mr (ql_T n) zz_none := by
  refine zz_begin RL [(0, .ref 2), (1, .ref 100), (2, .ref 102), (3, .ref 103), (4, .ref 104), (5, .ref 109), (6, .int (nI 2)), (7, .int (nI one)), (8, .int (nI two))] (by decide) rfl rfl (Nat.le_of_ble_eq_true rfl) rfl ?_
  intro Γ D E ad hX hr hN hT
  obtain ⟨n1, n2, n3, n4⟩ := ql_num hI
  have hsm := ql_small hI
  have hsc9 := (ql_BB hI).2.1.2 (zv_nv S) (by omega)
  refine zz_iload hX dL_isTold_0 6 rfl ?_
  refine zz_if_ne hX 116 dL_isTold_2 (by decide) (fun _ => ?_) (fun c => absurd c (by decide))
  refine zz_iload hX dL_isTold_116 7 rfl ?_
  refine zz_aload hX dL_isTold_118 5 rfl ?_
  refine zz_iconst (v := nI 0) hX dL_isTold_120 rfl ?_
  refine zz_iald (x := nI (zv_np S)) hX (ql_s109 hI) 0 rfl (by decide) (by decide) ((ql_g0 hI)) dL_isTold_121 ?_
  refine zz_iconst (v := nI 1) hX dL_isTold_122 rfl ?_
  refine zz_iadd (z := nI (zv_np S + 1)) hX dL_isTold_123 (nI_add _ _) ?_
  refine zz_irem (z := nI (one % (zv_np S + 1))) hX dL_isTold_124 (nI_ne0 (by omega) (by omega)) (pk_rem (by omega) (by omega) (by omega)) ?_
  have ht9 : one % (zv_np S + 1) < zv_np S + 1 := Nat.mod_lt _ (by omega)
  generalize one % (zv_np S + 1) = t at ht9 ⊢
  have z_t : zn (nI t) = t := nI_clamp (n := t) (by omega)
  refine zz_istore (ls' := [(0, .ref 2), (1, .ref 100), (2, .ref 102), (3, .ref 103), (4, .ref 104), (5, .ref 109), (6, .int (nI 2)), (7, .int (nI one)), (8, .int (nI two)), (9, .int (nI t))]) hX dL_isTold_125 (Nat.le_of_ble_eq_true rfl) rfl ?_
  refine zz_iload hX dL_isTold_127 6 rfl ?_
  refine zz_iconst (v := nI 2) hX dL_isTold_129 rfl ?_
  refine zz_icmp_ge hX 360 dL_isTold_130 (by decide) (fun _ => ?_) (fun c => absurd c (by decide))
  refine zz_iload hX dL_isTold_360 6 rfl ?_
  refine zz_iconst (v := nI 2) hX dL_isTold_362 rfl ?_
  refine zz_icmp_ne hX 544 dL_isTold_363 (by decide) (fun c => absurd c (by decide)) (fun _ => ?_)
  refine zz_aload hX dL_isTold_366 5 rfl ?_
  refine zz_iconst (v := nI 1) hX dL_isTold_368 rfl ?_
  refine zz_iald (x := nI (zv_nv S)) hX (ql_s109 hI) 1 rfl (by decide) (by decide) ((ql_g1 hI)) dL_isTold_369 ?_
  refine zz_istore (ls' := [(0, .ref 2), (1, .ref 100), (2, .ref 102), (3, .ref 103), (4, .ref 104), (5, .ref 109), (6, .int (nI 2)), (7, .int (nI one)), (8, .int (nI two)), (9, .int (nI t)), (10, .int (nI (zv_nv S)))]) hX dL_isTold_370 (Nat.le_of_ble_eq_true rfl) rfl ?_
  have K391 : ∀ y : Nat, y ≤ 10 → zz Γ (D, E, 16, ad, sh) (zz_End Γ (D, E, 16, ad, sh) (ql_T n) zz_none 10 60) 0 0 sh mi mr 391 [(0, .ref 2), (1, .ref 100), (2, .ref 102), (3, .ref 103), (4, .ref 104), (5, .ref 109), (6, .int (nI 2)), (7, .int (nI one)), (8, .int (nI two)), (9, .int (nI t)), (10, .int (nI (zv_nv S)))] [.int (nI y)] := by
    intro y hy
    refine zz_istore (ls' := [(0, .ref 2), (1, .ref 100), (2, .ref 102), (3, .ref 103), (4, .ref 104), (5, .ref 109), (6, .int (nI 2)), (7, .int (nI one)), (8, .int (nI two)), (9, .int (nI t)), (10, .int (nI (zv_nv S))), (11, .int (nI y))]) hX dL_isTold_391 (Nat.le_of_ble_eq_true rfl) rfl ?_
    have K420 : ∀ x : Nat, (x = 0 ∨ x = 25 ∨ (1 ≤ x ∧ x ≤ 4)) → zz Γ (D, E, 16, ad, sh) (zz_End Γ (D, E, 16, ad, sh) (ql_T n) zz_none 10 60) 0 0 sh mi mr 420 [(0, .ref 2), (1, .ref 100), (2, .ref 102), (3, .ref 103), (4, .ref 104), (5, .ref 109), (6, .int (nI 2)), (7, .int (nI one)), (8, .int (nI two)), (9, .int (nI t)), (10, .int (nI (zv_nv S))), (11, .int (nI y))] [.int (nI x)] := by
      intro x hx
      refine zz_istore (ls' := [(0, .ref 2), (1, .ref 100), (2, .ref 102), (3, .ref 103), (4, .ref 104), (5, .ref 109), (6, .int (nI 2)), (7, .int (nI one)), (8, .int (nI two)), (9, .int (nI t)), (10, .int (nI (zv_nv S))), (11, .int (nI y)), (12, .int (nI x))]) hX dL_isTold_420 (Nat.le_of_ble_eq_true rfl) rfl ?_
      by_cases g0 : y < 10 ∧ 0 < x ∧ x < 25
      · skip
        refine zz_iload hX dL_isTold_422 11 rfl ?_
        refine zz_bipush (v := nI 10) hX dL_isTold_424 rfl ?_
        refine zz_icmp_geN hX (by omega) (by decide) 445 dL_isTold_426 (by decide) (fun c426 => absurd c426 (by omega)) (fun c426 => ?_)
        refine zz_iload hX dL_isTold_429 12 rfl ?_
        refine zz_if_leN hX (by omega) 445 dL_isTold_431 (by decide) (fun c431 => absurd c431 (by omega)) (fun c431 => ?_)
        refine zz_iload hX dL_isTold_434 12 rfl ?_
        refine zz_bipush (v := nI 25) hX dL_isTold_436 rfl ?_
        refine zz_icmp_geN hX (by omega) (by decide) 445 dL_isTold_438 (by decide) (fun c438 => absurd c438 (by omega)) (fun c438 => ?_)
        refine zz_iconst (v := nI 1) hX dL_isTold_441 rfl ?_
        refine zz_goto hX 446 dL_isTold_442 (by decide) ?_
        refine zz_istore (ls' := [(0, .ref 2), (1, .ref 100), (2, .ref 102), (3, .ref 103), (4, .ref 104), (5, .ref 109), (6, .int (nI 2)), (7, .int (nI one)), (8, .int (nI two)), (9, .int (nI t)), (10, .int (nI (zv_nv S))), (11, .int (nI y)), (12, .int (nI x)), (13, .int (nI 1))]) hX dL_isTold_446 (Nat.le_of_ble_eq_true rfl) rfl ?_
        refine zz_iload hX dL_isTold_448 10 rfl ?_
        refine zz_iconst (v := nI 2) hX dL_isTold_450 rfl ?_
        refine zz_icmp_gtN hX (by omega) (by decide) 466 dL_isTold_451 (by decide) (fun c451 => ?_) (fun c451 => ?_)
        · skip
          refine zz_iconst (v := nI 1) hX dL_isTold_466 rfl ?_
          refine zz_iret hX hr rfl (Nat.le_of_ble_eq_true rfl) (Nat.le_of_ble_eq_true rfl) dL_isTold_467 ?_
          exact ⟨rfl, ⟨S, ql_I_mono hI (by omega) hn, hR⟩, h10⟩
        · skip
          refine zz_aload_n hX dL_isTold_454 3 rfl rfl ?_
          refine zz_bipush (v := nI 18) hX dL_isTold_455 rfl ?_
          refine zz_iload hX dL_isTold_457 10 rfl ?_
          refine zz_iadd (z := nI (18 + zv_nv S)) hX dL_isTold_459 (nI_add _ _) ?_
          refine zz_iald (x := nI (zv_sc S (zv_nv S))) hX (ql_s103 hI) (18 + zv_nv S) rfl (by omega) (by decide) ((ql_g103 hI (by omega))) dL_isTold_460 ?_
          refine zz_bipush (v := nI 6) hX dL_isTold_461 rfl ?_
          refine zz_icmp_neN hX (by omega) (by decide) 468 dL_isTold_463 (by decide) (fun c463 => ?_) (fun c463 => ?_)
          · skip
            refine zz_iload hX dL_isTold_468 13 rfl ?_
            refine zz_if_eq hX 507 dL_isTold_470 (by decide) (fun c => absurd c (by decide)) (fun _ => ?_)
            refine zz_aload_n hX dL_isTold_473 3 rfl rfl ?_
            refine zz_bipush (v := nI 6) hX dL_isTold_474 rfl ?_
            refine zz_iload hX dL_isTold_476 10 rfl ?_
            refine zz_imul (z := nI (6 * (zv_nv S))) hX dL_isTold_478 (pk_mul _ _) ?_
            refine zz_aload_n hX dL_isTold_479 3 rfl rfl ?_
            refine zz_bipush (v := nI 18) hX dL_isTold_480 rfl ?_
            refine zz_iload hX dL_isTold_482 10 rfl ?_
            refine zz_iadd (z := nI (18 + zv_nv S)) hX dL_isTold_484 (nI_add _ _) ?_
            refine zz_iald (x := nI (zv_sc S (zv_nv S))) hX (ql_s103 hI) (18 + zv_nv S) rfl (by omega) (by decide) ((ql_g103 hI (by omega))) dL_isTold_485 ?_
            refine zz_iadd (z := nI (6 * (zv_nv S) + zv_sc S (zv_nv S))) hX dL_isTold_486 (nI_add _ _) ?_
            refine zz_iload hX dL_isTold_487 11 rfl ?_
            refine zz_bipush (v := nI 16) hX dL_isTold_489 rfl ?_
            refine zz_iload hX dL_isTold_491 12 rfl ?_
            refine zz_imul (z := nI (16 * x)) hX dL_isTold_493 (pk_mul _ _) ?_
            refine zz_iadd (z := nI (y + 16 * x)) hX dL_isTold_494 (nI_add _ _) ?_
            refine zz_top (show nI (y + 16 * x) = nI y + nI 16 * nI x by rw [pk_mul, nI_add]) ?_
            refine zz_iast hX (ql_s103 hI) (6 * (zv_nv S) + zv_sc S (zv_nv S)) rfl (by omega) (by decide) dL_isTold_495 ?_
            refine zz_aload_n hX dL_isTold_496 3 rfl rfl ?_
            refine zz_bipush (v := nI 18) hX dL_isTold_497 rfl ?_
            refine zz_iload hX dL_isTold_499 10 rfl ?_
            refine zz_iadd (z := nI (18 + zv_nv S)) hX dL_isTold_501 (nI_add _ _) ?_
            refine zz_dup2 hX dL_isTold_502 rfl rfl ?_
            refine zz_iald (x := nI (zv_sc S (zv_nv S))) hX (ql_s103 hI) (18 + zv_nv S) rfl (by omega) (by decide) (((zm_u2k (by omega))).trans ((ql_g103 hI (by omega)))) dL_isTold_503 ?_
            refine zz_iconst (v := nI 1) hX dL_isTold_504 rfl ?_
            refine zz_iadd (z := nI (zv_sc S (zv_nv S) + 1)) hX dL_isTold_505 (nI_add _ _) ?_
            refine zz_iast hX (ql_s103 hI) (18 + zv_nv S) rfl (by omega) (by decide) dL_isTold_506 ?_
            refine zz_aload_n hX dL_isTold_507 0 rfl rfl ?_
            refine zz_iconst (v := nI 2) hX dL_isTold_508 rfl ?_
            refine zz_iload hX dL_isTold_509 11 rfl ?_
            refine zz_iload hX dL_isTold_511 12 rfl ?_
            refine zz_iconst (v := nI 0) hX dL_isTold_513 rfl ?_
            refine zz_iconst (v := nI 0) hX dL_isTold_514 rfl ?_
            have hB9 : (nI 0 ≤ nI y ∧ nI y ≤ nI 9) ∧ (nI 1 ≤ nI x ∧ nI x ≤ nI 24) := ⟨(zs_r2 (by omega)).mpr (by omega), (zs_r2 (by omega)).mpr (by omega)⟩
            have hC9 : zv_sc S (zv_nv S) < 12 := by omega
            refine zz_callSH hX zf_M_L_161 (As := [.ref 2, .int (nI 2), .int (nI y), .int (nI x), .int (nI 0), .int (nI 0)]) (st := []) (D_sound S sh (zm_u2 (zm_u2 mi 103 (6 * (zv_nv S) + zv_sc S (zv_nv S)) (nI y + nI 16 * nI x)) 103 (18 + zv_nv S) (nI (zv_sc S (zv_nv S) + 1))) mr (ql_W hI) (ql_R_f (ql_W hI) hR (M := (zm_u2 (zm_u2 mi 103 (6 * (zv_nv S) + zv_sc S (zv_nv S)) (nI y + nI 16 * nI x)) 103 (18 + zv_nv S) (nI (zv_sc S (zv_nv S) + 1)))) (fun l hl => (zm_u2r (by omega)).trans (zm_u2r (by omega)))) (nI y) (nI x) (nI 0) (nI 0)) rfl rfl (by decide) (Nat.le_of_ble_eq_true rfl) (Nat.le_of_ble_eq_true rfl) (Nat.le_of_ble_eq_true rfl) dL_isTold_515 ?_ (fun _ _ _ _ h _ => h.elim)
            rintro v9 s9 i9 m9 ⟨k9, rfl, hk9, hS9⟩ -
            obtain ⟨e9, hR9⟩ := zq_d1 hk9 trivial hB9 hC9
            obtain rfl := e9.symm
            refine zz_iload hX dL_isTold_518 13 rfl ?_
            refine zz_if_eq hX 533 dL_isTold_520 (by decide) (fun c => absurd c (by decide)) (fun _ => ?_)
            refine zz_aload_n hX dL_isTold_523 3 rfl rfl ?_
            refine zz_bipush (v := nI 18) hX dL_isTold_524 rfl ?_
            refine zz_iload hX dL_isTold_526 10 rfl ?_
            refine zz_iadd (z := nI (18 + zv_nv S)) hX dL_isTold_528 (nI_add _ _) ?_
            refine zz_iald (x := nI (zv_sc S (zv_nv S) + 1)) hX ((hS9 103 (by unfold zr_out; omega)).1.trans (ql_s103 hI)) (18 + zv_nv S) rfl (by omega) (by decide) ((congrFun (hS9 103 (by unfold zr_out; omega)).2.1 _).trans (zm_u2s)) dL_isTold_529 ?_
            refine zz_goto hX 535 dL_isTold_530 (by decide) ?_
            refine zz_icmp_neN hX (by omega) (by omega) 542 dL_isTold_535 (by decide) (fun c535 => absurd c535 (by omega)) (fun c535 => ?_)
            refine zz_iconst (v := nI 1) hX dL_isTold_538 rfl ?_
            refine zz_goto hX 543 dL_isTold_539 (by decide) ?_
            refine zz_iret hX hr rfl (Nat.le_of_ble_eq_true rfl) (Nat.le_of_ble_eq_true rfl) dL_isTold_543 ?_
            exact ⟨rfl, ⟨_, ql_J_end hn (U_sound (ql_W hI) (nI y) (nI x) trivial hB9 hC9) (ql_B_sound (ql_BB hI) (by omega) (by omega)) (ql_N_sound hI.2.2.2 (by omega) (by omega)) hR9 hS9⟩, ql_10 h10 hS9⟩
          · skip
            refine zz_iconst (v := nI 1) hX dL_isTold_466 rfl ?_
            refine zz_iret hX hr rfl (Nat.le_of_ble_eq_true rfl) (Nat.le_of_ble_eq_true rfl) dL_isTold_467 ?_
            exact ⟨rfl, ⟨S, ql_I_mono hI (by omega) hn, hR⟩, h10⟩
      · skip
        refine zz_iload hX dL_isTold_422 11 rfl ?_
        refine zz_bipush (v := nI 10) hX dL_isTold_424 rfl ?_
        refine zz_icmp_geN hX (by omega) (by decide) 445 dL_isTold_426 (by decide) (fun c426 => ?_) (fun c426 => ?_)
        · skip
          refine zz_iconst (v := nI 0) hX dL_isTold_445 rfl ?_
          refine zz_istore (ls' := [(0, .ref 2), (1, .ref 100), (2, .ref 102), (3, .ref 103), (4, .ref 104), (5, .ref 109), (6, .int (nI 2)), (7, .int (nI one)), (8, .int (nI two)), (9, .int (nI t)), (10, .int (nI (zv_nv S))), (11, .int (nI y)), (12, .int (nI x)), (13, .int (nI 0))]) hX dL_isTold_446 (Nat.le_of_ble_eq_true rfl) rfl ?_
          refine zz_iload hX dL_isTold_448 10 rfl ?_
          refine zz_iconst (v := nI 2) hX dL_isTold_450 rfl ?_
          refine zz_icmp_gtN hX (by omega) (by decide) 466 dL_isTold_451 (by decide) (fun c451 => ?_) (fun c451 => ?_)
          · skip
            refine zz_iconst (v := nI 1) hX dL_isTold_466 rfl ?_
            refine zz_iret hX hr rfl (Nat.le_of_ble_eq_true rfl) (Nat.le_of_ble_eq_true rfl) dL_isTold_467 ?_
            exact ⟨rfl, ⟨S, ql_I_mono hI (by omega) hn, hR⟩, h10⟩
          · skip
            refine zz_aload_n hX dL_isTold_454 3 rfl rfl ?_
            refine zz_bipush (v := nI 18) hX dL_isTold_455 rfl ?_
            refine zz_iload hX dL_isTold_457 10 rfl ?_
            refine zz_iadd (z := nI (18 + zv_nv S)) hX dL_isTold_459 (nI_add _ _) ?_
            refine zz_iald (x := nI (zv_sc S (zv_nv S))) hX (ql_s103 hI) (18 + zv_nv S) rfl (by omega) (by decide) ((ql_g103 hI (by omega))) dL_isTold_460 ?_
            refine zz_bipush (v := nI 6) hX dL_isTold_461 rfl ?_
            refine zz_icmp_neN hX (by omega) (by decide) 468 dL_isTold_463 (by decide) (fun c463 => ?_) (fun c463 => ?_)
            · skip
              refine zz_iload hX dL_isTold_468 13 rfl ?_
              refine zz_if_eq hX 507 dL_isTold_470 (by decide) (fun _ => ?_) (fun c => absurd c (by decide))
              refine zz_aload_n hX dL_isTold_507 0 rfl rfl ?_
              refine zz_iconst (v := nI 2) hX dL_isTold_508 rfl ?_
              refine zz_iload hX dL_isTold_509 11 rfl ?_
              refine zz_iload hX dL_isTold_511 12 rfl ?_
              refine zz_iconst (v := nI 0) hX dL_isTold_513 rfl ?_
              refine zz_iconst (v := nI 0) hX dL_isTold_514 rfl ?_
              refine zz_callSH hX zf_M_L_161 (As := [.ref 2, .int (nI 2), .int (nI y), .int (nI x), .int (nI 0), .int (nI 0)]) (st := []) (D_sound S sh mi mr (ql_W hI) (ql_R_f (ql_W hI) hR (M := mi) (fun l hl => rfl)) (nI y) (nI x) (nI 0) (nI 0)) rfl rfl (by decide) (Nat.le_of_ble_eq_true rfl) (Nat.le_of_ble_eq_true rfl) (Nat.le_of_ble_eq_true rfl) dL_isTold_515 ?_ (fun _ _ _ _ h _ => h.elim)
              rintro v9 s9 i9 m9 ⟨k9, rfl, hk9, hS9⟩ -
              obtain ⟨e9, hR9⟩ := zq_d3 hk9 trivial (fun h => by have h1 := (zs_r2 (x := y) (by omega)).mp h.1; have h2 := (zs_r2 (x := x) (by omega)).mp h.2; omega)
              obtain rfl := e9.symm
              refine zz_iload hX dL_isTold_518 13 rfl ?_
              refine zz_if_eq hX 533 dL_isTold_520 (by decide) (fun _ => ?_) (fun c => absurd c (by decide))
              refine zz_ldc (v := -2000000) hX zw_con_L_87 dL_isTold_533 ?_
              refine zz_icmp_ne hX 542 dL_isTold_535 (by decide) (fun c => absurd c (by decide)) (fun _ => ?_)
              refine zz_iconst (v := nI 1) hX dL_isTold_538 rfl ?_
              refine zz_goto hX 543 dL_isTold_539 (by decide) ?_
              refine zz_iret hX hr rfl (Nat.le_of_ble_eq_true rfl) (Nat.le_of_ble_eq_true rfl) dL_isTold_543 ?_
              exact ⟨rfl, ⟨_, ql_J_end hn (ql_W hI) (ql_B_mono (ql_BB hI) (by omega)) hI.2.2.2 hR9 hS9⟩, ql_10 h10 hS9⟩
            · skip
              refine zz_iconst (v := nI 1) hX dL_isTold_466 rfl ?_
              refine zz_iret hX hr rfl (Nat.le_of_ble_eq_true rfl) (Nat.le_of_ble_eq_true rfl) dL_isTold_467 ?_
              exact ⟨rfl, ⟨S, ql_I_mono hI (by omega) hn, hR⟩, h10⟩
        · skip
          refine zz_iload hX dL_isTold_429 12 rfl ?_
          refine zz_if_leN hX (by omega) 445 dL_isTold_431 (by decide) (fun c431 => ?_) (fun c431 => ?_)
          · skip
            refine zz_iconst (v := nI 0) hX dL_isTold_445 rfl ?_
            refine zz_istore (ls' := [(0, .ref 2), (1, .ref 100), (2, .ref 102), (3, .ref 103), (4, .ref 104), (5, .ref 109), (6, .int (nI 2)), (7, .int (nI one)), (8, .int (nI two)), (9, .int (nI t)), (10, .int (nI (zv_nv S))), (11, .int (nI y)), (12, .int (nI x)), (13, .int (nI 0))]) hX dL_isTold_446 (Nat.le_of_ble_eq_true rfl) rfl ?_
            refine zz_iload hX dL_isTold_448 10 rfl ?_
            refine zz_iconst (v := nI 2) hX dL_isTold_450 rfl ?_
            refine zz_icmp_gtN hX (by omega) (by decide) 466 dL_isTold_451 (by decide) (fun c451 => ?_) (fun c451 => ?_)
            · skip
              refine zz_iconst (v := nI 1) hX dL_isTold_466 rfl ?_
              refine zz_iret hX hr rfl (Nat.le_of_ble_eq_true rfl) (Nat.le_of_ble_eq_true rfl) dL_isTold_467 ?_
              exact ⟨rfl, ⟨S, ql_I_mono hI (by omega) hn, hR⟩, h10⟩
            · skip
              refine zz_aload_n hX dL_isTold_454 3 rfl rfl ?_
              refine zz_bipush (v := nI 18) hX dL_isTold_455 rfl ?_
              refine zz_iload hX dL_isTold_457 10 rfl ?_
              refine zz_iadd (z := nI (18 + zv_nv S)) hX dL_isTold_459 (nI_add _ _) ?_
              refine zz_iald (x := nI (zv_sc S (zv_nv S))) hX (ql_s103 hI) (18 + zv_nv S) rfl (by omega) (by decide) ((ql_g103 hI (by omega))) dL_isTold_460 ?_
              refine zz_bipush (v := nI 6) hX dL_isTold_461 rfl ?_
              refine zz_icmp_neN hX (by omega) (by decide) 468 dL_isTold_463 (by decide) (fun c463 => ?_) (fun c463 => ?_)
              · skip
                refine zz_iload hX dL_isTold_468 13 rfl ?_
                refine zz_if_eq hX 507 dL_isTold_470 (by decide) (fun _ => ?_) (fun c => absurd c (by decide))
                refine zz_aload_n hX dL_isTold_507 0 rfl rfl ?_
                refine zz_iconst (v := nI 2) hX dL_isTold_508 rfl ?_
                refine zz_iload hX dL_isTold_509 11 rfl ?_
                refine zz_iload hX dL_isTold_511 12 rfl ?_
                refine zz_iconst (v := nI 0) hX dL_isTold_513 rfl ?_
                refine zz_iconst (v := nI 0) hX dL_isTold_514 rfl ?_
                refine zz_callSH hX zf_M_L_161 (As := [.ref 2, .int (nI 2), .int (nI y), .int (nI x), .int (nI 0), .int (nI 0)]) (st := []) (D_sound S sh mi mr (ql_W hI) (ql_R_f (ql_W hI) hR (M := mi) (fun l hl => rfl)) (nI y) (nI x) (nI 0) (nI 0)) rfl rfl (by decide) (Nat.le_of_ble_eq_true rfl) (Nat.le_of_ble_eq_true rfl) (Nat.le_of_ble_eq_true rfl) dL_isTold_515 ?_ (fun _ _ _ _ h _ => h.elim)
                rintro v9 s9 i9 m9 ⟨k9, rfl, hk9, hS9⟩ -
                obtain ⟨e9, hR9⟩ := zq_d3 hk9 trivial (fun h => by have h1 := (zs_r2 (x := y) (by omega)).mp h.1; have h2 := (zs_r2 (x := x) (by omega)).mp h.2; omega)
                obtain rfl := e9.symm
                refine zz_iload hX dL_isTold_518 13 rfl ?_
                refine zz_if_eq hX 533 dL_isTold_520 (by decide) (fun _ => ?_) (fun c => absurd c (by decide))
                refine zz_ldc (v := -2000000) hX zw_con_L_87 dL_isTold_533 ?_
                refine zz_icmp_ne hX 542 dL_isTold_535 (by decide) (fun c => absurd c (by decide)) (fun _ => ?_)
                refine zz_iconst (v := nI 1) hX dL_isTold_538 rfl ?_
                refine zz_goto hX 543 dL_isTold_539 (by decide) ?_
                refine zz_iret hX hr rfl (Nat.le_of_ble_eq_true rfl) (Nat.le_of_ble_eq_true rfl) dL_isTold_543 ?_
                exact ⟨rfl, ⟨_, ql_J_end hn (ql_W hI) (ql_B_mono (ql_BB hI) (by omega)) hI.2.2.2 hR9 hS9⟩, ql_10 h10 hS9⟩
              · skip
                refine zz_iconst (v := nI 1) hX dL_isTold_466 rfl ?_
                refine zz_iret hX hr rfl (Nat.le_of_ble_eq_true rfl) (Nat.le_of_ble_eq_true rfl) dL_isTold_467 ?_
                exact ⟨rfl, ⟨S, ql_I_mono hI (by omega) hn, hR⟩, h10⟩
          · skip
            refine zz_iload hX dL_isTold_434 12 rfl ?_
            refine zz_bipush (v := nI 25) hX dL_isTold_436 rfl ?_
            refine zz_icmp_geN hX (by omega) (by decide) 445 dL_isTold_438 (by decide) (fun c438 => ?_) (fun c438 => absurd c438 (by omega))
            refine zz_iconst (v := nI 0) hX dL_isTold_445 rfl ?_
            refine zz_istore (ls' := [(0, .ref 2), (1, .ref 100), (2, .ref 102), (3, .ref 103), (4, .ref 104), (5, .ref 109), (6, .int (nI 2)), (7, .int (nI one)), (8, .int (nI two)), (9, .int (nI t)), (10, .int (nI (zv_nv S))), (11, .int (nI y)), (12, .int (nI x)), (13, .int (nI 0))]) hX dL_isTold_446 (Nat.le_of_ble_eq_true rfl) rfl ?_
            refine zz_iload hX dL_isTold_448 10 rfl ?_
            refine zz_iconst (v := nI 2) hX dL_isTold_450 rfl ?_
            refine zz_icmp_gtN hX (by omega) (by decide) 466 dL_isTold_451 (by decide) (fun c451 => ?_) (fun c451 => ?_)
            · skip
              refine zz_iconst (v := nI 1) hX dL_isTold_466 rfl ?_
              refine zz_iret hX hr rfl (Nat.le_of_ble_eq_true rfl) (Nat.le_of_ble_eq_true rfl) dL_isTold_467 ?_
              exact ⟨rfl, ⟨S, ql_I_mono hI (by omega) hn, hR⟩, h10⟩
            · skip
              refine zz_aload_n hX dL_isTold_454 3 rfl rfl ?_
              refine zz_bipush (v := nI 18) hX dL_isTold_455 rfl ?_
              refine zz_iload hX dL_isTold_457 10 rfl ?_
              refine zz_iadd (z := nI (18 + zv_nv S)) hX dL_isTold_459 (nI_add _ _) ?_
              refine zz_iald (x := nI (zv_sc S (zv_nv S))) hX (ql_s103 hI) (18 + zv_nv S) rfl (by omega) (by decide) ((ql_g103 hI (by omega))) dL_isTold_460 ?_
              refine zz_bipush (v := nI 6) hX dL_isTold_461 rfl ?_
              refine zz_icmp_neN hX (by omega) (by decide) 468 dL_isTold_463 (by decide) (fun c463 => ?_) (fun c463 => ?_)
              · skip
                refine zz_iload hX dL_isTold_468 13 rfl ?_
                refine zz_if_eq hX 507 dL_isTold_470 (by decide) (fun _ => ?_) (fun c => absurd c (by decide))
                refine zz_aload_n hX dL_isTold_507 0 rfl rfl ?_
                refine zz_iconst (v := nI 2) hX dL_isTold_508 rfl ?_
                refine zz_iload hX dL_isTold_509 11 rfl ?_
                refine zz_iload hX dL_isTold_511 12 rfl ?_
                refine zz_iconst (v := nI 0) hX dL_isTold_513 rfl ?_
                refine zz_iconst (v := nI 0) hX dL_isTold_514 rfl ?_
                refine zz_callSH hX zf_M_L_161 (As := [.ref 2, .int (nI 2), .int (nI y), .int (nI x), .int (nI 0), .int (nI 0)]) (st := []) (D_sound S sh mi mr (ql_W hI) (ql_R_f (ql_W hI) hR (M := mi) (fun l hl => rfl)) (nI y) (nI x) (nI 0) (nI 0)) rfl rfl (by decide) (Nat.le_of_ble_eq_true rfl) (Nat.le_of_ble_eq_true rfl) (Nat.le_of_ble_eq_true rfl) dL_isTold_515 ?_ (fun _ _ _ _ h _ => h.elim)
                rintro v9 s9 i9 m9 ⟨k9, rfl, hk9, hS9⟩ -
                obtain ⟨e9, hR9⟩ := zq_d3 hk9 trivial (fun h => by have h1 := (zs_r2 (x := y) (by omega)).mp h.1; have h2 := (zs_r2 (x := x) (by omega)).mp h.2; omega)
                obtain rfl := e9.symm
                refine zz_iload hX dL_isTold_518 13 rfl ?_
                refine zz_if_eq hX 533 dL_isTold_520 (by decide) (fun _ => ?_) (fun c => absurd c (by decide))
                refine zz_ldc (v := -2000000) hX zw_con_L_87 dL_isTold_533 ?_
                refine zz_icmp_ne hX 542 dL_isTold_535 (by decide) (fun c => absurd c (by decide)) (fun _ => ?_)
                refine zz_iconst (v := nI 1) hX dL_isTold_538 rfl ?_
                refine zz_goto hX 543 dL_isTold_539 (by decide) ?_
                refine zz_iret hX hr rfl (Nat.le_of_ble_eq_true rfl) (Nat.le_of_ble_eq_true rfl) dL_isTold_543 ?_
                exact ⟨rfl, ⟨_, ql_J_end hn (ql_W hI) (ql_B_mono (ql_BB hI) (by omega)) hI.2.2.2 hR9 hS9⟩, ql_10 h10 hS9⟩
              · skip
                refine zz_iconst (v := nI 1) hX dL_isTold_466 rfl ?_
                refine zz_iret hX hr rfl (Nat.le_of_ble_eq_true rfl) (Nat.le_of_ble_eq_true rfl) dL_isTold_467 ?_
                exact ⟨rfl, ⟨S, ql_I_mono hI (by omega) hn, hR⟩, h10⟩
    refine zz_iload hX dL_isTold_393 8 rfl ?_
    refine zz_bipush (v := nI 9) hX dL_isTold_395 rfl ?_
    refine zz_irem (z := nI (two % 9)) hX dL_isTold_397 (by decide) (pk_rem (by omega) (by decide) (by decide)) ?_
    refine zz_if_neN hX (by omega) 414 dL_isTold_398 (by decide) (fun c398 => ?_) (fun c398 => ?_)
    · skip
      refine zz_iconst (v := nI 1) hX dL_isTold_414 rfl ?_
      refine zz_iload hX dL_isTold_415 8 rfl ?_
      refine zz_iconst (v := nI 4) hX dL_isTold_417 rfl ?_
      refine zz_irem (z := nI (two % 4)) hX dL_isTold_418 (by decide) (pk_rem (by omega) (by decide) (by decide)) ?_
      refine zz_iadd (z := nI (1 + two % 4)) hX dL_isTold_419 (nI_add _ _) ?_
      exact K420 (1 + two % 4) (by omega)
    · skip
      refine zz_iload hX dL_isTold_401 8 rfl ?_
      refine zz_bipush (v := nI 9) hX dL_isTold_403 rfl ?_
      refine zz_idiv (z := nI (two / 9)) hX dL_isTold_405 (by decide) (pk_div (by omega) (by decide) (by decide)) ?_
      refine zz_iconst (v := nI 2) hX dL_isTold_406 rfl ?_
      refine zz_irem (z := nI ((two / 9) % 2)) hX dL_isTold_407 (by decide) (pk_rem (by omega) (by decide) (by decide)) ?_
      refine zz_bipush (v := nI 25) hX dL_isTold_408 rfl ?_
      refine zz_imul (z := nI (((two / 9) % 2) * 25)) hX dL_isTold_410 (pk_mul _ _) ?_
      refine zz_goto hX 420 dL_isTold_411 (by decide) ?_
      exact K420 (((two / 9) % 2) * 25) (by omega)
  refine zz_iload hX dL_isTold_372 7 rfl ?_
  refine zz_bipush (v := nI 13) hX dL_isTold_374 rfl ?_
  refine zz_irem (z := nI (one % 13)) hX dL_isTold_376 (by decide) (pk_rem (by omega) (by decide) (by decide)) ?_
  refine zz_bipush (v := nI 12) hX dL_isTold_377 rfl ?_
  refine zz_icmp_neN hX (by omega) (by decide) 387 dL_isTold_379 (by decide) (fun c379 => ?_) (fun c379 => ?_)
  · skip
    refine zz_iload hX dL_isTold_387 7 rfl ?_
    refine zz_iconst (v := nI 3) hX dL_isTold_389 rfl ?_
    refine zz_irem (z := nI (one % 3)) hX dL_isTold_390 (by decide) (pk_rem (by omega) (by decide) (by decide)) ?_
    exact K391 (one % 3) (by omega)
  · skip
    refine zz_bipush (v := nI 10) hX dL_isTold_382 rfl ?_
    refine zz_goto hX 391 dL_isTold_384 (by decide) ?_
    exact K391 10 (by omega)

set_option maxHeartbeats 1000000 in
set_option maxRecDepth 20000 in
theorem T_voice (n : Nat) (hn : n + 1 ≤ 64) (S : zS) (sh : zm_Sh) (mi : zm_Mi) (mr : zm_Mr) (hI : ql_I n S sh mi) (hR : zR S sh mi mr) (h10 : sh 10 = some (9, 0)) (one two : Nat) (ho : one < 60000) (ht : two < 60000)  : zz_Con yL_isTold (.code yL_isTold cL_isTold 16 (some Jvm.ClassFile.FieldType.boolean)) 12 10 60 [.ref 2, .ref 100, .ref 102, .ref 103, .ref 104, .ref 109, .int (nI 3), .int (nI one), .int (nI two)] sh mi mr (ql_T n) zz_none := by
  refine zz_begin RL [(0, .ref 2), (1, .ref 100), (2, .ref 102), (3, .ref 103), (4, .ref 104), (5, .ref 109), (6, .int (nI 3)), (7, .int (nI one)), (8, .int (nI two))] (by decide) rfl rfl (Nat.le_of_ble_eq_true rfl) rfl ?_
  intro Γ D E ad hX hr hN hT
  obtain ⟨n1, n2, n3, n4⟩ := ql_num hI
  have hsm := ql_small hI
  have hsc9 := (ql_BB hI).2.1.2 (zv_nv S) (by omega)
  refine zz_iload hX dL_isTold_0 6 rfl ?_
  refine zz_if_ne hX 116 dL_isTold_2 (by decide) (fun _ => ?_) (fun c => absurd c (by decide))
  refine zz_iload hX dL_isTold_116 7 rfl ?_
  refine zz_aload hX dL_isTold_118 5 rfl ?_
  refine zz_iconst (v := nI 0) hX dL_isTold_120 rfl ?_
  refine zz_iald (x := nI (zv_np S)) hX (ql_s109 hI) 0 rfl (by decide) (by decide) ((ql_g0 hI)) dL_isTold_121 ?_
  refine zz_iconst (v := nI 1) hX dL_isTold_122 rfl ?_
  refine zz_iadd (z := nI (zv_np S + 1)) hX dL_isTold_123 (nI_add _ _) ?_
  refine zz_irem (z := nI (one % (zv_np S + 1))) hX dL_isTold_124 (nI_ne0 (by omega) (by omega)) (pk_rem (by omega) (by omega) (by omega)) ?_
  have ht9 : one % (zv_np S + 1) < zv_np S + 1 := Nat.mod_lt _ (by omega)
  generalize one % (zv_np S + 1) = t at ht9 ⊢
  have z_t : zn (nI t) = t := nI_clamp (n := t) (by omega)
  refine zz_istore (ls' := [(0, .ref 2), (1, .ref 100), (2, .ref 102), (3, .ref 103), (4, .ref 104), (5, .ref 109), (6, .int (nI 3)), (7, .int (nI one)), (8, .int (nI two)), (9, .int (nI t))]) hX dL_isTold_125 (Nat.le_of_ble_eq_true rfl) rfl ?_
  refine zz_iload hX dL_isTold_127 6 rfl ?_
  refine zz_iconst (v := nI 2) hX dL_isTold_129 rfl ?_
  refine zz_icmp_ge hX 360 dL_isTold_130 (by decide) (fun _ => ?_) (fun c => absurd c (by decide))
  refine zz_iload hX dL_isTold_360 6 rfl ?_
  refine zz_iconst (v := nI 2) hX dL_isTold_362 rfl ?_
  refine zz_icmp_ne hX 544 dL_isTold_363 (by decide) (fun _ => ?_) (fun c => absurd c (by decide))
  refine zz_iload hX dL_isTold_544 6 rfl ?_
  refine zz_iconst (v := nI 3) hX dL_isTold_546 rfl ?_
  refine zz_icmp_ne hX 630 dL_isTold_547 (by decide) (fun c => absurd c (by decide)) (fun _ => ?_)
  refine zz_aload hX dL_isTold_550 5 rfl ?_
  refine zz_iconst (v := nI 1) hX dL_isTold_552 rfl ?_
  refine zz_iald (x := nI (zv_nv S)) hX (ql_s109 hI) 1 rfl (by decide) (by decide) ((ql_g1 hI)) dL_isTold_553 ?_
  refine zz_iconst (v := nI 2) hX dL_isTold_554 rfl ?_
  refine zz_icmp_leN hX (by omega) (by decide) 560 dL_isTold_555 (by decide) (fun c555 => ?_) (fun c555 => ?_)
  · skip
    by_cases g0 : 0 < zv_sc S (zv_nv S)
    · skip
      refine zz_aload_n hX dL_isTold_560 3 rfl rfl ?_
      refine zz_bipush (v := nI 18) hX dL_isTold_561 rfl ?_
      refine zz_aload hX dL_isTold_563 5 rfl ?_
      refine zz_iconst (v := nI 1) hX dL_isTold_565 rfl ?_
      refine zz_iald (x := nI (zv_nv S)) hX (ql_s109 hI) 1 rfl (by decide) (by decide) ((ql_g1 hI)) dL_isTold_566 ?_
      refine zz_iadd (z := nI (18 + zv_nv S)) hX dL_isTold_567 (nI_add _ _) ?_
      refine zz_iald (x := nI (zv_sc S (zv_nv S))) hX (ql_s103 hI) (18 + zv_nv S) rfl (by omega) (by decide) ((ql_g103 hI (by omega))) dL_isTold_568 ?_
      refine zz_if_leN hX (by omega) 576 dL_isTold_569 (by decide) (fun c569 => absurd c569 (by omega)) (fun c569 => ?_)
      refine zz_iconst (v := nI 1) hX dL_isTold_572 rfl ?_
      refine zz_goto hX 577 dL_isTold_573 (by decide) ?_
      refine zz_istore (ls' := [(0, .ref 2), (1, .ref 100), (2, .ref 102), (3, .ref 103), (4, .ref 104), (5, .ref 109), (6, .int (nI 3)), (7, .int (nI one)), (8, .int (nI two)), (9, .int (nI t)), (10, .int (nI 1))]) hX dL_isTold_577 (Nat.le_of_ble_eq_true rfl) rfl ?_
      refine zz_aload hX dL_isTold_579 5 rfl ?_
      refine zz_iconst (v := nI 1) hX dL_isTold_581 rfl ?_
      refine zz_dup2 hX dL_isTold_582 rfl rfl ?_
      refine zz_iald (x := nI (zv_nv S)) hX (ql_s109 hI) 1 rfl (by decide) (by decide) ((ql_g1 hI)) dL_isTold_583 ?_
      refine zz_iload hX dL_isTold_584 10 rfl ?_
      refine zz_if_eq hX 593 dL_isTold_586 (by decide) (fun c => absurd c (by decide)) (fun _ => ?_)
      refine zz_iconst (v := nI 1) hX dL_isTold_589 rfl ?_
      refine zz_goto hX 594 dL_isTold_590 (by decide) ?_
      refine zz_iadd (z := nI (zv_nv S + 1)) hX dL_isTold_594 (nI_add _ _) ?_
      refine zz_iast hX (ql_s109 hI) 1 rfl (by decide) (by decide) dL_isTold_595 ?_
      refine zz_aload_n hX dL_isTold_596 0 rfl rfl ?_
      refine zz_iconst (v := nI 3) hX dL_isTold_597 rfl ?_
      refine zz_iconst (v := nI 0) hX dL_isTold_598 rfl ?_
      refine zz_iconst (v := nI 0) hX dL_isTold_599 rfl ?_
      refine zz_iconst (v := nI 0) hX dL_isTold_600 rfl ?_
      refine zz_iconst (v := nI 0) hX dL_isTold_601 rfl ?_
      have hC9 : (¬ zv_sc S (zv_nv S) = 0) ∧ (zv_nv S < 6) := ⟨by omega, by omega⟩
      refine zz_callSH hX zf_M_L_161 (As := [.ref 2, .int (nI 3), .int (nI 0), .int (nI 0), .int (nI 0), .int (nI 0)]) (st := []) (D_voice S sh (zm_u2 mi 109 1 (nI (zv_nv S + 1))) mr (ql_W hI) (ql_R_f (ql_W hI) hR (M := (zm_u2 mi 109 1 (nI (zv_nv S + 1)))) (fun l hl => zm_u2r (by omega))) (nI 0) (nI 0) (nI 0) (nI 0)) rfl rfl (by decide) (Nat.le_of_ble_eq_true rfl) (Nat.le_of_ble_eq_true rfl) (Nat.le_of_ble_eq_true rfl) dL_isTold_602 ?_ (fun _ _ _ _ h _ => h.elim)
      rintro v9 s9 i9 m9 ⟨k9, rfl, hk9, hS9⟩ -
      obtain ⟨e9, hR9⟩ := zq_d1 hk9 trivial trivial hC9
      obtain rfl := e9.symm
      refine zz_iload hX dL_isTold_605 10 rfl ?_
      refine zz_if_eq hX 619 dL_isTold_607 (by decide) (fun c => absurd c (by decide)) (fun _ => ?_)
      refine zz_aload hX dL_isTold_610 5 rfl ?_
      refine zz_iconst (v := nI 1) hX dL_isTold_612 rfl ?_
      refine zz_iald (x := nI (zv_nv S + 1)) hX ((hS9 109 (by unfold zr_out; omega)).1.trans (ql_s109 hI)) 1 rfl (by decide) (by decide) ((congrFun (hS9 109 (by unfold zr_out; omega)).2.1 _).trans (zm_u2s)) dL_isTold_613 ?_
      refine zz_iconst (v := nI 1) hX dL_isTold_614 rfl ?_
      refine zz_isub (z := nI (zv_nv S + 1 - 1)) hX dL_isTold_615 (pk_sub (by omega)) ?_
      refine zz_goto hX 621 dL_isTold_616 (by decide) ?_
      refine zz_icmp_neN hX (by omega) (by omega) 628 dL_isTold_621 (by decide) (fun c621 => absurd c621 (by omega)) (fun c621 => ?_)
      refine zz_iconst (v := nI 1) hX dL_isTold_624 rfl ?_
      refine zz_goto hX 629 dL_isTold_625 (by decide) ?_
      refine zz_iret hX hr rfl (Nat.le_of_ble_eq_true rfl) (Nat.le_of_ble_eq_true rfl) dL_isTold_629 ?_
      exact ⟨rfl, ⟨_, ql_J_end hn (U_voice (ql_W hI) trivial trivial hC9) (ql_B_voice (ql_BB hI) (by omega)) (ql_N_voice hI.2.2.2 : ql_N (zt_voice S) sh _) hR9 hS9⟩, ql_10 h10 hS9⟩
    · skip
      refine zz_aload_n hX dL_isTold_560 3 rfl rfl ?_
      refine zz_bipush (v := nI 18) hX dL_isTold_561 rfl ?_
      refine zz_aload hX dL_isTold_563 5 rfl ?_
      refine zz_iconst (v := nI 1) hX dL_isTold_565 rfl ?_
      refine zz_iald (x := nI (zv_nv S)) hX (ql_s109 hI) 1 rfl (by decide) (by decide) ((ql_g1 hI)) dL_isTold_566 ?_
      refine zz_iadd (z := nI (18 + zv_nv S)) hX dL_isTold_567 (nI_add _ _) ?_
      refine zz_iald (x := nI (zv_sc S (zv_nv S))) hX (ql_s103 hI) (18 + zv_nv S) rfl (by omega) (by decide) ((ql_g103 hI (by omega))) dL_isTold_568 ?_
      refine zz_if_leN hX (by omega) 576 dL_isTold_569 (by decide) (fun c569 => ?_) (fun c569 => absurd c569 (by omega))
      refine zz_iconst (v := nI 0) hX dL_isTold_576 rfl ?_
      refine zz_istore (ls' := [(0, .ref 2), (1, .ref 100), (2, .ref 102), (3, .ref 103), (4, .ref 104), (5, .ref 109), (6, .int (nI 3)), (7, .int (nI one)), (8, .int (nI two)), (9, .int (nI t)), (10, .int (nI 0))]) hX dL_isTold_577 (Nat.le_of_ble_eq_true rfl) rfl ?_
      refine zz_aload hX dL_isTold_579 5 rfl ?_
      refine zz_iconst (v := nI 1) hX dL_isTold_581 rfl ?_
      refine zz_dup2 hX dL_isTold_582 rfl rfl ?_
      refine zz_iald (x := nI (zv_nv S)) hX (ql_s109 hI) 1 rfl (by decide) (by decide) ((ql_g1 hI)) dL_isTold_583 ?_
      refine zz_iload hX dL_isTold_584 10 rfl ?_
      refine zz_if_eq hX 593 dL_isTold_586 (by decide) (fun _ => ?_) (fun c => absurd c (by decide))
      refine zz_iconst (v := nI 0) hX dL_isTold_593 rfl ?_
      refine zz_iadd (z := nI (zv_nv S + 0)) hX dL_isTold_594 (nI_add _ _) ?_
      refine zz_iast hX (ql_s109 hI) 1 rfl (by decide) (by decide) dL_isTold_595 ?_
      refine zz_aload_n hX dL_isTold_596 0 rfl rfl ?_
      refine zz_iconst (v := nI 3) hX dL_isTold_597 rfl ?_
      refine zz_iconst (v := nI 0) hX dL_isTold_598 rfl ?_
      refine zz_iconst (v := nI 0) hX dL_isTold_599 rfl ?_
      refine zz_iconst (v := nI 0) hX dL_isTold_600 rfl ?_
      refine zz_iconst (v := nI 0) hX dL_isTold_601 rfl ?_
      refine zz_callSH hX zf_M_L_161 (As := [.ref 2, .int (nI 3), .int (nI 0), .int (nI 0), .int (nI 0), .int (nI 0)]) (st := []) (D_voice S sh (zm_u2 mi 109 1 (nI (zv_nv S + 0))) mr (ql_W hI) (ql_R_f (ql_W hI) hR (M := (zm_u2 mi 109 1 (nI (zv_nv S + 0)))) (fun l hl => zm_u2r (by omega))) (nI 0) (nI 0) (nI 0) (nI 0)) rfl rfl (by decide) (Nat.le_of_ble_eq_true rfl) (Nat.le_of_ble_eq_true rfl) (Nat.le_of_ble_eq_true rfl) dL_isTold_602 ?_ (fun _ _ _ _ h _ => h.elim)
      rintro v9 s9 i9 m9 ⟨k9, rfl, hk9, hS9⟩ -
      obtain ⟨e9, hR9⟩ := zq_d4 hk9 trivial trivial (fun h => h.1 (by omega))
      obtain rfl := e9.symm
      refine zz_iload hX dL_isTold_605 10 rfl ?_
      refine zz_if_eq hX 619 dL_isTold_607 (by decide) (fun _ => ?_) (fun c => absurd c (by decide))
      refine zz_ldc (v := -1000000) hX zw_con_L_90 dL_isTold_619 ?_
      refine zz_icmp_ne hX 628 dL_isTold_621 (by decide) (fun c => absurd c (by decide)) (fun _ => ?_)
      refine zz_iconst (v := nI 1) hX dL_isTold_624 rfl ?_
      refine zz_goto hX 629 dL_isTold_625 (by decide) ?_
      refine zz_iret hX hr rfl (Nat.le_of_ble_eq_true rfl) (Nat.le_of_ble_eq_true rfl) dL_isTold_629 ?_
      exact ⟨rfl, ⟨_, ql_J_end hn (ql_W hI) (ql_B_mono (ql_BB hI) (by omega)) (by rw [zm_u2_id ((show mi 109 1 = nI (zv_nv S + 0) from ql_g1 hI))]; exact hI.2.2.2) hR9 hS9⟩, ql_10 h10 hS9⟩
  · skip
    refine zz_iconst (v := nI 1) hX dL_isTold_558 rfl ?_
    refine zz_iret hX hr rfl (Nat.le_of_ble_eq_true rfl) (Nat.le_of_ble_eq_true rfl) dL_isTold_559 ?_
    exact ⟨rfl, ⟨S, ql_I_mono hI (by omega) hn, hR⟩, h10⟩

set_option maxHeartbeats 1000000 in
set_option maxRecDepth 20000 in
theorem T_shot (n : Nat) (hn : n + 1 ≤ 64) (S : zS) (sh : zm_Sh) (mi : zm_Mi) (mr : zm_Mr) (hI : ql_I n S sh mi) (hR : zR S sh mi mr) (h10 : sh 10 = some (9, 0)) (one two : Nat) (ho : one < 60000) (ht : two < 60000)  : zz_Con yL_isTold (.code yL_isTold cL_isTold 16 (some Jvm.ClassFile.FieldType.boolean)) 12 50 1400 [.ref 2, .ref 100, .ref 102, .ref 103, .ref 104, .ref 109, .int (nI 4), .int (nI one), .int (nI two)] sh mi mr (ql_T n) zz_none := by
  refine zz_begin RL [(0, .ref 2), (1, .ref 100), (2, .ref 102), (3, .ref 103), (4, .ref 104), (5, .ref 109), (6, .int (nI 4)), (7, .int (nI one)), (8, .int (nI two))] (by decide) rfl rfl (Nat.le_of_ble_eq_true rfl) rfl ?_
  intro Γ D E ad hX hr hN hT
  obtain ⟨n1, n2, n3, n4⟩ := ql_num hI
  have hsm := ql_small hI
  refine zz_iload hX dL_isTold_0 6 rfl ?_
  refine zz_if_ne hX 116 dL_isTold_2 (by decide) (fun _ => ?_) (fun c => absurd c (by decide))
  refine zz_iload hX dL_isTold_116 7 rfl ?_
  refine zz_aload hX dL_isTold_118 5 rfl ?_
  refine zz_iconst (v := nI 0) hX dL_isTold_120 rfl ?_
  refine zz_iald (x := nI (zv_np S)) hX (ql_s109 hI) 0 rfl (by decide) (by decide) ((ql_g0 hI)) dL_isTold_121 ?_
  refine zz_iconst (v := nI 1) hX dL_isTold_122 rfl ?_
  refine zz_iadd (z := nI (zv_np S + 1)) hX dL_isTold_123 (nI_add _ _) ?_
  refine zz_irem (z := nI (one % (zv_np S + 1))) hX dL_isTold_124 (nI_ne0 (by omega) (by omega)) (pk_rem (by omega) (by omega) (by omega)) ?_
  have ht9 : one % (zv_np S + 1) < zv_np S + 1 := Nat.mod_lt _ (by omega)
  generalize one % (zv_np S + 1) = t at ht9 ⊢
  have z_t : zn (nI t) = t := nI_clamp (n := t) (by omega)
  refine zz_istore (ls' := [(0, .ref 2), (1, .ref 100), (2, .ref 102), (3, .ref 103), (4, .ref 104), (5, .ref 109), (6, .int (nI 4)), (7, .int (nI one)), (8, .int (nI two)), (9, .int (nI t))]) hX dL_isTold_125 (Nat.le_of_ble_eq_true rfl) rfl ?_
  refine zz_iload hX dL_isTold_127 6 rfl ?_
  refine zz_iconst (v := nI 2) hX dL_isTold_129 rfl ?_
  refine zz_icmp_ge hX 360 dL_isTold_130 (by decide) (fun _ => ?_) (fun c => absurd c (by decide))
  refine zz_iload hX dL_isTold_360 6 rfl ?_
  refine zz_iconst (v := nI 2) hX dL_isTold_362 rfl ?_
  refine zz_icmp_ne hX 544 dL_isTold_363 (by decide) (fun _ => ?_) (fun c => absurd c (by decide))
  refine zz_iload hX dL_isTold_544 6 rfl ?_
  refine zz_iconst (v := nI 3) hX dL_isTold_546 rfl ?_
  refine zz_icmp_ne hX 630 dL_isTold_547 (by decide) (fun _ => ?_) (fun c => absurd c (by decide))
  refine zz_iload hX dL_isTold_630 6 rfl ?_
  refine zz_iconst (v := nI 4) hX dL_isTold_632 rfl ?_
  refine zz_icmp_ne hX 904 dL_isTold_633 (by decide) (fun c => absurd c (by decide)) (fun _ => ?_)
  refine zz_aload hX dL_isTold_636 5 rfl ?_
  refine zz_iconst (v := nI 2) hX dL_isTold_638 rfl ?_
  refine zz_iald (x := nI (zv_ns S)) hX (ql_s109 hI) 2 rfl (by decide) (by decide) ((ql_g2 hI)) dL_isTold_639 ?_
  refine zz_iconst (v := nI 3) hX dL_isTold_640 rfl ?_
  refine zz_icmp_neN hX (by omega) (by decide) 646 dL_isTold_641 (by decide) (fun c641 => ?_) (fun c641 => ?_)
  · skip
    have K674 : ∀ x : Nat, (x = 0 ∨ x = 49 ∨ (1 ≤ x ∧ x ≤ 6)) → zz Γ (D, E, 16, ad, sh) (zz_End Γ (D, E, 16, ad, sh) (ql_T n) zz_none 50 1400) 0 0 sh mi mr 674 [(0, .ref 2), (1, .ref 100), (2, .ref 102), (3, .ref 103), (4, .ref 104), (5, .ref 109), (6, .int (nI 4)), (7, .int (nI one)), (8, .int (nI two)), (9, .int (nI t))] [.int (nI x)] := by
      intro x hx
      refine zz_istore (ls' := [(0, .ref 2), (1, .ref 100), (2, .ref 102), (3, .ref 103), (4, .ref 104), (5, .ref 109), (6, .int (nI 4)), (7, .int (nI one)), (8, .int (nI two)), (9, .int (nI t)), (10, .int (nI x))]) hX dL_isTold_674 (Nat.le_of_ble_eq_true rfl) rfl ?_
      have K708 : ∀ y : Nat, (y = 0 ∨ y = 3 ∨ (1 ≤ y ∧ y ≤ 2)) → zz Γ (D, E, 16, ad, sh) (zz_End Γ (D, E, 16, ad, sh) (ql_T n) zz_none 50 1400) 0 0 sh mi mr 708 [(0, .ref 2), (1, .ref 100), (2, .ref 102), (3, .ref 103), (4, .ref 104), (5, .ref 109), (6, .int (nI 4)), (7, .int (nI one)), (8, .int (nI two)), (9, .int (nI t)), (10, .int (nI x))] [.int (nI y)] := by
        intro y hy
        refine zz_istore (ls' := [(0, .ref 2), (1, .ref 100), (2, .ref 102), (3, .ref 103), (4, .ref 104), (5, .ref 109), (6, .int (nI 4)), (7, .int (nI one)), (8, .int (nI two)), (9, .int (nI t)), (10, .int (nI x)), (11, .int (nI y))]) hX dL_isTold_708 (Nat.le_of_ble_eq_true rfl) rfl ?_
        have K740 : ∀ v9 : Int32, (∃ w, w ≤ zv_nv S + 1 ∧ v9 = nI w - nI 1) → zz Γ (D, E, 16, ad, sh) (zz_End Γ (D, E, 16, ad, sh) (ql_T n) zz_none 50 1400) 0 0 sh mi mr 740 [(0, .ref 2), (1, .ref 100), (2, .ref 102), (3, .ref 103), (4, .ref 104), (5, .ref 109), (6, .int (nI 4)), (7, .int (nI one)), (8, .int (nI two)), (9, .int (nI t)), (10, .int (nI x)), (11, .int (nI y))] [.int v9] := by
          intro v9 hv9
          obtain ⟨w, hw9, rfl⟩ := hv9
          refine zz_istore (ls' := [(0, .ref 2), (1, .ref 100), (2, .ref 102), (3, .ref 103), (4, .ref 104), (5, .ref 109), (6, .int (nI 4)), (7, .int (nI one)), (8, .int (nI two)), (9, .int (nI t)), (10, .int (nI x)), (11, .int (nI y)), (12, .int (nI w - nI 1))]) hX dL_isTold_740 (Nat.le_of_ble_eq_true rfl) rfl ?_
          by_cases g0 : t < zv_np S ∧ w ≤ zv_nv S
          · skip
            by_cases g1 : 0 < x ∧ x < 49 ∧ 0 < y ∧ y < 3
            · skip
              refine zz_iload hX dL_isTold_742 9 rfl ?_
              refine zz_aload hX dL_isTold_744 5 rfl ?_
              refine zz_iconst (v := nI 0) hX dL_isTold_746 rfl ?_
              refine zz_iald (x := nI (zv_np S)) hX (ql_s109 hI) 0 rfl (by decide) (by decide) ((ql_g0 hI)) dL_isTold_747 ?_
              refine zz_icmp_geN hX (by omega) (by omega) 764 dL_isTold_748 (by decide) (fun c748 => absurd c748 (by omega)) (fun c748 => ?_)
              refine zz_iload hX dL_isTold_751 12 rfl ?_
              refine zz_aload hX dL_isTold_753 5 rfl ?_
              refine zz_iconst (v := nI 1) hX dL_isTold_755 rfl ?_
              refine zz_iald (x := nI (zv_nv S)) hX (ql_s109 hI) 1 rfl (by decide) (by decide) ((ql_g1 hI)) dL_isTold_756 ?_
              refine zz_icmp_ge hX 764 dL_isTold_757 (by decide) (fun c757 => absurd ((zs_w1 (by omega) (by omega)).mp c757) (by omega)) (fun c757 => ?_)
              refine zz_iconst (v := nI 1) hX dL_isTold_760 rfl ?_
              refine zz_goto hX 765 dL_isTold_761 (by decide) ?_
              refine zz_istore (ls' := [(0, .ref 2), (1, .ref 100), (2, .ref 102), (3, .ref 103), (4, .ref 104), (5, .ref 109), (6, .int (nI 4)), (7, .int (nI one)), (8, .int (nI two)), (9, .int (nI t)), (10, .int (nI x)), (11, .int (nI y)), (12, .int (nI w - nI 1)), (13, .int (nI 1))]) hX dL_isTold_765 (Nat.le_of_ble_eq_true rfl) rfl ?_
              refine zz_iload hX dL_isTold_767 10 rfl ?_
              refine zz_if_leN hX (by omega) 794 dL_isTold_769 (by decide) (fun c769 => absurd c769 (by omega)) (fun c769 => ?_)
              refine zz_iload hX dL_isTold_772 10 rfl ?_
              refine zz_bipush (v := nI 49) hX dL_isTold_774 rfl ?_
              refine zz_icmp_geN hX (by omega) (by decide) 794 dL_isTold_776 (by decide) (fun c776 => absurd c776 (by omega)) (fun c776 => ?_)
              refine zz_iload hX dL_isTold_779 11 rfl ?_
              refine zz_if_leN hX (by omega) 794 dL_isTold_781 (by decide) (fun c781 => absurd c781 (by omega)) (fun c781 => ?_)
              refine zz_iload hX dL_isTold_784 11 rfl ?_
              refine zz_iconst (v := nI 3) hX dL_isTold_786 rfl ?_
              refine zz_icmp_geN hX (by omega) (by decide) 794 dL_isTold_787 (by decide) (fun c787 => absurd c787 (by omega)) (fun c787 => ?_)
              refine zz_iconst (v := nI 1) hX dL_isTold_790 rfl ?_
              refine zz_goto hX 795 dL_isTold_791 (by decide) ?_
              refine zz_istore (ls' := [(0, .ref 2), (1, .ref 100), (2, .ref 102), (3, .ref 103), (4, .ref 104), (5, .ref 109), (6, .int (nI 4)), (7, .int (nI one)), (8, .int (nI two)), (9, .int (nI t)), (10, .int (nI x)), (11, .int (nI y)), (12, .int (nI w - nI 1)), (13, .int (nI 1)), (14, .int (nI 1))]) hX dL_isTold_795 (Nat.le_of_ble_eq_true rfl) rfl ?_
              refine zz_iload hX dL_isTold_797 13 rfl ?_
              refine zz_if_eq hX 811 dL_isTold_799 (by decide) (fun c => absurd c (by decide)) (fun _ => ?_)
              refine zz_iload hX dL_isTold_802 14 rfl ?_
              refine zz_if_eq hX 811 dL_isTold_804 (by decide) (fun c => absurd c (by decide)) (fun _ => ?_)
              refine zz_iconst (v := nI 1) hX dL_isTold_807 rfl ?_
              refine zz_goto hX 812 dL_isTold_808 (by decide) ?_
              refine zz_istore (ls' := [(0, .ref 2), (1, .ref 100), (2, .ref 102), (3, .ref 103), (4, .ref 104), (5, .ref 109), (6, .int (nI 4)), (7, .int (nI one)), (8, .int (nI two)), (9, .int (nI t)), (10, .int (nI x)), (11, .int (nI y)), (12, .int (nI w - nI 1)), (13, .int (nI 1)), (14, .int (nI 1)), (15, .int (nI 1))]) hX dL_isTold_812 (Nat.le_of_ble_eq_true rfl) rfl ?_
              refine zz_iload hX dL_isTold_814 15 rfl ?_
              refine zz_if_eq hX 856 dL_isTold_816 (by decide) (fun c => absurd c (by decide)) (fun _ => ?_)
              refine zz_aload hX dL_isTold_819 4 rfl ?_
              refine zz_aload hX dL_isTold_821 5 rfl ?_
              refine zz_iconst (v := nI 2) hX dL_isTold_823 rfl ?_
              refine zz_iald (x := nI (zv_ns S)) hX (ql_s109 hI) 2 rfl (by decide) (by decide) ((ql_g2 hI)) dL_isTold_824 ?_
              refine zz_iload hX dL_isTold_825 9 rfl ?_
              refine zz_iconst (v := nI 4) hX dL_isTold_827 rfl ?_
              refine zz_iload hX dL_isTold_828 10 rfl ?_
              refine zz_imul (z := nI (4 * x)) hX dL_isTold_830 (pk_mul _ _) ?_
              refine zz_iadd (z := nI (t + 4 * x)) hX dL_isTold_831 (nI_add _ _) ?_
              refine zz_bipush (v := nI 32) hX dL_isTold_832 rfl ?_
              refine zz_iload hX dL_isTold_834 11 rfl ?_
              refine zz_imul (z := nI (32 * y)) hX dL_isTold_836 (pk_mul _ _) ?_
              refine zz_iadd (z := nI (t + 4 * x + 32 * y)) hX dL_isTold_837 (nI_add _ _) ?_
              refine zz_sipush (v := nI 128) hX dL_isTold_838 rfl ?_
              refine zz_iload hX dL_isTold_841 12 rfl ?_
              refine zz_iconst (v := nI 1) hX dL_isTold_843 rfl ?_
              refine zz_iadd (z := nI w) hX dL_isTold_844 (Int32.sub_add_cancel _ _) ?_
              refine zz_imul (z := nI (128 * w)) hX dL_isTold_845 (pk_mul _ _) ?_
              refine zz_iadd (z := nI (t + 4 * x + 32 * y + 128 * w)) hX dL_isTold_846 (nI_add _ _) ?_
              refine zz_iast hX (ql_s104 hI) (zv_ns S) rfl (by omega) (by decide) dL_isTold_847 ?_
              refine zz_aload hX dL_isTold_848 5 rfl ?_
              refine zz_iconst (v := nI 2) hX dL_isTold_850 rfl ?_
              refine zz_dup2 hX dL_isTold_851 rfl rfl ?_
              refine zz_iald (x := nI (zv_ns S)) hX (ql_s109 hI) 2 rfl (by decide) (by decide) (((zm_u2l (by decide))).trans ((ql_g2 hI))) dL_isTold_852 ?_
              refine zz_iconst (v := nI 1) hX dL_isTold_853 rfl ?_
              refine zz_iadd (z := nI (zv_ns S + 1)) hX dL_isTold_854 (nI_add _ _) ?_
              refine zz_iast hX (ql_s109 hI) 2 rfl (by decide) (by decide) dL_isTold_855 ?_
              refine zz_aload_n hX dL_isTold_856 0 rfl rfl ?_
              refine zz_iconst (v := nI 4) hX dL_isTold_857 rfl ?_
              refine zz_iload hX dL_isTold_858 9 rfl ?_
              refine zz_iload hX dL_isTold_860 10 rfl ?_
              refine zz_iload hX dL_isTold_862 11 rfl ?_
              refine zz_iload hX dL_isTold_864 12 rfl ?_
              have hA9 : zs_ix (nI t) (zv_np S) ∧ (nI w - nI 1 = -1 ∨ zs_ix (nI w - nI 1) (zv_nv S)) := ⟨zs_ix_nI g0.1 (by omega), (zs_wv (by omega) (by omega)).mpr g0.2⟩
              have hB9 : (nI 1 ≤ nI x ∧ nI x ≤ nI 48) ∧ (nI 1 ≤ nI y ∧ nI y ≤ nI 2) := ⟨(zs_r2 (by omega)).mpr (by omega), (zs_r2 (by omega)).mpr (by omega)⟩
              have hC9 : zv_ns S < 8 := by omega
              refine zz_callSH hX zf_M_L_161 (As := [.ref 2, .int (nI 4), .int (nI t), .int (nI x), .int (nI y), .int (nI w - nI 1)]) (st := []) (D_shot S sh (zm_u2 (zm_u2 mi 104 (zv_ns S) (nI (t + 4 * x + 32 * y + 128 * w))) 109 2 (nI (zv_ns S + 1))) mr (ql_W hI) (ql_R_f (ql_W hI) hR (M := (zm_u2 (zm_u2 mi 104 (zv_ns S) (nI (t + 4 * x + 32 * y + 128 * w))) 109 2 (nI (zv_ns S + 1)))) (fun l hl => (zm_u2r (by omega)).trans (zm_u2r (by omega)))) (nI t) (nI x) (nI y) (nI w - nI 1)) rfl rfl (by decide) (Nat.le_of_ble_eq_true rfl) (Nat.le_of_ble_eq_true rfl) (Nat.le_of_ble_eq_true rfl) dL_isTold_866 ?_ (fun _ _ _ _ h _ => h.elim)
              rintro v9 s9 i9 m9 ⟨k9, rfl, hk9, hS9⟩ -
              obtain ⟨e9, hR9⟩ := zq_d1 hk9 hA9 hB9 hC9
              obtain rfl := e9.symm
              refine zz_iload hX dL_isTold_869 13 rfl ?_
              refine zz_if_ne hX 879 dL_isTold_871 (by decide) (fun _ => ?_) (fun c => absurd c (by decide))
              refine zz_iload hX dL_isTold_879 15 rfl ?_
              refine zz_if_eq hX 893 dL_isTold_881 (by decide) (fun c => absurd c (by decide)) (fun _ => ?_)
              refine zz_aload hX dL_isTold_884 5 rfl ?_
              refine zz_iconst (v := nI 2) hX dL_isTold_886 rfl ?_
              refine zz_iald (x := nI (zv_ns S + 1)) hX ((hS9 109 (by unfold zr_out; omega)).1.trans (ql_s109 hI)) 2 rfl (by decide) (by decide) ((congrFun (hS9 109 (by unfold zr_out; omega)).2.1 _).trans (zm_u2s)) dL_isTold_887 ?_
              refine zz_iconst (v := nI 1) hX dL_isTold_888 rfl ?_
              refine zz_isub (z := nI (zv_ns S + 1 - 1)) hX dL_isTold_889 (pk_sub (by omega)) ?_
              refine zz_goto hX 895 dL_isTold_890 (by decide) ?_
              refine zz_icmp_neN hX (by omega) (by omega) 902 dL_isTold_895 (by decide) (fun c895 => absurd c895 (by omega)) (fun c895 => ?_)
              refine zz_iconst (v := nI 1) hX dL_isTold_898 rfl ?_
              refine zz_goto hX 903 dL_isTold_899 (by decide) ?_
              refine zz_iret hX hr rfl (Nat.le_of_ble_eq_true rfl) (Nat.le_of_ble_eq_true rfl) dL_isTold_903 ?_
              exact ⟨rfl, ⟨_, ql_J_end hn (U_shot (ql_W hI) _ _ _ _ hA9 hB9 hC9) (ql_B_shot (ql_BB hI) (ql_W hI) (by omega) (by omega)) (ql_N_shot hI.2.2.2 (ql_W hI) (by omega) (by omega) (by omega) (by omega) (zs_wz (by omega))) hR9 hS9⟩, ql_10 h10 hS9⟩
            · skip
              refine zz_iload hX dL_isTold_742 9 rfl ?_
              refine zz_aload hX dL_isTold_744 5 rfl ?_
              refine zz_iconst (v := nI 0) hX dL_isTold_746 rfl ?_
              refine zz_iald (x := nI (zv_np S)) hX (ql_s109 hI) 0 rfl (by decide) (by decide) ((ql_g0 hI)) dL_isTold_747 ?_
              refine zz_icmp_geN hX (by omega) (by omega) 764 dL_isTold_748 (by decide) (fun c748 => absurd c748 (by omega)) (fun c748 => ?_)
              refine zz_iload hX dL_isTold_751 12 rfl ?_
              refine zz_aload hX dL_isTold_753 5 rfl ?_
              refine zz_iconst (v := nI 1) hX dL_isTold_755 rfl ?_
              refine zz_iald (x := nI (zv_nv S)) hX (ql_s109 hI) 1 rfl (by decide) (by decide) ((ql_g1 hI)) dL_isTold_756 ?_
              refine zz_icmp_ge hX 764 dL_isTold_757 (by decide) (fun c757 => absurd ((zs_w1 (by omega) (by omega)).mp c757) (by omega)) (fun c757 => ?_)
              refine zz_iconst (v := nI 1) hX dL_isTold_760 rfl ?_
              refine zz_goto hX 765 dL_isTold_761 (by decide) ?_
              refine zz_istore (ls' := [(0, .ref 2), (1, .ref 100), (2, .ref 102), (3, .ref 103), (4, .ref 104), (5, .ref 109), (6, .int (nI 4)), (7, .int (nI one)), (8, .int (nI two)), (9, .int (nI t)), (10, .int (nI x)), (11, .int (nI y)), (12, .int (nI w - nI 1)), (13, .int (nI 1))]) hX dL_isTold_765 (Nat.le_of_ble_eq_true rfl) rfl ?_
              have K795 : zz Γ (D, E, 16, ad, sh) (zz_End Γ (D, E, 16, ad, sh) (ql_T n) zz_none 50 1400) 0 0 sh mi mr 795 [(0, .ref 2), (1, .ref 100), (2, .ref 102), (3, .ref 103), (4, .ref 104), (5, .ref 109), (6, .int (nI 4)), (7, .int (nI one)), (8, .int (nI two)), (9, .int (nI t)), (10, .int (nI x)), (11, .int (nI y)), (12, .int (nI w - nI 1)), (13, .int (nI 1))] [.int (nI 0)] := by
                refine zz_istore (ls' := [(0, .ref 2), (1, .ref 100), (2, .ref 102), (3, .ref 103), (4, .ref 104), (5, .ref 109), (6, .int (nI 4)), (7, .int (nI one)), (8, .int (nI two)), (9, .int (nI t)), (10, .int (nI x)), (11, .int (nI y)), (12, .int (nI w - nI 1)), (13, .int (nI 1)), (14, .int (nI 0))]) hX dL_isTold_795 (Nat.le_of_ble_eq_true rfl) rfl ?_
                refine zz_iload hX dL_isTold_797 13 rfl ?_
                refine zz_if_eq hX 811 dL_isTold_799 (by decide) (fun c => absurd c (by decide)) (fun _ => ?_)
                refine zz_iload hX dL_isTold_802 14 rfl ?_
                refine zz_if_eq hX 811 dL_isTold_804 (by decide) (fun _ => ?_) (fun c => absurd c (by decide))
                refine zz_iconst (v := nI 0) hX dL_isTold_811 rfl ?_
                refine zz_istore (ls' := [(0, .ref 2), (1, .ref 100), (2, .ref 102), (3, .ref 103), (4, .ref 104), (5, .ref 109), (6, .int (nI 4)), (7, .int (nI one)), (8, .int (nI two)), (9, .int (nI t)), (10, .int (nI x)), (11, .int (nI y)), (12, .int (nI w - nI 1)), (13, .int (nI 1)), (14, .int (nI 0)), (15, .int (nI 0))]) hX dL_isTold_812 (Nat.le_of_ble_eq_true rfl) rfl ?_
                refine zz_iload hX dL_isTold_814 15 rfl ?_
                refine zz_if_eq hX 856 dL_isTold_816 (by decide) (fun _ => ?_) (fun c => absurd c (by decide))
                refine zz_aload_n hX dL_isTold_856 0 rfl rfl ?_
                refine zz_iconst (v := nI 4) hX dL_isTold_857 rfl ?_
                refine zz_iload hX dL_isTold_858 9 rfl ?_
                refine zz_iload hX dL_isTold_860 10 rfl ?_
                refine zz_iload hX dL_isTold_862 11 rfl ?_
                refine zz_iload hX dL_isTold_864 12 rfl ?_
                have hA9 : zs_ix (nI t) (zv_np S) ∧ (nI w - nI 1 = -1 ∨ zs_ix (nI w - nI 1) (zv_nv S)) := ⟨zs_ix_nI g0.1 (by omega), (zs_wv (by omega) (by omega)).mpr g0.2⟩
                refine zz_callSH hX zf_M_L_161 (As := [.ref 2, .int (nI 4), .int (nI t), .int (nI x), .int (nI y), .int (nI w - nI 1)]) (st := []) (D_shot S sh mi mr (ql_W hI) (ql_R_f (ql_W hI) hR (M := mi) (fun l hl => rfl)) (nI t) (nI x) (nI y) (nI w - nI 1)) rfl rfl (by decide) (Nat.le_of_ble_eq_true rfl) (Nat.le_of_ble_eq_true rfl) (Nat.le_of_ble_eq_true rfl) dL_isTold_866 ?_ (fun _ _ _ _ h _ => h.elim)
                rintro v9 s9 i9 m9 ⟨k9, rfl, hk9, hS9⟩ -
                obtain ⟨e9, hR9⟩ := zq_d3 hk9 hA9 (fun h => by have h1 := (zs_r2 (x := x) (by omega)).mp h.1; have h2 := (zs_r2 (x := y) (by omega)).mp h.2; omega)
                obtain rfl := e9.symm
                refine zz_iload hX dL_isTold_869 13 rfl ?_
                refine zz_if_ne hX 879 dL_isTold_871 (by decide) (fun _ => ?_) (fun c => absurd c (by decide))
                refine zz_iload hX dL_isTold_879 15 rfl ?_
                refine zz_if_eq hX 893 dL_isTold_881 (by decide) (fun _ => ?_) (fun c => absurd c (by decide))
                refine zz_ldc (v := -2000000) hX zw_con_L_87 dL_isTold_893 ?_
                refine zz_icmp_ne hX 902 dL_isTold_895 (by decide) (fun c => absurd c (by decide)) (fun _ => ?_)
                refine zz_iconst (v := nI 1) hX dL_isTold_898 rfl ?_
                refine zz_goto hX 903 dL_isTold_899 (by decide) ?_
                refine zz_iret hX hr rfl (Nat.le_of_ble_eq_true rfl) (Nat.le_of_ble_eq_true rfl) dL_isTold_903 ?_
                exact ⟨rfl, ⟨_, ql_J_end hn (ql_W hI) (ql_B_mono (ql_BB hI) (by omega)) hI.2.2.2 hR9 hS9⟩, ql_10 h10 hS9⟩
              refine zz_iload hX dL_isTold_767 10 rfl ?_
              refine zz_if_leN hX (by omega) 794 dL_isTold_769 (by decide) (fun c769 => ?_) (fun c769 => ?_)
              · skip
                refine zz_iconst (v := nI 0) hX dL_isTold_794 rfl ?_
                exact zz_top (rfl) K795
              · skip
                refine zz_iload hX dL_isTold_772 10 rfl ?_
                refine zz_bipush (v := nI 49) hX dL_isTold_774 rfl ?_
                refine zz_icmp_geN hX (by omega) (by decide) 794 dL_isTold_776 (by decide) (fun c776 => ?_) (fun c776 => ?_)
                · skip
                  refine zz_iconst (v := nI 0) hX dL_isTold_794 rfl ?_
                  exact zz_top (rfl) K795
                · skip
                  refine zz_iload hX dL_isTold_779 11 rfl ?_
                  refine zz_if_leN hX (by omega) 794 dL_isTold_781 (by decide) (fun c781 => ?_) (fun c781 => ?_)
                  · skip
                    refine zz_iconst (v := nI 0) hX dL_isTold_794 rfl ?_
                    exact zz_top (rfl) K795
                  · skip
                    refine zz_iload hX dL_isTold_784 11 rfl ?_
                    refine zz_iconst (v := nI 3) hX dL_isTold_786 rfl ?_
                    refine zz_icmp_geN hX (by omega) (by decide) 794 dL_isTold_787 (by decide) (fun c787 => ?_) (fun c787 => absurd c787 (by omega))
                    refine zz_iconst (v := nI 0) hX dL_isTold_794 rfl ?_
                    exact zz_top (rfl) K795
          · skip
            refine zz_iload hX dL_isTold_742 9 rfl ?_
            refine zz_aload hX dL_isTold_744 5 rfl ?_
            refine zz_iconst (v := nI 0) hX dL_isTold_746 rfl ?_
            refine zz_iald (x := nI (zv_np S)) hX (ql_s109 hI) 0 rfl (by decide) (by decide) ((ql_g0 hI)) dL_isTold_747 ?_
            refine zz_icmp_geN hX (by omega) (by omega) 764 dL_isTold_748 (by decide) (fun c748 => ?_) (fun c748 => ?_)
            · skip
              refine zz_iconst (v := nI 0) hX dL_isTold_764 rfl ?_
              refine zz_istore (ls' := [(0, .ref 2), (1, .ref 100), (2, .ref 102), (3, .ref 103), (4, .ref 104), (5, .ref 109), (6, .int (nI 4)), (7, .int (nI one)), (8, .int (nI two)), (9, .int (nI t)), (10, .int (nI x)), (11, .int (nI y)), (12, .int (nI w - nI 1)), (13, .int (nI 0))]) hX dL_isTold_765 (Nat.le_of_ble_eq_true rfl) rfl ?_
              have K795 : ∀ b : Nat, b ≤ 1 → zz Γ (D, E, 16, ad, sh) (zz_End Γ (D, E, 16, ad, sh) (ql_T n) zz_none 50 1400) 0 0 sh mi mr 795 [(0, .ref 2), (1, .ref 100), (2, .ref 102), (3, .ref 103), (4, .ref 104), (5, .ref 109), (6, .int (nI 4)), (7, .int (nI one)), (8, .int (nI two)), (9, .int (nI t)), (10, .int (nI x)), (11, .int (nI y)), (12, .int (nI w - nI 1)), (13, .int (nI 0))] [.int (nI b)] := by
                intro b hb
                refine zz_istore (ls' := [(0, .ref 2), (1, .ref 100), (2, .ref 102), (3, .ref 103), (4, .ref 104), (5, .ref 109), (6, .int (nI 4)), (7, .int (nI one)), (8, .int (nI two)), (9, .int (nI t)), (10, .int (nI x)), (11, .int (nI y)), (12, .int (nI w - nI 1)), (13, .int (nI 0)), (14, .int (nI b))]) hX dL_isTold_795 (Nat.le_of_ble_eq_true rfl) rfl ?_
                refine zz_iload hX dL_isTold_797 13 rfl ?_
                refine zz_if_eq hX 811 dL_isTold_799 (by decide) (fun _ => ?_) (fun c => absurd c (by decide))
                refine zz_iconst (v := nI 0) hX dL_isTold_811 rfl ?_
                refine zz_istore (ls' := [(0, .ref 2), (1, .ref 100), (2, .ref 102), (3, .ref 103), (4, .ref 104), (5, .ref 109), (6, .int (nI 4)), (7, .int (nI one)), (8, .int (nI two)), (9, .int (nI t)), (10, .int (nI x)), (11, .int (nI y)), (12, .int (nI w - nI 1)), (13, .int (nI 0)), (14, .int (nI b)), (15, .int (nI 0))]) hX dL_isTold_812 (Nat.le_of_ble_eq_true rfl) rfl ?_
                refine zz_iload hX dL_isTold_814 15 rfl ?_
                refine zz_if_eq hX 856 dL_isTold_816 (by decide) (fun _ => ?_) (fun c => absurd c (by decide))
                refine zz_aload_n hX dL_isTold_856 0 rfl rfl ?_
                refine zz_iconst (v := nI 4) hX dL_isTold_857 rfl ?_
                refine zz_iload hX dL_isTold_858 9 rfl ?_
                refine zz_iload hX dL_isTold_860 10 rfl ?_
                refine zz_iload hX dL_isTold_862 11 rfl ?_
                refine zz_iload hX dL_isTold_864 12 rfl ?_
                refine zz_callSH hX zf_M_L_161 (As := [.ref 2, .int (nI 4), .int (nI t), .int (nI x), .int (nI y), .int (nI w - nI 1)]) (st := []) (D_shot S sh mi mr (ql_W hI) (ql_R_f (ql_W hI) hR (M := mi) (fun l hl => rfl)) (nI t) (nI x) (nI y) (nI w - nI 1)) rfl rfl (by decide) (Nat.le_of_ble_eq_true rfl) (Nat.le_of_ble_eq_true rfl) (Nat.le_of_ble_eq_true rfl) dL_isTold_866 ?_ (fun _ _ _ _ h _ => h.elim)
                rintro v9 s9 i9 m9 ⟨k9, rfl, hk9, hS9⟩ -
                obtain ⟨e9, hR9⟩ := zq_d2 hk9 (fun h => g0 ⟨zs_ixl h.1 (by omega), (zs_wv (by omega) (by omega)).mp h.2⟩)
                obtain rfl := e9.symm
                refine zz_iload hX dL_isTold_869 13 rfl ?_
                refine zz_if_ne hX 879 dL_isTold_871 (by decide) (fun c => absurd c (by decide)) (fun _ => ?_)
                refine zz_ldc (v := -3000000) hX zw_con_L_84 dL_isTold_874 ?_
                refine zz_goto hX 895 dL_isTold_876 (by decide) ?_
                refine zz_icmp_ne hX 902 dL_isTold_895 (by decide) (fun c => absurd c (by decide)) (fun _ => ?_)
                refine zz_iconst (v := nI 1) hX dL_isTold_898 rfl ?_
                refine zz_goto hX 903 dL_isTold_899 (by decide) ?_
                refine zz_iret hX hr rfl (Nat.le_of_ble_eq_true rfl) (Nat.le_of_ble_eq_true rfl) dL_isTold_903 ?_
                exact ⟨rfl, ⟨_, ql_J_end hn (ql_W hI) (ql_B_mono (ql_BB hI) (by omega)) hI.2.2.2 hR9 hS9⟩, ql_10 h10 hS9⟩
              refine zz_iload hX dL_isTold_767 10 rfl ?_
              refine zz_if_leN hX (by omega) 794 dL_isTold_769 (by decide) (fun c769 => ?_) (fun c769 => ?_)
              · skip
                refine zz_iconst (v := nI 0) hX dL_isTold_794 rfl ?_
                exact K795 0 (by omega)
              · skip
                refine zz_iload hX dL_isTold_772 10 rfl ?_
                refine zz_bipush (v := nI 49) hX dL_isTold_774 rfl ?_
                refine zz_icmp_geN hX (by omega) (by decide) 794 dL_isTold_776 (by decide) (fun c776 => ?_) (fun c776 => ?_)
                · skip
                  refine zz_iconst (v := nI 0) hX dL_isTold_794 rfl ?_
                  exact K795 0 (by omega)
                · skip
                  refine zz_iload hX dL_isTold_779 11 rfl ?_
                  refine zz_if_leN hX (by omega) 794 dL_isTold_781 (by decide) (fun c781 => ?_) (fun c781 => ?_)
                  · skip
                    refine zz_iconst (v := nI 0) hX dL_isTold_794 rfl ?_
                    exact K795 0 (by omega)
                  · skip
                    refine zz_iload hX dL_isTold_784 11 rfl ?_
                    refine zz_iconst (v := nI 3) hX dL_isTold_786 rfl ?_
                    refine zz_icmp_geN hX (by omega) (by decide) 794 dL_isTold_787 (by decide) (fun c787 => ?_) (fun c787 => ?_)
                    · skip
                      refine zz_iconst (v := nI 0) hX dL_isTold_794 rfl ?_
                      exact K795 0 (by omega)
                    · skip
                      refine zz_iconst (v := nI 1) hX dL_isTold_790 rfl ?_
                      refine zz_goto hX 795 dL_isTold_791 (by decide) ?_
                      exact K795 1 (by omega)
            · skip
              refine zz_iload hX dL_isTold_751 12 rfl ?_
              refine zz_aload hX dL_isTold_753 5 rfl ?_
              refine zz_iconst (v := nI 1) hX dL_isTold_755 rfl ?_
              refine zz_iald (x := nI (zv_nv S)) hX (ql_s109 hI) 1 rfl (by decide) (by decide) ((ql_g1 hI)) dL_isTold_756 ?_
              refine zz_icmp_ge hX 764 dL_isTold_757 (by decide) (fun c757 => ?_) (fun c757 => absurd ((zs_w1 (by omega) (by omega)).mpr (by omega)) c757)
              refine zz_iconst (v := nI 0) hX dL_isTold_764 rfl ?_
              refine zz_istore (ls' := [(0, .ref 2), (1, .ref 100), (2, .ref 102), (3, .ref 103), (4, .ref 104), (5, .ref 109), (6, .int (nI 4)), (7, .int (nI one)), (8, .int (nI two)), (9, .int (nI t)), (10, .int (nI x)), (11, .int (nI y)), (12, .int (nI w - nI 1)), (13, .int (nI 0))]) hX dL_isTold_765 (Nat.le_of_ble_eq_true rfl) rfl ?_
              have K795 : ∀ b : Nat, b ≤ 1 → zz Γ (D, E, 16, ad, sh) (zz_End Γ (D, E, 16, ad, sh) (ql_T n) zz_none 50 1400) 0 0 sh mi mr 795 [(0, .ref 2), (1, .ref 100), (2, .ref 102), (3, .ref 103), (4, .ref 104), (5, .ref 109), (6, .int (nI 4)), (7, .int (nI one)), (8, .int (nI two)), (9, .int (nI t)), (10, .int (nI x)), (11, .int (nI y)), (12, .int (nI w - nI 1)), (13, .int (nI 0))] [.int (nI b)] := by
                intro b hb
                refine zz_istore (ls' := [(0, .ref 2), (1, .ref 100), (2, .ref 102), (3, .ref 103), (4, .ref 104), (5, .ref 109), (6, .int (nI 4)), (7, .int (nI one)), (8, .int (nI two)), (9, .int (nI t)), (10, .int (nI x)), (11, .int (nI y)), (12, .int (nI w - nI 1)), (13, .int (nI 0)), (14, .int (nI b))]) hX dL_isTold_795 (Nat.le_of_ble_eq_true rfl) rfl ?_
                refine zz_iload hX dL_isTold_797 13 rfl ?_
                refine zz_if_eq hX 811 dL_isTold_799 (by decide) (fun _ => ?_) (fun c => absurd c (by decide))
                refine zz_iconst (v := nI 0) hX dL_isTold_811 rfl ?_
                refine zz_istore (ls' := [(0, .ref 2), (1, .ref 100), (2, .ref 102), (3, .ref 103), (4, .ref 104), (5, .ref 109), (6, .int (nI 4)), (7, .int (nI one)), (8, .int (nI two)), (9, .int (nI t)), (10, .int (nI x)), (11, .int (nI y)), (12, .int (nI w - nI 1)), (13, .int (nI 0)), (14, .int (nI b)), (15, .int (nI 0))]) hX dL_isTold_812 (Nat.le_of_ble_eq_true rfl) rfl ?_
                refine zz_iload hX dL_isTold_814 15 rfl ?_
                refine zz_if_eq hX 856 dL_isTold_816 (by decide) (fun _ => ?_) (fun c => absurd c (by decide))
                refine zz_aload_n hX dL_isTold_856 0 rfl rfl ?_
                refine zz_iconst (v := nI 4) hX dL_isTold_857 rfl ?_
                refine zz_iload hX dL_isTold_858 9 rfl ?_
                refine zz_iload hX dL_isTold_860 10 rfl ?_
                refine zz_iload hX dL_isTold_862 11 rfl ?_
                refine zz_iload hX dL_isTold_864 12 rfl ?_
                refine zz_callSH hX zf_M_L_161 (As := [.ref 2, .int (nI 4), .int (nI t), .int (nI x), .int (nI y), .int (nI w - nI 1)]) (st := []) (D_shot S sh mi mr (ql_W hI) (ql_R_f (ql_W hI) hR (M := mi) (fun l hl => rfl)) (nI t) (nI x) (nI y) (nI w - nI 1)) rfl rfl (by decide) (Nat.le_of_ble_eq_true rfl) (Nat.le_of_ble_eq_true rfl) (Nat.le_of_ble_eq_true rfl) dL_isTold_866 ?_ (fun _ _ _ _ h _ => h.elim)
                rintro v9 s9 i9 m9 ⟨k9, rfl, hk9, hS9⟩ -
                obtain ⟨e9, hR9⟩ := zq_d2 hk9 (fun h => g0 ⟨zs_ixl h.1 (by omega), (zs_wv (by omega) (by omega)).mp h.2⟩)
                obtain rfl := e9.symm
                refine zz_iload hX dL_isTold_869 13 rfl ?_
                refine zz_if_ne hX 879 dL_isTold_871 (by decide) (fun c => absurd c (by decide)) (fun _ => ?_)
                refine zz_ldc (v := -3000000) hX zw_con_L_84 dL_isTold_874 ?_
                refine zz_goto hX 895 dL_isTold_876 (by decide) ?_
                refine zz_icmp_ne hX 902 dL_isTold_895 (by decide) (fun c => absurd c (by decide)) (fun _ => ?_)
                refine zz_iconst (v := nI 1) hX dL_isTold_898 rfl ?_
                refine zz_goto hX 903 dL_isTold_899 (by decide) ?_
                refine zz_iret hX hr rfl (Nat.le_of_ble_eq_true rfl) (Nat.le_of_ble_eq_true rfl) dL_isTold_903 ?_
                exact ⟨rfl, ⟨_, ql_J_end hn (ql_W hI) (ql_B_mono (ql_BB hI) (by omega)) hI.2.2.2 hR9 hS9⟩, ql_10 h10 hS9⟩
              refine zz_iload hX dL_isTold_767 10 rfl ?_
              refine zz_if_leN hX (by omega) 794 dL_isTold_769 (by decide) (fun c769 => ?_) (fun c769 => ?_)
              · skip
                refine zz_iconst (v := nI 0) hX dL_isTold_794 rfl ?_
                exact K795 0 (by omega)
              · skip
                refine zz_iload hX dL_isTold_772 10 rfl ?_
                refine zz_bipush (v := nI 49) hX dL_isTold_774 rfl ?_
                refine zz_icmp_geN hX (by omega) (by decide) 794 dL_isTold_776 (by decide) (fun c776 => ?_) (fun c776 => ?_)
                · skip
                  refine zz_iconst (v := nI 0) hX dL_isTold_794 rfl ?_
                  exact K795 0 (by omega)
                · skip
                  refine zz_iload hX dL_isTold_779 11 rfl ?_
                  refine zz_if_leN hX (by omega) 794 dL_isTold_781 (by decide) (fun c781 => ?_) (fun c781 => ?_)
                  · skip
                    refine zz_iconst (v := nI 0) hX dL_isTold_794 rfl ?_
                    exact K795 0 (by omega)
                  · skip
                    refine zz_iload hX dL_isTold_784 11 rfl ?_
                    refine zz_iconst (v := nI 3) hX dL_isTold_786 rfl ?_
                    refine zz_icmp_geN hX (by omega) (by decide) 794 dL_isTold_787 (by decide) (fun c787 => ?_) (fun c787 => ?_)
                    · skip
                      refine zz_iconst (v := nI 0) hX dL_isTold_794 rfl ?_
                      exact K795 0 (by omega)
                    · skip
                      refine zz_iconst (v := nI 1) hX dL_isTold_790 rfl ?_
                      refine zz_goto hX 795 dL_isTold_791 (by decide) ?_
                      exact K795 1 (by omega)
        refine zz_iload hX dL_isTold_710 7 rfl ?_
        refine zz_iconst (v := nI 3) hX dL_isTold_712 rfl ?_
        refine zz_idiv (z := nI (one / 3)) hX dL_isTold_713 (by decide) (pk_div (by omega) (by decide) (by decide)) ?_
        refine zz_iconst (v := nI 5) hX dL_isTold_714 rfl ?_
        refine zz_irem (z := nI ((one / 3) % 5)) hX dL_isTold_715 (by decide) (pk_rem (by omega) (by decide) (by decide)) ?_
        refine zz_iconst (v := nI 4) hX dL_isTold_716 rfl ?_
        refine zz_icmp_neN hX (by omega) (by decide) 727 dL_isTold_717 (by decide) (fun c717 => ?_) (fun c717 => ?_)
        · skip
          refine zz_iload hX dL_isTold_727 7 rfl ?_
          refine zz_iconst (v := nI 3) hX dL_isTold_729 rfl ?_
          refine zz_idiv (z := nI (one / 3)) hX dL_isTold_730 (by decide) (pk_div (by omega) (by decide) (by decide)) ?_
          refine zz_aload hX dL_isTold_731 5 rfl ?_
          refine zz_iconst (v := nI 1) hX dL_isTold_733 rfl ?_
          refine zz_iald (x := nI (zv_nv S)) hX (ql_s109 hI) 1 rfl (by decide) (by decide) ((ql_g1 hI)) dL_isTold_734 ?_
          refine zz_iconst (v := nI 1) hX dL_isTold_735 rfl ?_
          refine zz_iadd (z := nI (zv_nv S + 1)) hX dL_isTold_736 (nI_add _ _) ?_
          refine zz_irem (z := nI ((one / 3) % (zv_nv S + 1))) hX dL_isTold_737 (nI_ne0 (by omega) (by omega)) (pk_rem (by omega) (by omega) (by omega)) ?_
          refine zz_iconst (v := nI 1) hX dL_isTold_738 rfl ?_
          refine zz_isub (z := (nI ((one / 3) % (zv_nv S + 1))) - (nI 1)) hX dL_isTold_739 rfl ?_
          exact K740 ((nI ((one / 3) % (zv_nv S + 1))) - (nI 1)) (⟨_, Nat.le_of_lt (Nat.lt_of_lt_of_le (Nat.mod_lt _ (by omega)) (Nat.le_refl _)), rfl⟩)
        · skip
          refine zz_aload hX dL_isTold_720 5 rfl ?_
          refine zz_iconst (v := nI 1) hX dL_isTold_722 rfl ?_
          refine zz_iald (x := nI (zv_nv S)) hX (ql_s109 hI) 1 rfl (by decide) (by decide) ((ql_g1 hI)) dL_isTold_723 ?_
          refine zz_goto hX 740 dL_isTold_724 (by decide) ?_
          exact K740 (nI (zv_nv S)) (⟨zv_nv S + 1, by omega, ((pk_sub (a := zv_nv S + 1) (b := 1) (by omega)).trans (congrArg nI (by omega))).symm⟩)
      refine zz_iload hX dL_isTold_676 8 rfl ?_
      refine zz_bipush (v := nI 9) hX dL_isTold_678 rfl ?_
      refine zz_idiv (z := nI (two / 9)) hX dL_isTold_680 (by decide) (pk_div (by omega) (by decide) (by decide)) ?_
      refine zz_bipush (v := nI 9) hX dL_isTold_681 rfl ?_
      refine zz_irem (z := nI ((two / 9) % 9)) hX dL_isTold_683 (by decide) (pk_rem (by omega) (by decide) (by decide)) ?_
      refine zz_if_neN hX (by omega) 699 dL_isTold_684 (by decide) (fun c684 => ?_) (fun c684 => ?_)
      · skip
        refine zz_iconst (v := nI 1) hX dL_isTold_699 rfl ?_
        refine zz_iload hX dL_isTold_700 8 rfl ?_
        refine zz_bipush (v := nI 9) hX dL_isTold_702 rfl ?_
        refine zz_idiv (z := nI (two / 9)) hX dL_isTold_704 (by decide) (pk_div (by omega) (by decide) (by decide)) ?_
        refine zz_iconst (v := nI 2) hX dL_isTold_705 rfl ?_
        refine zz_irem (z := nI ((two / 9) % 2)) hX dL_isTold_706 (by decide) (pk_rem (by omega) (by decide) (by decide)) ?_
        refine zz_iadd (z := nI (1 + (two / 9) % 2)) hX dL_isTold_707 (nI_add _ _) ?_
        exact K708 (1 + (two / 9) % 2) (by omega)
      · skip
        refine zz_iload hX dL_isTold_687 8 rfl ?_
        refine zz_bipush (v := nI 81) hX dL_isTold_689 rfl ?_
        refine zz_idiv (z := nI (two / 81)) hX dL_isTold_691 (by decide) (pk_div (by omega) (by decide) (by decide)) ?_
        refine zz_iconst (v := nI 2) hX dL_isTold_692 rfl ?_
        refine zz_irem (z := nI ((two / 81) % 2)) hX dL_isTold_693 (by decide) (pk_rem (by omega) (by decide) (by decide)) ?_
        refine zz_iconst (v := nI 3) hX dL_isTold_694 rfl ?_
        refine zz_imul (z := nI (((two / 81) % 2) * 3)) hX dL_isTold_695 (pk_mul _ _) ?_
        refine zz_goto hX 708 dL_isTold_696 (by decide) ?_
        exact K708 (((two / 81) % 2) * 3) (by omega)
    refine zz_iload hX dL_isTold_646 8 rfl ?_
    refine zz_bipush (v := nI 9) hX dL_isTold_648 rfl ?_
    refine zz_irem (z := nI (two % 9)) hX dL_isTold_650 (by decide) (pk_rem (by omega) (by decide) (by decide)) ?_
    refine zz_if_neN hX (by omega) 667 dL_isTold_651 (by decide) (fun c651 => ?_) (fun c651 => ?_)
    · skip
      refine zz_iconst (v := nI 1) hX dL_isTold_667 rfl ?_
      refine zz_iload hX dL_isTold_668 8 rfl ?_
      refine zz_bipush (v := nI 6) hX dL_isTold_670 rfl ?_
      refine zz_irem (z := nI (two % 6)) hX dL_isTold_672 (by decide) (pk_rem (by omega) (by decide) (by decide)) ?_
      refine zz_iadd (z := nI (1 + two % 6)) hX dL_isTold_673 (nI_add _ _) ?_
      exact K674 (1 + two % 6) (by omega)
    · skip
      refine zz_iload hX dL_isTold_654 8 rfl ?_
      refine zz_bipush (v := nI 9) hX dL_isTold_656 rfl ?_
      refine zz_idiv (z := nI (two / 9)) hX dL_isTold_658 (by decide) (pk_div (by omega) (by decide) (by decide)) ?_
      refine zz_iconst (v := nI 2) hX dL_isTold_659 rfl ?_
      refine zz_irem (z := nI ((two / 9) % 2)) hX dL_isTold_660 (by decide) (pk_rem (by omega) (by decide) (by decide)) ?_
      refine zz_bipush (v := nI 49) hX dL_isTold_661 rfl ?_
      refine zz_imul (z := nI (((two / 9) % 2) * 49)) hX dL_isTold_663 (pk_mul _ _) ?_
      refine zz_goto hX 674 dL_isTold_664 (by decide) ?_
      exact K674 (((two / 9) % 2) * 49) (by omega)
  · skip
    refine zz_iconst (v := nI 1) hX dL_isTold_644 rfl ?_
    refine zz_iret hX hr rfl (Nat.le_of_ble_eq_true rfl) (Nat.le_of_ble_eq_true rfl) dL_isTold_645 ?_
    exact ⟨rfl, ⟨S, ql_I_mono hI (by omega) hn, hR⟩, h10⟩

set_option maxHeartbeats 1000000 in
set_option maxRecDepth 20000 in
theorem T_assign (n : Nat) (hn : n + 1 ≤ 64) (S : zS) (sh : zm_Sh) (mi : zm_Mi) (mr : zm_Mr) (hI : ql_I n S sh mi) (hR : zR S sh mi mr) (h10 : sh 10 = some (9, 0)) (one two : Nat) (ho : one < 60000) (ht : two < 60000)  : zz_Con yL_isTold (.code yL_isTold cL_isTold 16 (some Jvm.ClassFile.FieldType.boolean)) 12 10 60 [.ref 2, .ref 100, .ref 102, .ref 103, .ref 104, .ref 109, .int (nI 5), .int (nI one), .int (nI two)] sh mi mr (ql_T n) zz_none := by
  refine zz_begin RL [(0, .ref 2), (1, .ref 100), (2, .ref 102), (3, .ref 103), (4, .ref 104), (5, .ref 109), (6, .int (nI 5)), (7, .int (nI one)), (8, .int (nI two))] (by decide) rfl rfl (Nat.le_of_ble_eq_true rfl) rfl ?_
  intro Γ D E ad hX hr hN hT
  obtain ⟨n1, n2, n3, n4⟩ := ql_num hI
  have hsm := ql_small hI
  refine zz_iload hX dL_isTold_0 6 rfl ?_
  refine zz_if_ne hX 116 dL_isTold_2 (by decide) (fun _ => ?_) (fun c => absurd c (by decide))
  refine zz_iload hX dL_isTold_116 7 rfl ?_
  refine zz_aload hX dL_isTold_118 5 rfl ?_
  refine zz_iconst (v := nI 0) hX dL_isTold_120 rfl ?_
  refine zz_iald (x := nI (zv_np S)) hX (ql_s109 hI) 0 rfl (by decide) (by decide) ((ql_g0 hI)) dL_isTold_121 ?_
  refine zz_iconst (v := nI 1) hX dL_isTold_122 rfl ?_
  refine zz_iadd (z := nI (zv_np S + 1)) hX dL_isTold_123 (nI_add _ _) ?_
  refine zz_irem (z := nI (one % (zv_np S + 1))) hX dL_isTold_124 (nI_ne0 (by omega) (by omega)) (pk_rem (by omega) (by omega) (by omega)) ?_
  have ht9 : one % (zv_np S + 1) < zv_np S + 1 := Nat.mod_lt _ (by omega)
  generalize one % (zv_np S + 1) = t at ht9 ⊢
  have z_t : zn (nI t) = t := nI_clamp (n := t) (by omega)
  refine zz_istore (ls' := [(0, .ref 2), (1, .ref 100), (2, .ref 102), (3, .ref 103), (4, .ref 104), (5, .ref 109), (6, .int (nI 5)), (7, .int (nI one)), (8, .int (nI two)), (9, .int (nI t))]) hX dL_isTold_125 (Nat.le_of_ble_eq_true rfl) rfl ?_
  refine zz_iload hX dL_isTold_127 6 rfl ?_
  refine zz_iconst (v := nI 2) hX dL_isTold_129 rfl ?_
  refine zz_icmp_ge hX 360 dL_isTold_130 (by decide) (fun _ => ?_) (fun c => absurd c (by decide))
  refine zz_iload hX dL_isTold_360 6 rfl ?_
  refine zz_iconst (v := nI 2) hX dL_isTold_362 rfl ?_
  refine zz_icmp_ne hX 544 dL_isTold_363 (by decide) (fun _ => ?_) (fun c => absurd c (by decide))
  refine zz_iload hX dL_isTold_544 6 rfl ?_
  refine zz_iconst (v := nI 3) hX dL_isTold_546 rfl ?_
  refine zz_icmp_ne hX 630 dL_isTold_547 (by decide) (fun _ => ?_) (fun c => absurd c (by decide))
  refine zz_iload hX dL_isTold_630 6 rfl ?_
  refine zz_iconst (v := nI 4) hX dL_isTold_632 rfl ?_
  refine zz_icmp_ne hX 904 dL_isTold_633 (by decide) (fun _ => ?_) (fun c => absurd c (by decide))
  refine zz_iload hX dL_isTold_904 7 rfl ?_
  refine zz_aload hX dL_isTold_906 5 rfl ?_
  refine zz_iconst (v := nI 2) hX dL_isTold_908 rfl ?_
  refine zz_iald (x := nI (zv_ns S)) hX (ql_s109 hI) 2 rfl (by decide) (by decide) ((ql_g2 hI)) dL_isTold_909 ?_
  refine zz_iconst (v := nI 1) hX dL_isTold_910 rfl ?_
  refine zz_iadd (z := nI (zv_ns S + 1)) hX dL_isTold_911 (nI_add _ _) ?_
  refine zz_irem (z := nI (one % (zv_ns S + 1))) hX dL_isTold_912 (nI_ne0 (by omega) (by omega)) (pk_rem (by omega) (by omega) (by omega)) ?_
  have hq9 : one % (zv_ns S + 1) < zv_ns S + 1 := Nat.mod_lt _ (by omega)
  generalize one % (zv_ns S + 1) = q at hq9 ⊢
  have z_q : zn (nI q) = q := nI_clamp (n := q) (by omega)
  refine zz_istore (ls' := [(0, .ref 2), (1, .ref 100), (2, .ref 102), (3, .ref 103), (4, .ref 104), (5, .ref 109), (6, .int (nI 5)), (7, .int (nI one)), (8, .int (nI two)), (9, .int (nI t)), (10, .int (nI q))]) hX dL_isTold_913 (Nat.le_of_ble_eq_true rfl) rfl ?_
  by_cases g0 : q < zv_ns S
  · skip
    have hwq := ql_hw_lt hI g0
    obtain ⟨q1, q2, q3, q4, q5, q6, q7, q8, q9, q10, q11, q12⟩ := ql_shot hI g0
    refine zz_iload hX dL_isTold_915 10 rfl ?_
    refine zz_aload hX dL_isTold_917 5 rfl ?_
    refine zz_iconst (v := nI 2) hX dL_isTold_919 rfl ?_
    refine zz_iald (x := nI (zv_ns S)) hX (ql_s109 hI) 2 rfl (by decide) (by decide) ((ql_g2 hI)) dL_isTold_920 ?_
    refine zz_icmp_geN hX (by omega) (by omega) 928 dL_isTold_921 (by decide) (fun c921 => absurd c921 (by omega)) (fun c921 => ?_)
    refine zz_iconst (v := nI 1) hX dL_isTold_924 rfl ?_
    refine zz_goto hX 929 dL_isTold_925 (by decide) ?_
    refine zz_istore (ls' := [(0, .ref 2), (1, .ref 100), (2, .ref 102), (3, .ref 103), (4, .ref 104), (5, .ref 109), (6, .int (nI 5)), (7, .int (nI one)), (8, .int (nI two)), (9, .int (nI t)), (10, .int (nI q)), (11, .int (nI 1))]) hX dL_isTold_929 (Nat.le_of_ble_eq_true rfl) rfl ?_
    refine zz_iload hX dL_isTold_931 6 rfl ?_
    refine zz_iconst (v := nI 5) hX dL_isTold_933 rfl ?_
    refine zz_icmp_ne hX 1129 dL_isTold_934 (by decide) (fun c => absurd c (by decide)) (fun _ => ?_)
    have K955 : ∀ y : Nat, (y = 5 ∨ y ≤ 1) → zz Γ (D, E, 16, ad, sh) (zz_End Γ (D, E, 16, ad, sh) (ql_T n) zz_none 10 60) 0 0 sh mi mr 955 [(0, .ref 2), (1, .ref 100), (2, .ref 102), (3, .ref 103), (4, .ref 104), (5, .ref 109), (6, .int (nI 5)), (7, .int (nI one)), (8, .int (nI two)), (9, .int (nI t)), (10, .int (nI q)), (11, .int (nI 1))] [.int (nI y)] := by
      intro y hy
      refine zz_istore (ls' := [(0, .ref 2), (1, .ref 100), (2, .ref 102), (3, .ref 103), (4, .ref 104), (5, .ref 109), (6, .int (nI 5)), (7, .int (nI one)), (8, .int (nI two)), (9, .int (nI t)), (10, .int (nI q)), (11, .int (nI 1)), (12, .int (nI y))]) hX dL_isTold_955 (Nat.le_of_ble_eq_true rfl) rfl ?_
      by_cases u0 : y < 5
      · skip
        by_cases u1 : zv_sk S q < zv_fr S q
        · skip
          by_cases u2 : zv_sk S q = 0
          · skip
            refine zz_iload hX dL_isTold_957 11 rfl ?_
            refine zz_if_eq hX 972 dL_isTold_959 (by decide) (fun c => absurd c (by decide)) (fun _ => ?_)
            refine zz_iload hX dL_isTold_962 12 rfl ?_
            refine zz_iconst (v := nI 5) hX dL_isTold_964 rfl ?_
            refine zz_icmp_geN hX (by omega) (by decide) 972 dL_isTold_965 (by decide) (fun c965 => absurd c965 (by omega)) (fun c965 => ?_)
            refine zz_iconst (v := nI 1) hX dL_isTold_968 rfl ?_
            refine zz_goto hX 973 dL_isTold_969 (by decide) ?_
            refine zz_istore (ls' := [(0, .ref 2), (1, .ref 100), (2, .ref 102), (3, .ref 103), (4, .ref 104), (5, .ref 109), (6, .int (nI 5)), (7, .int (nI one)), (8, .int (nI two)), (9, .int (nI t)), (10, .int (nI q)), (11, .int (nI 1)), (12, .int (nI y)), (13, .int (nI 1))]) hX dL_isTold_973 (Nat.le_of_ble_eq_true rfl) rfl ?_
            refine zz_iload hX dL_isTold_975 11 rfl ?_
            refine zz_if_eq hX 997 dL_isTold_977 (by decide) (fun c => absurd c (by decide)) (fun _ => ?_)
            refine zz_aload hX dL_isTold_980 4 rfl ?_
            refine zz_iload hX dL_isTold_982 10 rfl ?_
            refine zz_iald (x := nI (ql_hw S q)) hX (ql_s104 hI) q rfl (by omega) (by decide) ((ql_rd_h hI (by omega))) dL_isTold_984 ?_
            refine zz_sipush (v := nI 1024) hX dL_isTold_985 rfl ?_
            refine zz_idiv (z := nI ((ql_hw S q) / 1024)) hX dL_isTold_988 (by decide) (pk_div (by omega) (by decide) (by decide)) ?_
            refine zz_bipush (v := nI 8) hX dL_isTold_989 rfl ?_
            refine zz_irem (z := nI (((ql_hw S q) / 1024) % 8)) hX dL_isTold_991 (by decide) (pk_rem (by omega) (by decide) (by decide)) ?_
            refine zz_iconst (v := nI 1) hX dL_isTold_992 rfl ?_
            refine zz_isub (z := S 14 q) hX dL_isTold_993 ((congrArg (fun z => nI z - nI 1) (ql_hw_an hI (a := q) (by omega))).trans (ql_an hI (a := q) (by omega))) ?_
            refine zz_goto hX 998 dL_isTold_994 (by decide) ?_
            refine zz_istore (ls' := [(0, .ref 2), (1, .ref 100), (2, .ref 102), (3, .ref 103), (4, .ref 104), (5, .ref 109), (6, .int (nI 5)), (7, .int (nI one)), (8, .int (nI two)), (9, .int (nI t)), (10, .int (nI q)), (11, .int (nI 1)), (12, .int (nI y)), (13, .int (nI 1)), (14, .int (S 14 q))]) hX dL_isTold_998 (Nat.le_of_ble_eq_true rfl) rfl ?_
            refine zz_iload hX dL_isTold_1000 13 rfl ?_
            refine zz_if_eq hX 1049 dL_isTold_1002 (by decide) (fun c => absurd c (by decide)) (fun _ => ?_)
            refine zz_aload hX dL_isTold_1005 4 rfl ?_
            refine zz_iload hX dL_isTold_1007 10 rfl ?_
            refine zz_sI (x := nI (zv_sk S q)) hX zf_M_L_101 (As := [.ref 104, .int (nI q)]) (st := []) (Q_struck n S sh mi mr hI q (by omega)) rfl rfl (by decide) (Nat.le_of_ble_eq_true rfl) (Nat.le_of_ble_eq_true rfl) (Nat.le_of_ble_eq_true rfl) dL_isTold_1009 ?_
            refine zz_aload hX dL_isTold_1012 4 rfl ?_
            refine zz_iload hX dL_isTold_1014 10 rfl ?_
            refine zz_sI (x := nI (zv_fr S q)) hX zf_M_L_105 (As := [.ref 104, .int (nI q)]) (st := [.int (nI (zv_sk S q))]) (Q_frames n S sh mi mr hI q (by omega)) rfl rfl (by decide) (Nat.le_of_ble_eq_true rfl) (Nat.le_of_ble_eq_true rfl) (Nat.le_of_ble_eq_true rfl) dL_isTold_1016 ?_
            refine zz_icmp_geN hX (by omega) (by omega) 1049 dL_isTold_1019 (by decide) (fun c1019 => absurd c1019 (by omega)) (fun c1019 => ?_)
            refine zz_aload hX dL_isTold_1022 4 rfl ?_
            refine zz_iload hX dL_isTold_1024 10 rfl ?_
            refine zz_sI (x := nI (zv_sk S q)) hX zf_M_L_101 (As := [.ref 104, .int (nI q)]) (st := []) (Q_struck n S sh mi mr hI q (by omega)) rfl rfl (by decide) (Nat.le_of_ble_eq_true rfl) (Nat.le_of_ble_eq_true rfl) (Nat.le_of_ble_eq_true rfl) dL_isTold_1026 ?_
            refine zz_if_eqN hX (by omega) 1045 dL_isTold_1029 (by decide) (fun c1029 => ?_) (fun c1029 => absurd c1029 (by omega))
            refine zz_iconst (v := nI 1) hX dL_isTold_1045 rfl ?_
            refine zz_goto hX 1050 dL_isTold_1046 (by decide) ?_
            refine zz_istore (ls' := [(0, .ref 2), (1, .ref 100), (2, .ref 102), (3, .ref 103), (4, .ref 104), (5, .ref 109), (6, .int (nI 5)), (7, .int (nI one)), (8, .int (nI two)), (9, .int (nI t)), (10, .int (nI q)), (11, .int (nI 1)), (12, .int (nI y)), (13, .int (nI 1)), (14, .int (S 14 q)), (15, .int (nI 1))]) hX dL_isTold_1050 (Nat.le_of_ble_eq_true rfl) rfl ?_
            refine zz_aload hX dL_isTold_1052 4 rfl ?_
            refine zz_iload hX dL_isTold_1054 15 rfl ?_
            refine zz_if_eq hX 1064 dL_isTold_1056 (by decide) (fun c => absurd c (by decide)) (fun _ => ?_)
            refine zz_iload hX dL_isTold_1059 10 rfl ?_
            refine zz_goto hX 1065 dL_isTold_1061 (by decide) ?_
            refine zz_dup2 hX dL_isTold_1065 rfl rfl ?_
            refine zz_iald (x := nI (ql_hw S q)) hX (ql_s104 hI) q rfl (by omega) (by decide) ((ql_rd_h hI (by omega))) dL_isTold_1066 ?_
            refine zz_iload hX dL_isTold_1067 15 rfl ?_
            refine zz_if_eq hX 1084 dL_isTold_1069 (by decide) (fun c => absurd c (by decide)) (fun _ => ?_)
            refine zz_sipush (v := nI 1024) hX dL_isTold_1072 rfl ?_
            refine zz_iload hX dL_isTold_1075 12 rfl ?_
            refine zz_iload hX dL_isTold_1077 14 rfl ?_
            refine zz_isub (z := (nI y) - (S 14 q)) hX dL_isTold_1079 rfl ?_
            refine zz_imul (z := (nI 1024) * ((nI y) - (S 14 q))) hX dL_isTold_1080 rfl ?_
            refine zz_goto hX 1085 dL_isTold_1081 (by decide) ?_
            refine zz_iadd (z := (nI (ql_hw S q)) + ((nI 1024) * ((nI y) - (S 14 q)))) hX dL_isTold_1085 rfl ?_
            refine zz_top (show (nI (ql_hw S q)) + ((nI 1024) * ((nI y) - (S 14 q))) = nI (ql_hw (zm_u2 S 14 q (nI y)) q) from ql_hw_assign hI g0 u0) ?_
            refine zz_iast hX (ql_s104 hI) q rfl (by omega) (by decide) dL_isTold_1086 ?_
            refine zz_aload_n hX dL_isTold_1087 0 rfl rfl ?_
            refine zz_iconst (v := nI 5) hX dL_isTold_1088 rfl ?_
            refine zz_iload hX dL_isTold_1089 10 rfl ?_
            refine zz_iload hX dL_isTold_1091 12 rfl ?_
            refine zz_iconst (v := nI 0) hX dL_isTold_1093 rfl ?_
            refine zz_iconst (v := nI 0) hX dL_isTold_1094 rfl ?_
            have hA9 : zs_ix (nI q) (zv_ns S) ∧ zs_ix (nI y) 5 := ⟨zs_ix_nI g0 (by omega), zs_ix_nI u0 (by omega)⟩
            have hC9 : (¬ zv_fr S (zn (nI q)) ≤ zv_sk S (zn (nI q))) ∧ (0 < zv_sk S (zn (nI q)) → (¬ S 14 (zn (nI q)) = -1 ∧ ¬ S 17 (zn (S 14 (zn (nI q)))) = 0)) := by rw [z_q]; exact ⟨by omega, fun h => absurd h (by omega)⟩
            refine zz_callSH hX zf_M_L_161 (As := [.ref 2, .int (nI 5), .int (nI q), .int (nI y), .int (nI 0), .int (nI 0)]) (st := []) (D_assign S sh (zm_u2 mi 104 q (nI (ql_hw (zm_u2 S 14 q (nI y)) q))) mr (ql_W hI) (ql_R_f (ql_W hI) hR (M := (zm_u2 mi 104 q (nI (ql_hw (zm_u2 S 14 q (nI y)) q)))) (fun l hl => zm_u2r (by omega))) (nI q) (nI y) (nI 0) (nI 0)) rfl rfl (by decide) (Nat.le_of_ble_eq_true rfl) (Nat.le_of_ble_eq_true rfl) (Nat.le_of_ble_eq_true rfl) dL_isTold_1095 ?_ (fun _ _ _ _ h _ => h.elim)
            rintro v9 s9 i9 m9 ⟨k9, rfl, hk9, hS9⟩ -
            obtain ⟨e9, hR9⟩ := zq_d1 hk9 hA9 trivial hC9
            simp only [z_q] at e9 hR9
            obtain rfl := e9.symm
            refine zz_iload hX dL_isTold_1098 13 rfl ?_
            refine zz_if_ne hX 1108 dL_isTold_1100 (by decide) (fun _ => ?_) (fun c => absurd c (by decide))
            refine zz_iload hX dL_isTold_1108 15 rfl ?_
            refine zz_if_eq hX 1118 dL_isTold_1110 (by decide) (fun c => absurd c (by decide)) (fun _ => ?_)
            refine zz_iload hX dL_isTold_1113 14 rfl ?_
            refine zz_goto hX 1120 dL_isTold_1115 (by decide) ?_
            refine zz_icmp_ne hX 1127 dL_isTold_1120 (by decide) (fun c1120 => absurd rfl c1120) (fun c1120 => ?_)
            refine zz_iconst (v := nI 1) hX dL_isTold_1123 rfl ?_
            refine zz_goto hX 1128 dL_isTold_1124 (by decide) ?_
            refine zz_iret hX hr rfl (Nat.le_of_ble_eq_true rfl) (Nat.le_of_ble_eq_true rfl) dL_isTold_1128 ?_
            exact ⟨rfl, ⟨_, ql_J_end hn (by have z := U_assign (ql_W hI) (nI q) (nI y) hA9 trivial hC9; simp only [z_q] at z; exact z) (ql_B_s (ql_BB hI) (fun r hr => zm_u2r (by omega))) (ql_N_assign hI.2.2.2 rfl) hR9 hS9⟩, ql_10 h10 hS9⟩
          · skip
            refine zz_iload hX dL_isTold_957 11 rfl ?_
            refine zz_if_eq hX 972 dL_isTold_959 (by decide) (fun c => absurd c (by decide)) (fun _ => ?_)
            refine zz_iload hX dL_isTold_962 12 rfl ?_
            refine zz_iconst (v := nI 5) hX dL_isTold_964 rfl ?_
            refine zz_icmp_geN hX (by omega) (by decide) 972 dL_isTold_965 (by decide) (fun c965 => absurd c965 (by omega)) (fun c965 => ?_)
            refine zz_iconst (v := nI 1) hX dL_isTold_968 rfl ?_
            refine zz_goto hX 973 dL_isTold_969 (by decide) ?_
            refine zz_istore (ls' := [(0, .ref 2), (1, .ref 100), (2, .ref 102), (3, .ref 103), (4, .ref 104), (5, .ref 109), (6, .int (nI 5)), (7, .int (nI one)), (8, .int (nI two)), (9, .int (nI t)), (10, .int (nI q)), (11, .int (nI 1)), (12, .int (nI y)), (13, .int (nI 1))]) hX dL_isTold_973 (Nat.le_of_ble_eq_true rfl) rfl ?_
            refine zz_iload hX dL_isTold_975 11 rfl ?_
            refine zz_if_eq hX 997 dL_isTold_977 (by decide) (fun c => absurd c (by decide)) (fun _ => ?_)
            refine zz_aload hX dL_isTold_980 4 rfl ?_
            refine zz_iload hX dL_isTold_982 10 rfl ?_
            refine zz_iald (x := nI (ql_hw S q)) hX (ql_s104 hI) q rfl (by omega) (by decide) ((ql_rd_h hI (by omega))) dL_isTold_984 ?_
            refine zz_sipush (v := nI 1024) hX dL_isTold_985 rfl ?_
            refine zz_idiv (z := nI ((ql_hw S q) / 1024)) hX dL_isTold_988 (by decide) (pk_div (by omega) (by decide) (by decide)) ?_
            refine zz_bipush (v := nI 8) hX dL_isTold_989 rfl ?_
            refine zz_irem (z := nI (((ql_hw S q) / 1024) % 8)) hX dL_isTold_991 (by decide) (pk_rem (by omega) (by decide) (by decide)) ?_
            refine zz_iconst (v := nI 1) hX dL_isTold_992 rfl ?_
            refine zz_isub (z := S 14 q) hX dL_isTold_993 ((congrArg (fun z => nI z - nI 1) (ql_hw_an hI (a := q) (by omega))).trans (ql_an hI (a := q) (by omega))) ?_
            refine zz_goto hX 998 dL_isTold_994 (by decide) ?_
            refine zz_istore (ls' := [(0, .ref 2), (1, .ref 100), (2, .ref 102), (3, .ref 103), (4, .ref 104), (5, .ref 109), (6, .int (nI 5)), (7, .int (nI one)), (8, .int (nI two)), (9, .int (nI t)), (10, .int (nI q)), (11, .int (nI 1)), (12, .int (nI y)), (13, .int (nI 1)), (14, .int (S 14 q))]) hX dL_isTold_998 (Nat.le_of_ble_eq_true rfl) rfl ?_
            obtain ⟨a, ha5, ha14⟩ := zs_ix_of (((ql_W hI).2.2.1.2.2.1 q g0).2.2.2.2.2.2.2.2.2.2.2.2 (by omega)) (by omega)
            have z_a : zn (nI a) = a := nI_clamp (n := a) (by omega)
            have hill := ql_iw_ill (ql_W hI) ha5
            refine zz_lcl (ls' := [(0, .ref 2), (1, .ref 100), (2, .ref 102), (3, .ref 103), (4, .ref 104), (5, .ref 109), (6, .int (nI 5)), (7, .int (nI one)), (8, .int (nI two)), (9, .int (nI t)), (10, .int (nI q)), (11, .int (nI 1)), (12, .int (nI y)), (13, .int (nI 1)), (14, .int (nI a))]) (by rw [ha14]) ?_
            by_cases v0 : ql_iw S / 2 ^ a % 2 = 1
            · skip
              refine zz_iload hX dL_isTold_1000 13 rfl ?_
              refine zz_if_eq hX 1049 dL_isTold_1002 (by decide) (fun c => absurd c (by decide)) (fun _ => ?_)
              refine zz_aload hX dL_isTold_1005 4 rfl ?_
              refine zz_iload hX dL_isTold_1007 10 rfl ?_
              refine zz_sI (x := nI (zv_sk S q)) hX zf_M_L_101 (As := [.ref 104, .int (nI q)]) (st := []) (Q_struck n S sh mi mr hI q (by omega)) rfl rfl (by decide) (Nat.le_of_ble_eq_true rfl) (Nat.le_of_ble_eq_true rfl) (Nat.le_of_ble_eq_true rfl) dL_isTold_1009 ?_
              refine zz_aload hX dL_isTold_1012 4 rfl ?_
              refine zz_iload hX dL_isTold_1014 10 rfl ?_
              refine zz_sI (x := nI (zv_fr S q)) hX zf_M_L_105 (As := [.ref 104, .int (nI q)]) (st := [.int (nI (zv_sk S q))]) (Q_frames n S sh mi mr hI q (by omega)) rfl rfl (by decide) (Nat.le_of_ble_eq_true rfl) (Nat.le_of_ble_eq_true rfl) (Nat.le_of_ble_eq_true rfl) dL_isTold_1016 ?_
              refine zz_icmp_geN hX (by omega) (by omega) 1049 dL_isTold_1019 (by decide) (fun c1019 => absurd c1019 (by omega)) (fun c1019 => ?_)
              refine zz_aload hX dL_isTold_1022 4 rfl ?_
              refine zz_iload hX dL_isTold_1024 10 rfl ?_
              refine zz_sI (x := nI (zv_sk S q)) hX zf_M_L_101 (As := [.ref 104, .int (nI q)]) (st := []) (Q_struck n S sh mi mr hI q (by omega)) rfl rfl (by decide) (Nat.le_of_ble_eq_true rfl) (Nat.le_of_ble_eq_true rfl) (Nat.le_of_ble_eq_true rfl) dL_isTold_1026 ?_
              refine zz_if_eqN hX (by omega) 1045 dL_isTold_1029 (by decide) (fun c1029 => absurd c1029 (by omega)) (fun c1029 => ?_)
              refine zz_aload hX dL_isTold_1032 5 rfl ?_
              refine zz_iconst (v := nI 5) hX dL_isTold_1034 rfl ?_
              refine zz_iald (x := nI (ql_iw S)) hX (ql_s109 hI) 5 rfl (by decide) (by decide) ((ql_g5 hI)) dL_isTold_1035 ?_
              refine zz_iload hX dL_isTold_1036 14 rfl ?_
              refine zz_ishr (z := (nI (ql_iw S)) >>> ((nI a) &&& 31)) hX dL_isTold_1038 rfl ?_
              refine zz_iconst (v := nI 1) hX dL_isTold_1039 rfl ?_
              refine zz_iand (z := nI (ql_iw S / 2 ^ a % 2)) hX dL_isTold_1040 (ql_bit _ (ql_iw_lt hI) _ (by omega)) ?_
              refine zz_iconst (v := nI 1) hX dL_isTold_1041 rfl ?_
              refine zz_icmp_neN hX (by omega) (by decide) 1049 dL_isTold_1042 (by decide) (fun c1042 => absurd c1042 (by omega)) (fun c1042 => ?_)
              refine zz_iconst (v := nI 1) hX dL_isTold_1045 rfl ?_
              refine zz_goto hX 1050 dL_isTold_1046 (by decide) ?_
              refine zz_istore (ls' := [(0, .ref 2), (1, .ref 100), (2, .ref 102), (3, .ref 103), (4, .ref 104), (5, .ref 109), (6, .int (nI 5)), (7, .int (nI one)), (8, .int (nI two)), (9, .int (nI t)), (10, .int (nI q)), (11, .int (nI 1)), (12, .int (nI y)), (13, .int (nI 1)), (14, .int (nI a)), (15, .int (nI 1))]) hX dL_isTold_1050 (Nat.le_of_ble_eq_true rfl) rfl ?_
              refine zz_aload hX dL_isTold_1052 4 rfl ?_
              refine zz_iload hX dL_isTold_1054 15 rfl ?_
              refine zz_if_eq hX 1064 dL_isTold_1056 (by decide) (fun c => absurd c (by decide)) (fun _ => ?_)
              refine zz_iload hX dL_isTold_1059 10 rfl ?_
              refine zz_goto hX 1065 dL_isTold_1061 (by decide) ?_
              refine zz_dup2 hX dL_isTold_1065 rfl rfl ?_
              refine zz_iald (x := nI (ql_hw S q)) hX (ql_s104 hI) q rfl (by omega) (by decide) ((ql_rd_h hI (by omega))) dL_isTold_1066 ?_
              refine zz_iload hX dL_isTold_1067 15 rfl ?_
              refine zz_if_eq hX 1084 dL_isTold_1069 (by decide) (fun c => absurd c (by decide)) (fun _ => ?_)
              refine zz_sipush (v := nI 1024) hX dL_isTold_1072 rfl ?_
              refine zz_iload hX dL_isTold_1075 12 rfl ?_
              refine zz_iload hX dL_isTold_1077 14 rfl ?_
              refine zz_isub (z := (nI y) - (nI a)) hX dL_isTold_1079 rfl ?_
              refine zz_imul (z := (nI 1024) * ((nI y) - (nI a))) hX dL_isTold_1080 rfl ?_
              refine zz_goto hX 1085 dL_isTold_1081 (by decide) ?_
              refine zz_iadd (z := (nI (ql_hw S q)) + ((nI 1024) * ((nI y) - (nI a)))) hX dL_isTold_1085 rfl ?_
              refine zz_top (show (nI (ql_hw S q)) + ((nI 1024) * ((nI y) - (nI a))) = nI (ql_hw (zm_u2 S 14 q (nI y)) q) by rw [← ha14]; exact ql_hw_assign hI g0 u0) ?_
              refine zz_iast hX (ql_s104 hI) q rfl (by omega) (by decide) dL_isTold_1086 ?_
              refine zz_aload_n hX dL_isTold_1087 0 rfl rfl ?_
              refine zz_iconst (v := nI 5) hX dL_isTold_1088 rfl ?_
              refine zz_iload hX dL_isTold_1089 10 rfl ?_
              refine zz_iload hX dL_isTold_1091 12 rfl ?_
              refine zz_iconst (v := nI 0) hX dL_isTold_1093 rfl ?_
              refine zz_iconst (v := nI 0) hX dL_isTold_1094 rfl ?_
              have hA9 : zs_ix (nI q) (zv_ns S) ∧ zs_ix (nI y) 5 := ⟨zs_ix_nI g0 (by omega), zs_ix_nI u0 (by omega)⟩
              have hC9 : (¬ zv_fr S (zn (nI q)) ≤ zv_sk S (zn (nI q))) ∧ (0 < zv_sk S (zn (nI q)) → (¬ S 14 (zn (nI q)) = -1 ∧ ¬ S 17 (zn (S 14 (zn (nI q)))) = 0)) := by rw [z_q]; exact ⟨by omega, fun _ => ⟨fun z => by rw [z] at ha14; exact absurd ha14.symm (zs_nm1 (n := a) (by omega)), by rw [ha14, z_a]; exact hill.mp v0⟩⟩
              refine zz_callSH hX zf_M_L_161 (As := [.ref 2, .int (nI 5), .int (nI q), .int (nI y), .int (nI 0), .int (nI 0)]) (st := []) (D_assign S sh (zm_u2 mi 104 q (nI (ql_hw (zm_u2 S 14 q (nI y)) q))) mr (ql_W hI) (ql_R_f (ql_W hI) hR (M := (zm_u2 mi 104 q (nI (ql_hw (zm_u2 S 14 q (nI y)) q)))) (fun l hl => zm_u2r (by omega))) (nI q) (nI y) (nI 0) (nI 0)) rfl rfl (by decide) (Nat.le_of_ble_eq_true rfl) (Nat.le_of_ble_eq_true rfl) (Nat.le_of_ble_eq_true rfl) dL_isTold_1095 ?_ (fun _ _ _ _ h _ => h.elim)
              rintro v9 s9 i9 m9 ⟨k9, rfl, hk9, hS9⟩ -
              obtain ⟨e9, hR9⟩ := zq_d1 hk9 hA9 trivial hC9
              simp only [z_q] at e9 hR9
              obtain rfl := e9.symm
              refine zz_iload hX dL_isTold_1098 13 rfl ?_
              refine zz_if_ne hX 1108 dL_isTold_1100 (by decide) (fun _ => ?_) (fun c => absurd c (by decide))
              refine zz_iload hX dL_isTold_1108 15 rfl ?_
              refine zz_if_eq hX 1118 dL_isTold_1110 (by decide) (fun c => absurd c (by decide)) (fun _ => ?_)
              refine zz_iload hX dL_isTold_1113 14 rfl ?_
              refine zz_goto hX 1120 dL_isTold_1115 (by decide) ?_
              refine zz_icmp_ne hX 1127 dL_isTold_1120 (by decide) (fun c1120 => absurd ha14 c1120) (fun c1120 => ?_)
              refine zz_iconst (v := nI 1) hX dL_isTold_1123 rfl ?_
              refine zz_goto hX 1128 dL_isTold_1124 (by decide) ?_
              refine zz_iret hX hr rfl (Nat.le_of_ble_eq_true rfl) (Nat.le_of_ble_eq_true rfl) dL_isTold_1128 ?_
              exact ⟨rfl, ⟨_, ql_J_end hn (by have z := U_assign (ql_W hI) (nI q) (nI y) hA9 trivial hC9; simp only [z_q] at z; exact z) (ql_B_s (ql_BB hI) (fun r hr => zm_u2r (by omega))) (ql_N_assign hI.2.2.2 rfl) hR9 hS9⟩, ql_10 h10 hS9⟩
            · skip
              refine zz_iload hX dL_isTold_1000 13 rfl ?_
              refine zz_if_eq hX 1049 dL_isTold_1002 (by decide) (fun c => absurd c (by decide)) (fun _ => ?_)
              refine zz_aload hX dL_isTold_1005 4 rfl ?_
              refine zz_iload hX dL_isTold_1007 10 rfl ?_
              refine zz_sI (x := nI (zv_sk S q)) hX zf_M_L_101 (As := [.ref 104, .int (nI q)]) (st := []) (Q_struck n S sh mi mr hI q (by omega)) rfl rfl (by decide) (Nat.le_of_ble_eq_true rfl) (Nat.le_of_ble_eq_true rfl) (Nat.le_of_ble_eq_true rfl) dL_isTold_1009 ?_
              refine zz_aload hX dL_isTold_1012 4 rfl ?_
              refine zz_iload hX dL_isTold_1014 10 rfl ?_
              refine zz_sI (x := nI (zv_fr S q)) hX zf_M_L_105 (As := [.ref 104, .int (nI q)]) (st := [.int (nI (zv_sk S q))]) (Q_frames n S sh mi mr hI q (by omega)) rfl rfl (by decide) (Nat.le_of_ble_eq_true rfl) (Nat.le_of_ble_eq_true rfl) (Nat.le_of_ble_eq_true rfl) dL_isTold_1016 ?_
              refine zz_icmp_geN hX (by omega) (by omega) 1049 dL_isTold_1019 (by decide) (fun c1019 => absurd c1019 (by omega)) (fun c1019 => ?_)
              refine zz_aload hX dL_isTold_1022 4 rfl ?_
              refine zz_iload hX dL_isTold_1024 10 rfl ?_
              refine zz_sI (x := nI (zv_sk S q)) hX zf_M_L_101 (As := [.ref 104, .int (nI q)]) (st := []) (Q_struck n S sh mi mr hI q (by omega)) rfl rfl (by decide) (Nat.le_of_ble_eq_true rfl) (Nat.le_of_ble_eq_true rfl) (Nat.le_of_ble_eq_true rfl) dL_isTold_1026 ?_
              refine zz_if_eqN hX (by omega) 1045 dL_isTold_1029 (by decide) (fun c1029 => absurd c1029 (by omega)) (fun c1029 => ?_)
              refine zz_aload hX dL_isTold_1032 5 rfl ?_
              refine zz_iconst (v := nI 5) hX dL_isTold_1034 rfl ?_
              refine zz_iald (x := nI (ql_iw S)) hX (ql_s109 hI) 5 rfl (by decide) (by decide) ((ql_g5 hI)) dL_isTold_1035 ?_
              refine zz_iload hX dL_isTold_1036 14 rfl ?_
              refine zz_ishr (z := (nI (ql_iw S)) >>> ((nI a) &&& 31)) hX dL_isTold_1038 rfl ?_
              refine zz_iconst (v := nI 1) hX dL_isTold_1039 rfl ?_
              refine zz_iand (z := nI (ql_iw S / 2 ^ a % 2)) hX dL_isTold_1040 (ql_bit _ (ql_iw_lt hI) _ (by omega)) ?_
              refine zz_iconst (v := nI 1) hX dL_isTold_1041 rfl ?_
              refine zz_icmp_neN hX (by omega) (by decide) 1049 dL_isTold_1042 (by decide) (fun c1042 => ?_) (fun c1042 => absurd c1042 (by omega))
              refine zz_iconst (v := nI 0) hX dL_isTold_1049 rfl ?_
              refine zz_istore (ls' := [(0, .ref 2), (1, .ref 100), (2, .ref 102), (3, .ref 103), (4, .ref 104), (5, .ref 109), (6, .int (nI 5)), (7, .int (nI one)), (8, .int (nI two)), (9, .int (nI t)), (10, .int (nI q)), (11, .int (nI 1)), (12, .int (nI y)), (13, .int (nI 1)), (14, .int (nI a)), (15, .int (nI 0))]) hX dL_isTold_1050 (Nat.le_of_ble_eq_true rfl) rfl ?_
              refine zz_aload hX dL_isTold_1052 4 rfl ?_
              refine zz_iload hX dL_isTold_1054 15 rfl ?_
              refine zz_if_eq hX 1064 dL_isTold_1056 (by decide) (fun _ => ?_) (fun c => absurd c (by decide))
              refine zz_iconst (v := nI 3) hX dL_isTold_1064 rfl ?_
              refine zz_dup2 hX dL_isTold_1065 rfl rfl ?_
              refine zz_iald (x := mi 104 3) hX (ql_s104 hI) 3 rfl (by decide) (by decide) rfl dL_isTold_1066 ?_
              refine zz_iload hX dL_isTold_1067 15 rfl ?_
              refine zz_if_eq hX 1084 dL_isTold_1069 (by decide) (fun _ => ?_) (fun c => absurd c (by decide))
              refine zz_iconst (v := nI 0) hX dL_isTold_1084 rfl ?_
              refine zz_iadd (z := (mi 104 3) + (nI 0)) hX dL_isTold_1085 rfl ?_
              refine zz_iast hX (ql_s104 hI) 3 rfl (by decide) (by decide) dL_isTold_1086 ?_
              refine zz_aload_n hX dL_isTold_1087 0 rfl rfl ?_
              refine zz_iconst (v := nI 5) hX dL_isTold_1088 rfl ?_
              refine zz_iload hX dL_isTold_1089 10 rfl ?_
              refine zz_iload hX dL_isTold_1091 12 rfl ?_
              refine zz_iconst (v := nI 0) hX dL_isTold_1093 rfl ?_
              refine zz_iconst (v := nI 0) hX dL_isTold_1094 rfl ?_
              have hA9 : zs_ix (nI q) (zv_ns S) ∧ zs_ix (nI y) 5 := ⟨zs_ix_nI g0 (by omega), zs_ix_nI u0 (by omega)⟩
              refine zz_callSH hX zf_M_L_161 (As := [.ref 2, .int (nI 5), .int (nI q), .int (nI y), .int (nI 0), .int (nI 0)]) (st := []) (D_assign S sh (zm_u2 mi 104 3 ((mi 104 3) + (nI 0))) mr (ql_W hI) (ql_R_f (ql_W hI) hR (M := (zm_u2 mi 104 3 ((mi 104 3) + (nI 0)))) (fun l hl => zm_u2r (by omega))) (nI q) (nI y) (nI 0) (nI 0)) rfl rfl (by decide) (Nat.le_of_ble_eq_true rfl) (Nat.le_of_ble_eq_true rfl) (Nat.le_of_ble_eq_true rfl) dL_isTold_1095 ?_ (fun _ _ _ _ h _ => h.elim)
              rintro v9 s9 i9 m9 ⟨k9, rfl, hk9, hS9⟩ -
              obtain ⟨e9, hR9⟩ := zq_d4 hk9 hA9 trivial (fun h => by rw [z_q, ha14, z_a] at h; exact (h.2 (by omega)).2 (Classical.byContradiction (fun z => v0 (hill.mpr z))))
              obtain rfl := e9.symm
              refine zz_iload hX dL_isTold_1098 13 rfl ?_
              refine zz_if_ne hX 1108 dL_isTold_1100 (by decide) (fun _ => ?_) (fun c => absurd c (by decide))
              refine zz_iload hX dL_isTold_1108 15 rfl ?_
              refine zz_if_eq hX 1118 dL_isTold_1110 (by decide) (fun _ => ?_) (fun c => absurd c (by decide))
              refine zz_ldc (v := -1000000) hX zw_con_L_90 dL_isTold_1118 ?_
              refine zz_icmp_ne hX 1127 dL_isTold_1120 (by decide) (fun c => absurd c (by decide)) (fun _ => ?_)
              refine zz_iconst (v := nI 1) hX dL_isTold_1123 rfl ?_
              refine zz_goto hX 1128 dL_isTold_1124 (by decide) ?_
              refine zz_iret hX hr rfl (Nat.le_of_ble_eq_true rfl) (Nat.le_of_ble_eq_true rfl) dL_isTold_1128 ?_
              exact ⟨rfl, ⟨_, ql_J_end hn (ql_W hI) (ql_B_mono (ql_BB hI) (by omega)) (ql_N_g hI.2.2.2 n3 hsm.1 (by unfold ql_gar; omega)) hR9 hS9⟩, ql_10 h10 hS9⟩
        · skip
          refine zz_iload hX dL_isTold_957 11 rfl ?_
          refine zz_if_eq hX 972 dL_isTold_959 (by decide) (fun c => absurd c (by decide)) (fun _ => ?_)
          refine zz_iload hX dL_isTold_962 12 rfl ?_
          refine zz_iconst (v := nI 5) hX dL_isTold_964 rfl ?_
          refine zz_icmp_geN hX (by omega) (by decide) 972 dL_isTold_965 (by decide) (fun c965 => absurd c965 (by omega)) (fun c965 => ?_)
          refine zz_iconst (v := nI 1) hX dL_isTold_968 rfl ?_
          refine zz_goto hX 973 dL_isTold_969 (by decide) ?_
          refine zz_istore (ls' := [(0, .ref 2), (1, .ref 100), (2, .ref 102), (3, .ref 103), (4, .ref 104), (5, .ref 109), (6, .int (nI 5)), (7, .int (nI one)), (8, .int (nI two)), (9, .int (nI t)), (10, .int (nI q)), (11, .int (nI 1)), (12, .int (nI y)), (13, .int (nI 1))]) hX dL_isTold_973 (Nat.le_of_ble_eq_true rfl) rfl ?_
          refine zz_iload hX dL_isTold_975 11 rfl ?_
          refine zz_if_eq hX 997 dL_isTold_977 (by decide) (fun c => absurd c (by decide)) (fun _ => ?_)
          refine zz_aload hX dL_isTold_980 4 rfl ?_
          refine zz_iload hX dL_isTold_982 10 rfl ?_
          refine zz_iald (x := nI (ql_hw S q)) hX (ql_s104 hI) q rfl (by omega) (by decide) ((ql_rd_h hI (by omega))) dL_isTold_984 ?_
          refine zz_sipush (v := nI 1024) hX dL_isTold_985 rfl ?_
          refine zz_idiv (z := nI ((ql_hw S q) / 1024)) hX dL_isTold_988 (by decide) (pk_div (by omega) (by decide) (by decide)) ?_
          refine zz_bipush (v := nI 8) hX dL_isTold_989 rfl ?_
          refine zz_irem (z := nI (((ql_hw S q) / 1024) % 8)) hX dL_isTold_991 (by decide) (pk_rem (by omega) (by decide) (by decide)) ?_
          refine zz_iconst (v := nI 1) hX dL_isTold_992 rfl ?_
          refine zz_isub (z := S 14 q) hX dL_isTold_993 ((congrArg (fun z => nI z - nI 1) (ql_hw_an hI (a := q) (by omega))).trans (ql_an hI (a := q) (by omega))) ?_
          refine zz_goto hX 998 dL_isTold_994 (by decide) ?_
          refine zz_istore (ls' := [(0, .ref 2), (1, .ref 100), (2, .ref 102), (3, .ref 103), (4, .ref 104), (5, .ref 109), (6, .int (nI 5)), (7, .int (nI one)), (8, .int (nI two)), (9, .int (nI t)), (10, .int (nI q)), (11, .int (nI 1)), (12, .int (nI y)), (13, .int (nI 1)), (14, .int (S 14 q))]) hX dL_isTold_998 (Nat.le_of_ble_eq_true rfl) rfl ?_
          refine zz_iload hX dL_isTold_1000 13 rfl ?_
          refine zz_if_eq hX 1049 dL_isTold_1002 (by decide) (fun c => absurd c (by decide)) (fun _ => ?_)
          refine zz_aload hX dL_isTold_1005 4 rfl ?_
          refine zz_iload hX dL_isTold_1007 10 rfl ?_
          refine zz_sI (x := nI (zv_sk S q)) hX zf_M_L_101 (As := [.ref 104, .int (nI q)]) (st := []) (Q_struck n S sh mi mr hI q (by omega)) rfl rfl (by decide) (Nat.le_of_ble_eq_true rfl) (Nat.le_of_ble_eq_true rfl) (Nat.le_of_ble_eq_true rfl) dL_isTold_1009 ?_
          refine zz_aload hX dL_isTold_1012 4 rfl ?_
          refine zz_iload hX dL_isTold_1014 10 rfl ?_
          refine zz_sI (x := nI (zv_fr S q)) hX zf_M_L_105 (As := [.ref 104, .int (nI q)]) (st := [.int (nI (zv_sk S q))]) (Q_frames n S sh mi mr hI q (by omega)) rfl rfl (by decide) (Nat.le_of_ble_eq_true rfl) (Nat.le_of_ble_eq_true rfl) (Nat.le_of_ble_eq_true rfl) dL_isTold_1016 ?_
          refine zz_icmp_geN hX (by omega) (by omega) 1049 dL_isTold_1019 (by decide) (fun c1019 => ?_) (fun c1019 => absurd c1019 (by omega))
          refine zz_iconst (v := nI 0) hX dL_isTold_1049 rfl ?_
          refine zz_istore (ls' := [(0, .ref 2), (1, .ref 100), (2, .ref 102), (3, .ref 103), (4, .ref 104), (5, .ref 109), (6, .int (nI 5)), (7, .int (nI one)), (8, .int (nI two)), (9, .int (nI t)), (10, .int (nI q)), (11, .int (nI 1)), (12, .int (nI y)), (13, .int (nI 1)), (14, .int (S 14 q)), (15, .int (nI 0))]) hX dL_isTold_1050 (Nat.le_of_ble_eq_true rfl) rfl ?_
          refine zz_aload hX dL_isTold_1052 4 rfl ?_
          refine zz_iload hX dL_isTold_1054 15 rfl ?_
          refine zz_if_eq hX 1064 dL_isTold_1056 (by decide) (fun _ => ?_) (fun c => absurd c (by decide))
          refine zz_iconst (v := nI 3) hX dL_isTold_1064 rfl ?_
          refine zz_dup2 hX dL_isTold_1065 rfl rfl ?_
          refine zz_iald (x := mi 104 3) hX (ql_s104 hI) 3 rfl (by decide) (by decide) rfl dL_isTold_1066 ?_
          refine zz_iload hX dL_isTold_1067 15 rfl ?_
          refine zz_if_eq hX 1084 dL_isTold_1069 (by decide) (fun _ => ?_) (fun c => absurd c (by decide))
          refine zz_iconst (v := nI 0) hX dL_isTold_1084 rfl ?_
          refine zz_iadd (z := (mi 104 3) + (nI 0)) hX dL_isTold_1085 rfl ?_
          refine zz_iast hX (ql_s104 hI) 3 rfl (by decide) (by decide) dL_isTold_1086 ?_
          refine zz_aload_n hX dL_isTold_1087 0 rfl rfl ?_
          refine zz_iconst (v := nI 5) hX dL_isTold_1088 rfl ?_
          refine zz_iload hX dL_isTold_1089 10 rfl ?_
          refine zz_iload hX dL_isTold_1091 12 rfl ?_
          refine zz_iconst (v := nI 0) hX dL_isTold_1093 rfl ?_
          refine zz_iconst (v := nI 0) hX dL_isTold_1094 rfl ?_
          have hA9 : zs_ix (nI q) (zv_ns S) ∧ zs_ix (nI y) 5 := ⟨zs_ix_nI g0 (by omega), zs_ix_nI u0 (by omega)⟩
          refine zz_callSH hX zf_M_L_161 (As := [.ref 2, .int (nI 5), .int (nI q), .int (nI y), .int (nI 0), .int (nI 0)]) (st := []) (D_assign S sh (zm_u2 mi 104 3 ((mi 104 3) + (nI 0))) mr (ql_W hI) (ql_R_f (ql_W hI) hR (M := (zm_u2 mi 104 3 ((mi 104 3) + (nI 0)))) (fun l hl => zm_u2r (by omega))) (nI q) (nI y) (nI 0) (nI 0)) rfl rfl (by decide) (Nat.le_of_ble_eq_true rfl) (Nat.le_of_ble_eq_true rfl) (Nat.le_of_ble_eq_true rfl) dL_isTold_1095 ?_ (fun _ _ _ _ h _ => h.elim)
          rintro v9 s9 i9 m9 ⟨k9, rfl, hk9, hS9⟩ -
          obtain ⟨e9, hR9⟩ := zq_d4 hk9 hA9 trivial (fun h => by rw [z_q] at h; exact h.1 (by omega))
          obtain rfl := e9.symm
          refine zz_iload hX dL_isTold_1098 13 rfl ?_
          refine zz_if_ne hX 1108 dL_isTold_1100 (by decide) (fun _ => ?_) (fun c => absurd c (by decide))
          refine zz_iload hX dL_isTold_1108 15 rfl ?_
          refine zz_if_eq hX 1118 dL_isTold_1110 (by decide) (fun _ => ?_) (fun c => absurd c (by decide))
          refine zz_ldc (v := -1000000) hX zw_con_L_90 dL_isTold_1118 ?_
          refine zz_icmp_ne hX 1127 dL_isTold_1120 (by decide) (fun c => absurd c (by decide)) (fun _ => ?_)
          refine zz_iconst (v := nI 1) hX dL_isTold_1123 rfl ?_
          refine zz_goto hX 1128 dL_isTold_1124 (by decide) ?_
          refine zz_iret hX hr rfl (Nat.le_of_ble_eq_true rfl) (Nat.le_of_ble_eq_true rfl) dL_isTold_1128 ?_
          exact ⟨rfl, ⟨_, ql_J_end hn (ql_W hI) (ql_B_mono (ql_BB hI) (by omega)) (ql_N_g hI.2.2.2 n3 hsm.1 (by unfold ql_gar; omega)) hR9 hS9⟩, ql_10 h10 hS9⟩
      · skip
        refine zz_iload hX dL_isTold_957 11 rfl ?_
        refine zz_if_eq hX 972 dL_isTold_959 (by decide) (fun c => absurd c (by decide)) (fun _ => ?_)
        refine zz_iload hX dL_isTold_962 12 rfl ?_
        refine zz_iconst (v := nI 5) hX dL_isTold_964 rfl ?_
        refine zz_icmp_geN hX (by omega) (by decide) 972 dL_isTold_965 (by decide) (fun c965 => ?_) (fun c965 => absurd c965 (by omega))
        refine zz_iconst (v := nI 0) hX dL_isTold_972 rfl ?_
        refine zz_istore (ls' := [(0, .ref 2), (1, .ref 100), (2, .ref 102), (3, .ref 103), (4, .ref 104), (5, .ref 109), (6, .int (nI 5)), (7, .int (nI one)), (8, .int (nI two)), (9, .int (nI t)), (10, .int (nI q)), (11, .int (nI 1)), (12, .int (nI y)), (13, .int (nI 0))]) hX dL_isTold_973 (Nat.le_of_ble_eq_true rfl) rfl ?_
        refine zz_iload hX dL_isTold_975 11 rfl ?_
        refine zz_if_eq hX 997 dL_isTold_977 (by decide) (fun c => absurd c (by decide)) (fun _ => ?_)
        refine zz_aload hX dL_isTold_980 4 rfl ?_
        refine zz_iload hX dL_isTold_982 10 rfl ?_
        refine zz_iald (x := nI (ql_hw S q)) hX (ql_s104 hI) q rfl (by omega) (by decide) ((ql_rd_h hI (by omega))) dL_isTold_984 ?_
        refine zz_sipush (v := nI 1024) hX dL_isTold_985 rfl ?_
        refine zz_idiv (z := nI ((ql_hw S q) / 1024)) hX dL_isTold_988 (by decide) (pk_div (by omega) (by decide) (by decide)) ?_
        refine zz_bipush (v := nI 8) hX dL_isTold_989 rfl ?_
        refine zz_irem (z := nI (((ql_hw S q) / 1024) % 8)) hX dL_isTold_991 (by decide) (pk_rem (by omega) (by decide) (by decide)) ?_
        refine zz_iconst (v := nI 1) hX dL_isTold_992 rfl ?_
        refine zz_isub (z := S 14 q) hX dL_isTold_993 ((congrArg (fun z => nI z - nI 1) (ql_hw_an hI (a := q) (by omega))).trans (ql_an hI (a := q) (by omega))) ?_
        refine zz_goto hX 998 dL_isTold_994 (by decide) ?_
        refine zz_istore (ls' := [(0, .ref 2), (1, .ref 100), (2, .ref 102), (3, .ref 103), (4, .ref 104), (5, .ref 109), (6, .int (nI 5)), (7, .int (nI one)), (8, .int (nI two)), (9, .int (nI t)), (10, .int (nI q)), (11, .int (nI 1)), (12, .int (nI y)), (13, .int (nI 0)), (14, .int (S 14 q))]) hX dL_isTold_998 (Nat.le_of_ble_eq_true rfl) rfl ?_
        refine zz_iload hX dL_isTold_1000 13 rfl ?_
        refine zz_if_eq hX 1049 dL_isTold_1002 (by decide) (fun _ => ?_) (fun c => absurd c (by decide))
        refine zz_iconst (v := nI 0) hX dL_isTold_1049 rfl ?_
        refine zz_istore (ls' := [(0, .ref 2), (1, .ref 100), (2, .ref 102), (3, .ref 103), (4, .ref 104), (5, .ref 109), (6, .int (nI 5)), (7, .int (nI one)), (8, .int (nI two)), (9, .int (nI t)), (10, .int (nI q)), (11, .int (nI 1)), (12, .int (nI y)), (13, .int (nI 0)), (14, .int (S 14 q)), (15, .int (nI 0))]) hX dL_isTold_1050 (Nat.le_of_ble_eq_true rfl) rfl ?_
        refine zz_aload hX dL_isTold_1052 4 rfl ?_
        refine zz_iload hX dL_isTold_1054 15 rfl ?_
        refine zz_if_eq hX 1064 dL_isTold_1056 (by decide) (fun _ => ?_) (fun c => absurd c (by decide))
        refine zz_iconst (v := nI 3) hX dL_isTold_1064 rfl ?_
        refine zz_dup2 hX dL_isTold_1065 rfl rfl ?_
        refine zz_iald (x := mi 104 3) hX (ql_s104 hI) 3 rfl (by decide) (by decide) rfl dL_isTold_1066 ?_
        refine zz_iload hX dL_isTold_1067 15 rfl ?_
        refine zz_if_eq hX 1084 dL_isTold_1069 (by decide) (fun _ => ?_) (fun c => absurd c (by decide))
        refine zz_iconst (v := nI 0) hX dL_isTold_1084 rfl ?_
        refine zz_iadd (z := (mi 104 3) + (nI 0)) hX dL_isTold_1085 rfl ?_
        refine zz_iast hX (ql_s104 hI) 3 rfl (by decide) (by decide) dL_isTold_1086 ?_
        refine zz_aload_n hX dL_isTold_1087 0 rfl rfl ?_
        refine zz_iconst (v := nI 5) hX dL_isTold_1088 rfl ?_
        refine zz_iload hX dL_isTold_1089 10 rfl ?_
        refine zz_iload hX dL_isTold_1091 12 rfl ?_
        refine zz_iconst (v := nI 0) hX dL_isTold_1093 rfl ?_
        refine zz_iconst (v := nI 0) hX dL_isTold_1094 rfl ?_
        refine zz_callSH hX zf_M_L_161 (As := [.ref 2, .int (nI 5), .int (nI q), .int (nI y), .int (nI 0), .int (nI 0)]) (st := []) (D_assign S sh (zm_u2 mi 104 3 ((mi 104 3) + (nI 0))) mr (ql_W hI) (ql_R_f (ql_W hI) hR (M := (zm_u2 mi 104 3 ((mi 104 3) + (nI 0)))) (fun l hl => zm_u2r (by omega))) (nI q) (nI y) (nI 0) (nI 0)) rfl rfl (by decide) (Nat.le_of_ble_eq_true rfl) (Nat.le_of_ble_eq_true rfl) (Nat.le_of_ble_eq_true rfl) dL_isTold_1095 ?_ (fun _ _ _ _ h _ => h.elim)
        rintro v9 s9 i9 m9 ⟨k9, rfl, hk9, hS9⟩ -
        obtain ⟨e9, hR9⟩ := zq_d2 hk9 (fun h => u0 (zs_ixl h.2 (by omega)))
        obtain rfl := e9.symm
        refine zz_iload hX dL_isTold_1098 13 rfl ?_
        refine zz_if_ne hX 1108 dL_isTold_1100 (by decide) (fun c => absurd c (by decide)) (fun _ => ?_)
        refine zz_ldc (v := -3000000) hX zw_con_L_84 dL_isTold_1103 ?_
        refine zz_goto hX 1120 dL_isTold_1105 (by decide) ?_
        refine zz_icmp_ne hX 1127 dL_isTold_1120 (by decide) (fun c => absurd c (by decide)) (fun _ => ?_)
        refine zz_iconst (v := nI 1) hX dL_isTold_1123 rfl ?_
        refine zz_goto hX 1128 dL_isTold_1124 (by decide) ?_
        refine zz_iret hX hr rfl (Nat.le_of_ble_eq_true rfl) (Nat.le_of_ble_eq_true rfl) dL_isTold_1128 ?_
        exact ⟨rfl, ⟨_, ql_J_end hn (ql_W hI) (ql_B_mono (ql_BB hI) (by omega)) (ql_N_g hI.2.2.2 n3 hsm.1 (by unfold ql_gar; omega)) hR9 hS9⟩, ql_10 h10 hS9⟩
    refine zz_iload hX dL_isTold_937 8 rfl ?_
    refine zz_bipush (v := nI 13) hX dL_isTold_939 rfl ?_
    refine zz_irem (z := nI (two % 13)) hX dL_isTold_941 (by decide) (pk_rem (by omega) (by decide) (by decide)) ?_
    refine zz_bipush (v := nI 12) hX dL_isTold_942 rfl ?_
    refine zz_icmp_neN hX (by omega) (by decide) 951 dL_isTold_944 (by decide) (fun c944 => ?_) (fun c944 => ?_)
    · skip
      refine zz_iload hX dL_isTold_951 8 rfl ?_
      refine zz_iconst (v := nI 2) hX dL_isTold_953 rfl ?_
      refine zz_irem (z := nI (two % 2)) hX dL_isTold_954 (by decide) (pk_rem (by omega) (by decide) (by decide)) ?_
      exact K955 (two % 2) (by omega)
    · skip
      refine zz_iconst (v := nI 5) hX dL_isTold_947 rfl ?_
      refine zz_goto hX 955 dL_isTold_948 (by decide) ?_
      exact K955 5 (by omega)
  · skip
    refine zz_iload hX dL_isTold_915 10 rfl ?_
    refine zz_aload hX dL_isTold_917 5 rfl ?_
    refine zz_iconst (v := nI 2) hX dL_isTold_919 rfl ?_
    refine zz_iald (x := nI (zv_ns S)) hX (ql_s109 hI) 2 rfl (by decide) (by decide) ((ql_g2 hI)) dL_isTold_920 ?_
    refine zz_icmp_geN hX (by omega) (by omega) 928 dL_isTold_921 (by decide) (fun c921 => ?_) (fun c921 => absurd c921 (by omega))
    refine zz_iconst (v := nI 0) hX dL_isTold_928 rfl ?_
    refine zz_istore (ls' := [(0, .ref 2), (1, .ref 100), (2, .ref 102), (3, .ref 103), (4, .ref 104), (5, .ref 109), (6, .int (nI 5)), (7, .int (nI one)), (8, .int (nI two)), (9, .int (nI t)), (10, .int (nI q)), (11, .int (nI 0))]) hX dL_isTold_929 (Nat.le_of_ble_eq_true rfl) rfl ?_
    refine zz_iload hX dL_isTold_931 6 rfl ?_
    refine zz_iconst (v := nI 5) hX dL_isTold_933 rfl ?_
    refine zz_icmp_ne hX 1129 dL_isTold_934 (by decide) (fun c => absurd c (by decide)) (fun _ => ?_)
    have K955 : ∀ y : Nat, (y = 5 ∨ y ≤ 1) → zz Γ (D, E, 16, ad, sh) (zz_End Γ (D, E, 16, ad, sh) (ql_T n) zz_none 10 60) 0 0 sh mi mr 955 [(0, .ref 2), (1, .ref 100), (2, .ref 102), (3, .ref 103), (4, .ref 104), (5, .ref 109), (6, .int (nI 5)), (7, .int (nI one)), (8, .int (nI two)), (9, .int (nI t)), (10, .int (nI q)), (11, .int (nI 0))] [.int (nI y)] := by
      intro y hy
      refine zz_istore (ls' := [(0, .ref 2), (1, .ref 100), (2, .ref 102), (3, .ref 103), (4, .ref 104), (5, .ref 109), (6, .int (nI 5)), (7, .int (nI one)), (8, .int (nI two)), (9, .int (nI t)), (10, .int (nI q)), (11, .int (nI 0)), (12, .int (nI y))]) hX dL_isTold_955 (Nat.le_of_ble_eq_true rfl) rfl ?_
      refine zz_iload hX dL_isTold_957 11 rfl ?_
      refine zz_if_eq hX 972 dL_isTold_959 (by decide) (fun _ => ?_) (fun c => absurd c (by decide))
      refine zz_iconst (v := nI 0) hX dL_isTold_972 rfl ?_
      refine zz_istore (ls' := [(0, .ref 2), (1, .ref 100), (2, .ref 102), (3, .ref 103), (4, .ref 104), (5, .ref 109), (6, .int (nI 5)), (7, .int (nI one)), (8, .int (nI two)), (9, .int (nI t)), (10, .int (nI q)), (11, .int (nI 0)), (12, .int (nI y)), (13, .int (nI 0))]) hX dL_isTold_973 (Nat.le_of_ble_eq_true rfl) rfl ?_
      refine zz_iload hX dL_isTold_975 11 rfl ?_
      refine zz_if_eq hX 997 dL_isTold_977 (by decide) (fun _ => ?_) (fun c => absurd c (by decide))
      refine zz_iconst (v := (-1)) hX dL_isTold_997 rfl ?_
      refine zz_istore (ls' := [(0, .ref 2), (1, .ref 100), (2, .ref 102), (3, .ref 103), (4, .ref 104), (5, .ref 109), (6, .int (nI 5)), (7, .int (nI one)), (8, .int (nI two)), (9, .int (nI t)), (10, .int (nI q)), (11, .int (nI 0)), (12, .int (nI y)), (13, .int (nI 0)), (14, .int (-1))]) hX dL_isTold_998 (Nat.le_of_ble_eq_true rfl) rfl ?_
      refine zz_iload hX dL_isTold_1000 13 rfl ?_
      refine zz_if_eq hX 1049 dL_isTold_1002 (by decide) (fun _ => ?_) (fun c => absurd c (by decide))
      refine zz_iconst (v := nI 0) hX dL_isTold_1049 rfl ?_
      refine zz_istore (ls' := [(0, .ref 2), (1, .ref 100), (2, .ref 102), (3, .ref 103), (4, .ref 104), (5, .ref 109), (6, .int (nI 5)), (7, .int (nI one)), (8, .int (nI two)), (9, .int (nI t)), (10, .int (nI q)), (11, .int (nI 0)), (12, .int (nI y)), (13, .int (nI 0)), (14, .int (-1)), (15, .int (nI 0))]) hX dL_isTold_1050 (Nat.le_of_ble_eq_true rfl) rfl ?_
      refine zz_aload hX dL_isTold_1052 4 rfl ?_
      refine zz_iload hX dL_isTold_1054 15 rfl ?_
      refine zz_if_eq hX 1064 dL_isTold_1056 (by decide) (fun _ => ?_) (fun c => absurd c (by decide))
      refine zz_iconst (v := nI 3) hX dL_isTold_1064 rfl ?_
      refine zz_dup2 hX dL_isTold_1065 rfl rfl ?_
      refine zz_iald (x := mi 104 3) hX (ql_s104 hI) 3 rfl (by decide) (by decide) rfl dL_isTold_1066 ?_
      refine zz_iload hX dL_isTold_1067 15 rfl ?_
      refine zz_if_eq hX 1084 dL_isTold_1069 (by decide) (fun _ => ?_) (fun c => absurd c (by decide))
      refine zz_iconst (v := nI 0) hX dL_isTold_1084 rfl ?_
      refine zz_iadd (z := (mi 104 3) + (nI 0)) hX dL_isTold_1085 rfl ?_
      refine zz_iast hX (ql_s104 hI) 3 rfl (by decide) (by decide) dL_isTold_1086 ?_
      refine zz_aload_n hX dL_isTold_1087 0 rfl rfl ?_
      refine zz_iconst (v := nI 5) hX dL_isTold_1088 rfl ?_
      refine zz_iload hX dL_isTold_1089 10 rfl ?_
      refine zz_iload hX dL_isTold_1091 12 rfl ?_
      refine zz_iconst (v := nI 0) hX dL_isTold_1093 rfl ?_
      refine zz_iconst (v := nI 0) hX dL_isTold_1094 rfl ?_
      refine zz_callSH hX zf_M_L_161 (As := [.ref 2, .int (nI 5), .int (nI q), .int (nI y), .int (nI 0), .int (nI 0)]) (st := []) (D_assign S sh (zm_u2 mi 104 3 ((mi 104 3) + (nI 0))) mr (ql_W hI) (ql_R_f (ql_W hI) hR (M := (zm_u2 mi 104 3 ((mi 104 3) + (nI 0)))) (fun l hl => zm_u2r (by omega))) (nI q) (nI y) (nI 0) (nI 0)) rfl rfl (by decide) (Nat.le_of_ble_eq_true rfl) (Nat.le_of_ble_eq_true rfl) (Nat.le_of_ble_eq_true rfl) dL_isTold_1095 ?_ (fun _ _ _ _ h _ => h.elim)
      rintro v9 s9 i9 m9 ⟨k9, rfl, hk9, hS9⟩ -
      obtain ⟨e9, hR9⟩ := zq_d2 hk9 (fun h => g0 (zs_ixl h.1 (by omega)))
      obtain rfl := e9.symm
      refine zz_iload hX dL_isTold_1098 13 rfl ?_
      refine zz_if_ne hX 1108 dL_isTold_1100 (by decide) (fun c => absurd c (by decide)) (fun _ => ?_)
      refine zz_ldc (v := -3000000) hX zw_con_L_84 dL_isTold_1103 ?_
      refine zz_goto hX 1120 dL_isTold_1105 (by decide) ?_
      refine zz_icmp_ne hX 1127 dL_isTold_1120 (by decide) (fun c => absurd c (by decide)) (fun _ => ?_)
      refine zz_iconst (v := nI 1) hX dL_isTold_1123 rfl ?_
      refine zz_goto hX 1128 dL_isTold_1124 (by decide) ?_
      refine zz_iret hX hr rfl (Nat.le_of_ble_eq_true rfl) (Nat.le_of_ble_eq_true rfl) dL_isTold_1128 ?_
      exact ⟨rfl, ⟨_, ql_J_end hn (ql_W hI) (ql_B_mono (ql_BB hI) (by omega)) (ql_N_g hI.2.2.2 n3 hsm.1 (by unfold ql_gar; omega)) hR9 hS9⟩, ql_10 h10 hS9⟩
    refine zz_iload hX dL_isTold_937 8 rfl ?_
    refine zz_bipush (v := nI 13) hX dL_isTold_939 rfl ?_
    refine zz_irem (z := nI (two % 13)) hX dL_isTold_941 (by decide) (pk_rem (by omega) (by decide) (by decide)) ?_
    refine zz_bipush (v := nI 12) hX dL_isTold_942 rfl ?_
    refine zz_icmp_neN hX (by omega) (by decide) 951 dL_isTold_944 (by decide) (fun c944 => ?_) (fun c944 => ?_)
    · skip
      refine zz_iload hX dL_isTold_951 8 rfl ?_
      refine zz_iconst (v := nI 2) hX dL_isTold_953 rfl ?_
      refine zz_irem (z := nI (two % 2)) hX dL_isTold_954 (by decide) (pk_rem (by omega) (by decide) (by decide)) ?_
      exact K955 (two % 2) (by omega)
    · skip
      refine zz_iconst (v := nI 5) hX dL_isTold_947 rfl ?_
      refine zz_goto hX 955 dL_isTold_948 (by decide) ?_
      exact K955 5 (by omega)

set_option maxHeartbeats 1000000 in
set_option maxRecDepth 20000 in
theorem T_ill (n : Nat) (hn : n + 1 ≤ 64) (S : zS) (sh : zm_Sh) (mi : zm_Mi) (mr : zm_Mr) (hI : ql_I n S sh mi) (hR : zR S sh mi mr) (h10 : sh 10 = some (9, 0)) (one two : Nat) (ho : one < 60000) (ht : two < 60000)  : zz_Con yL_isTold (.code yL_isTold cL_isTold 16 (some Jvm.ClassFile.FieldType.boolean)) 12 10 60 [.ref 2, .ref 100, .ref 102, .ref 103, .ref 104, .ref 109, .int (nI 6), .int (nI one), .int (nI two)] sh mi mr (ql_T n) zz_none := by
  refine zz_begin RL [(0, .ref 2), (1, .ref 100), (2, .ref 102), (3, .ref 103), (4, .ref 104), (5, .ref 109), (6, .int (nI 6)), (7, .int (nI one)), (8, .int (nI two))] (by decide) rfl rfl (Nat.le_of_ble_eq_true rfl) rfl ?_
  intro Γ D E ad hX hr hN hT
  obtain ⟨n1, n2, n3, n4⟩ := ql_num hI
  have hsm := ql_small hI
  have hiw := ql_iw_lt hI
  refine zz_iload hX dL_isTold_0 6 rfl ?_
  refine zz_if_ne hX 116 dL_isTold_2 (by decide) (fun _ => ?_) (fun c => absurd c (by decide))
  refine zz_iload hX dL_isTold_116 7 rfl ?_
  refine zz_aload hX dL_isTold_118 5 rfl ?_
  refine zz_iconst (v := nI 0) hX dL_isTold_120 rfl ?_
  refine zz_iald (x := nI (zv_np S)) hX (ql_s109 hI) 0 rfl (by decide) (by decide) ((ql_g0 hI)) dL_isTold_121 ?_
  refine zz_iconst (v := nI 1) hX dL_isTold_122 rfl ?_
  refine zz_iadd (z := nI (zv_np S + 1)) hX dL_isTold_123 (nI_add _ _) ?_
  refine zz_irem (z := nI (one % (zv_np S + 1))) hX dL_isTold_124 (nI_ne0 (by omega) (by omega)) (pk_rem (by omega) (by omega) (by omega)) ?_
  have ht9 : one % (zv_np S + 1) < zv_np S + 1 := Nat.mod_lt _ (by omega)
  generalize one % (zv_np S + 1) = t at ht9 ⊢
  have z_t : zn (nI t) = t := nI_clamp (n := t) (by omega)
  refine zz_istore (ls' := [(0, .ref 2), (1, .ref 100), (2, .ref 102), (3, .ref 103), (4, .ref 104), (5, .ref 109), (6, .int (nI 6)), (7, .int (nI one)), (8, .int (nI two)), (9, .int (nI t))]) hX dL_isTold_125 (Nat.le_of_ble_eq_true rfl) rfl ?_
  refine zz_iload hX dL_isTold_127 6 rfl ?_
  refine zz_iconst (v := nI 2) hX dL_isTold_129 rfl ?_
  refine zz_icmp_ge hX 360 dL_isTold_130 (by decide) (fun _ => ?_) (fun c => absurd c (by decide))
  refine zz_iload hX dL_isTold_360 6 rfl ?_
  refine zz_iconst (v := nI 2) hX dL_isTold_362 rfl ?_
  refine zz_icmp_ne hX 544 dL_isTold_363 (by decide) (fun _ => ?_) (fun c => absurd c (by decide))
  refine zz_iload hX dL_isTold_544 6 rfl ?_
  refine zz_iconst (v := nI 3) hX dL_isTold_546 rfl ?_
  refine zz_icmp_ne hX 630 dL_isTold_547 (by decide) (fun _ => ?_) (fun c => absurd c (by decide))
  refine zz_iload hX dL_isTold_630 6 rfl ?_
  refine zz_iconst (v := nI 4) hX dL_isTold_632 rfl ?_
  refine zz_icmp_ne hX 904 dL_isTold_633 (by decide) (fun _ => ?_) (fun c => absurd c (by decide))
  refine zz_iload hX dL_isTold_904 7 rfl ?_
  refine zz_aload hX dL_isTold_906 5 rfl ?_
  refine zz_iconst (v := nI 2) hX dL_isTold_908 rfl ?_
  refine zz_iald (x := nI (zv_ns S)) hX (ql_s109 hI) 2 rfl (by decide) (by decide) ((ql_g2 hI)) dL_isTold_909 ?_
  refine zz_iconst (v := nI 1) hX dL_isTold_910 rfl ?_
  refine zz_iadd (z := nI (zv_ns S + 1)) hX dL_isTold_911 (nI_add _ _) ?_
  refine zz_irem (z := nI (one % (zv_ns S + 1))) hX dL_isTold_912 (nI_ne0 (by omega) (by omega)) (pk_rem (by omega) (by omega) (by omega)) ?_
  have hq9 : one % (zv_ns S + 1) < zv_ns S + 1 := Nat.mod_lt _ (by omega)
  generalize one % (zv_ns S + 1) = q at hq9 ⊢
  have z_q : zn (nI q) = q := nI_clamp (n := q) (by omega)
  refine zz_istore (ls' := [(0, .ref 2), (1, .ref 100), (2, .ref 102), (3, .ref 103), (4, .ref 104), (5, .ref 109), (6, .int (nI 6)), (7, .int (nI one)), (8, .int (nI two)), (9, .int (nI t)), (10, .int (nI q))]) hX dL_isTold_913 (Nat.le_of_ble_eq_true rfl) rfl ?_
  have K929 : ∀ b0 : Nat, b0 ≤ 1 → zz Γ (D, E, 16, ad, sh) (zz_End Γ (D, E, 16, ad, sh) (ql_T n) zz_none 10 60) 0 0 sh mi mr 929 [(0, .ref 2), (1, .ref 100), (2, .ref 102), (3, .ref 103), (4, .ref 104), (5, .ref 109), (6, .int (nI 6)), (7, .int (nI one)), (8, .int (nI two)), (9, .int (nI t)), (10, .int (nI q))] [.int (nI b0)] := by
    intro b0 hb0
    refine zz_istore (ls' := [(0, .ref 2), (1, .ref 100), (2, .ref 102), (3, .ref 103), (4, .ref 104), (5, .ref 109), (6, .int (nI 6)), (7, .int (nI one)), (8, .int (nI two)), (9, .int (nI t)), (10, .int (nI q)), (11, .int (nI b0))]) hX dL_isTold_929 (Nat.le_of_ble_eq_true rfl) rfl ?_
    refine zz_iload hX dL_isTold_931 6 rfl ?_
    refine zz_iconst (v := nI 5) hX dL_isTold_933 rfl ?_
    refine zz_icmp_ne hX 1129 dL_isTold_934 (by decide) (fun _ => ?_) (fun c => absurd c (by decide))
    refine zz_iload hX dL_isTold_1129 6 rfl ?_
    refine zz_bipush (v := nI 6) hX dL_isTold_1131 rfl ?_
    refine zz_icmp_ne hX 1268 dL_isTold_1133 (by decide) (fun c => absurd c (by decide)) (fun _ => ?_)
    have K1154 : ∀ y : Nat, (y = 5 ∨ y ≤ 1) → zz Γ (D, E, 16, ad, sh) (zz_End Γ (D, E, 16, ad, sh) (ql_T n) zz_none 10 60) 0 0 sh mi mr 1154 [(0, .ref 2), (1, .ref 100), (2, .ref 102), (3, .ref 103), (4, .ref 104), (5, .ref 109), (6, .int (nI 6)), (7, .int (nI one)), (8, .int (nI two)), (9, .int (nI t)), (10, .int (nI q)), (11, .int (nI b0))] [.int (nI y)] := by
      intro y hy
      have z_y : zn (nI y) = y := nI_clamp (n := y) (by omega)
      refine zz_istore (ls' := [(0, .ref 2), (1, .ref 100), (2, .ref 102), (3, .ref 103), (4, .ref 104), (5, .ref 109), (6, .int (nI 6)), (7, .int (nI one)), (8, .int (nI two)), (9, .int (nI t)), (10, .int (nI q)), (11, .int (nI b0)), (12, .int (nI y))]) hX dL_isTold_1154 (Nat.le_of_ble_eq_true rfl) rfl ?_
      refine zz_iload hX dL_isTold_1156 8 rfl ?_
      refine zz_iconst (v := nI 3) hX dL_isTold_1158 rfl ?_
      refine zz_irem (z := nI (two % 3)) hX dL_isTold_1159 (by decide) (pk_rem (by omega) (by decide) (by decide)) ?_
      refine zz_if_neN hX (by omega) 1167 dL_isTold_1160 (by decide) (fun c1160 => ?_) (fun c1160 => ?_)
      · skip
        refine zz_iconst (v := nI 0) hX dL_isTold_1167 rfl ?_
        refine zz_istore (ls' := [(0, .ref 2), (1, .ref 100), (2, .ref 102), (3, .ref 103), (4, .ref 104), (5, .ref 109), (6, .int (nI 6)), (7, .int (nI one)), (8, .int (nI two)), (9, .int (nI t)), (10, .int (nI q)), (11, .int (nI b0)), (12, .int (nI y)), (13, .int (nI 0))]) hX dL_isTold_1168 (Nat.le_of_ble_eq_true rfl) rfl ?_
        by_cases g0 : y < 5
        · skip
          refine zz_aload hX dL_isTold_1170 5 rfl ?_
          refine zz_iconst (v := nI 5) hX dL_isTold_1172 rfl ?_
          refine zz_iald (x := nI (ql_iw S)) hX (ql_s109 hI) 5 rfl (by decide) (by decide) ((ql_g5 hI)) dL_isTold_1173 ?_
          refine zz_iload hX dL_isTold_1174 12 rfl ?_
          refine zz_ishr (z := (nI (ql_iw S)) >>> ((nI y) &&& 31)) hX dL_isTold_1176 rfl ?_
          refine zz_iconst (v := nI 1) hX dL_isTold_1177 rfl ?_
          refine zz_iand (z := nI (ql_iw S / 2 ^ y % 2)) hX dL_isTold_1178 (ql_bit _ hiw _ (by omega)) ?_
          refine zz_istore (ls' := [(0, .ref 2), (1, .ref 100), (2, .ref 102), (3, .ref 103), (4, .ref 104), (5, .ref 109), (6, .int (nI 6)), (7, .int (nI one)), (8, .int (nI two)), (9, .int (nI t)), (10, .int (nI q)), (11, .int (nI b0)), (12, .int (nI y)), (13, .int (nI 0)), (14, .int (nI (ql_iw S / 2 ^ y % 2)))]) hX dL_isTold_1179 (Nat.le_of_ble_eq_true rfl) rfl ?_
          refine zz_aload hX dL_isTold_1181 5 rfl ?_
          refine zz_iconst (v := nI 5) hX dL_isTold_1183 rfl ?_
          refine zz_iload hX dL_isTold_1184 12 rfl ?_
          refine zz_iconst (v := nI 5) hX dL_isTold_1186 rfl ?_
          refine zz_icmp_neN hX (by omega) (by decide) 1197 dL_isTold_1187 (by decide) (fun c1187 => ?_) (fun c1187 => absurd c1187 (by omega))
          refine zz_iload hX dL_isTold_1197 13 rfl ?_
          refine zz_if_eq hX 1214 dL_isTold_1199 (by decide) (fun _ => ?_) (fun c => absurd c (by decide))
          refine zz_aload hX dL_isTold_1214 5 rfl ?_
          refine zz_iconst (v := nI 5) hX dL_isTold_1216 rfl ?_
          refine zz_iald (x := nI (ql_iw S)) hX (ql_s109 hI) 5 rfl (by decide) (by decide) ((ql_g5 hI)) dL_isTold_1217 ?_
          refine zz_iconst (v := nI 1) hX dL_isTold_1218 rfl ?_
          refine zz_iload hX dL_isTold_1219 12 rfl ?_
          refine zz_ishl (z := (nI 1) <<< ((nI y) &&& 31)) hX dL_isTold_1221 rfl ?_
          refine zz_iconst (v := (-1)) hX dL_isTold_1222 rfl ?_
          refine zz_ixor (z := ((nI 1) <<< ((nI y) &&& 31)) ^^^ (-1)) hX dL_isTold_1223 rfl ?_
          refine zz_iand (z := nI (if ql_iw S / 2 ^ y % 2 = 1 then ql_iw S - 2 ^ y else ql_iw S)) hX dL_isTold_1224 (ql_band _ hiw _ g0) ?_
          refine zz_iast hX (ql_s109 hI) 5 rfl (by decide) (by decide) dL_isTold_1225 ?_
          refine zz_aload_n hX dL_isTold_1226 0 rfl rfl ?_
          refine zz_bipush (v := nI 6) hX dL_isTold_1227 rfl ?_
          refine zz_iload hX dL_isTold_1229 12 rfl ?_
          refine zz_iload hX dL_isTold_1231 13 rfl ?_
          refine zz_if_eq hX 1240 dL_isTold_1233 (by decide) (fun _ => ?_) (fun c => absurd c (by decide))
          refine zz_iconst (v := nI 0) hX dL_isTold_1240 rfl ?_
          refine zz_iconst (v := nI 0) hX dL_isTold_1241 rfl ?_
          refine zz_iconst (v := nI 0) hX dL_isTold_1242 rfl ?_
          have hA9 : zs_ix (nI y) 5 := zs_ix_nI g0 (by omega)
          refine zz_callSH hX zf_M_L_161 (As := [.ref 2, .int (nI 6), .int (nI y), .int (nI 0), .int (nI 0), .int (nI 0)]) (st := []) (D_ill S sh (zm_u2 mi 109 5 (nI (if ql_iw S / 2 ^ y % 2 = 1 then ql_iw S - 2 ^ y else ql_iw S))) mr (ql_W hI) (ql_R_f (ql_W hI) hR (M := (zm_u2 mi 109 5 (nI (if ql_iw S / 2 ^ y % 2 = 1 then ql_iw S - 2 ^ y else ql_iw S)))) (fun l hl => zm_u2r (by omega))) (nI y) (nI 0) (nI 0) 0 (by decide)) rfl rfl (by decide) (Nat.le_of_ble_eq_true rfl) (Nat.le_of_ble_eq_true rfl) (Nat.le_of_ble_eq_true rfl) dL_isTold_1243 ?_ (fun _ _ _ _ h _ => h.elim)
          rintro v9 s9 i9 m9 ⟨k9, rfl, hk9, hS9⟩ -
          obtain ⟨e9, hR9⟩ := zq_d1 hk9 hA9 trivial trivial
          simp only [z_y] at e9 hR9
          obtain rfl := e9.symm
          refine zz_iload hX dL_isTold_1246 12 rfl ?_
          refine zz_iconst (v := nI 5) hX dL_isTold_1248 rfl ?_
          refine zz_icmp_neN hX (by omega) (by decide) 1257 dL_isTold_1249 (by decide) (fun c1249 => ?_) (fun c1249 => absurd c1249 (by omega))
          refine zz_iload hX dL_isTold_1257 14 rfl ?_
          refine zz_icmp_ne hX 1266 dL_isTold_1259 (by decide) (fun c1259 => absurd (ql_ill_ans (ql_W hI) g0) c1259) (fun c1259 => ?_)
          refine zz_iconst (v := nI 1) hX dL_isTold_1262 rfl ?_
          refine zz_goto hX 1267 dL_isTold_1263 (by decide) ?_
          refine zz_iret hX hr rfl (Nat.le_of_ble_eq_true rfl) (Nat.le_of_ble_eq_true rfl) dL_isTold_1267 ?_
          exact ⟨rfl, ⟨_, ql_J_end hn (by have z := U_ill (ql_W hI) (nI y) (nI 0) (Or.inl rfl) hA9 trivial trivial; simp only [z_y] at z; exact z) (ql_B_s (ql_BB hI) (fun r hr => zm_u2r (by omega))) (ql_N_ill hI.2.2.2 (ql_iw_set (ql_W hI) g0).2.symm) hR9 hS9⟩, ql_10 h10 hS9⟩
        · skip
          refine zz_aload hX dL_isTold_1170 5 rfl ?_
          refine zz_iconst (v := nI 5) hX dL_isTold_1172 rfl ?_
          refine zz_iald (x := nI (ql_iw S)) hX (ql_s109 hI) 5 rfl (by decide) (by decide) ((ql_g5 hI)) dL_isTold_1173 ?_
          refine zz_iload hX dL_isTold_1174 12 rfl ?_
          refine zz_ishr (z := (nI (ql_iw S)) >>> ((nI y) &&& 31)) hX dL_isTold_1176 rfl ?_
          refine zz_iconst (v := nI 1) hX dL_isTold_1177 rfl ?_
          refine zz_iand (z := nI (ql_iw S / 2 ^ y % 2)) hX dL_isTold_1178 (ql_bit _ hiw _ (by omega)) ?_
          refine zz_istore (ls' := [(0, .ref 2), (1, .ref 100), (2, .ref 102), (3, .ref 103), (4, .ref 104), (5, .ref 109), (6, .int (nI 6)), (7, .int (nI one)), (8, .int (nI two)), (9, .int (nI t)), (10, .int (nI q)), (11, .int (nI b0)), (12, .int (nI y)), (13, .int (nI 0)), (14, .int (nI (ql_iw S / 2 ^ y % 2)))]) hX dL_isTold_1179 (Nat.le_of_ble_eq_true rfl) rfl ?_
          refine zz_aload hX dL_isTold_1181 5 rfl ?_
          refine zz_iconst (v := nI 5) hX dL_isTold_1183 rfl ?_
          refine zz_iload hX dL_isTold_1184 12 rfl ?_
          refine zz_iconst (v := nI 5) hX dL_isTold_1186 rfl ?_
          refine zz_icmp_neN hX (by omega) (by decide) 1197 dL_isTold_1187 (by decide) (fun c1187 => absurd c1187 (by omega)) (fun c1187 => ?_)
          refine zz_aload hX dL_isTold_1190 5 rfl ?_
          refine zz_iconst (v := nI 5) hX dL_isTold_1192 rfl ?_
          refine zz_iald (x := nI (ql_iw S)) hX (ql_s109 hI) 5 rfl (by decide) (by decide) ((ql_g5 hI)) dL_isTold_1193 ?_
          refine zz_goto hX 1225 dL_isTold_1194 (by decide) ?_
          refine zz_iast hX (ql_s109 hI) 5 rfl (by decide) (by decide) dL_isTold_1225 ?_
          refine zz_aload_n hX dL_isTold_1226 0 rfl rfl ?_
          refine zz_bipush (v := nI 6) hX dL_isTold_1227 rfl ?_
          refine zz_iload hX dL_isTold_1229 12 rfl ?_
          refine zz_iload hX dL_isTold_1231 13 rfl ?_
          refine zz_if_eq hX 1240 dL_isTold_1233 (by decide) (fun _ => ?_) (fun c => absurd c (by decide))
          refine zz_iconst (v := nI 0) hX dL_isTold_1240 rfl ?_
          refine zz_iconst (v := nI 0) hX dL_isTold_1241 rfl ?_
          refine zz_iconst (v := nI 0) hX dL_isTold_1242 rfl ?_
          refine zz_callSH hX zf_M_L_161 (As := [.ref 2, .int (nI 6), .int (nI y), .int (nI 0), .int (nI 0), .int (nI 0)]) (st := []) (D_ill S sh (zm_u2 mi 109 5 (nI (ql_iw S))) mr (ql_W hI) (ql_R_f (ql_W hI) hR (M := (zm_u2 mi 109 5 (nI (ql_iw S)))) (fun l hl => zm_u2r (by omega))) (nI y) (nI 0) (nI 0) 0 (by decide)) rfl rfl (by decide) (Nat.le_of_ble_eq_true rfl) (Nat.le_of_ble_eq_true rfl) (Nat.le_of_ble_eq_true rfl) dL_isTold_1243 ?_ (fun _ _ _ _ h _ => h.elim)
          rintro v9 s9 i9 m9 ⟨k9, rfl, hk9, hS9⟩ -
          obtain ⟨e9, hR9⟩ := zq_d2 hk9 (zs_ix_not g0 (by omega))
          obtain rfl := e9.symm
          refine zz_iload hX dL_isTold_1246 12 rfl ?_
          refine zz_iconst (v := nI 5) hX dL_isTold_1248 rfl ?_
          refine zz_icmp_neN hX (by omega) (by decide) 1257 dL_isTold_1249 (by decide) (fun c1249 => absurd c1249 (by omega)) (fun c1249 => ?_)
          refine zz_ldc (v := -3000000) hX zw_con_L_84 dL_isTold_1252 ?_
          refine zz_goto hX 1259 dL_isTold_1254 (by decide) ?_
          refine zz_icmp_ne hX 1266 dL_isTold_1259 (by decide) (fun c => absurd c (by decide)) (fun _ => ?_)
          refine zz_iconst (v := nI 1) hX dL_isTold_1262 rfl ?_
          refine zz_goto hX 1267 dL_isTold_1263 (by decide) ?_
          refine zz_iret hX hr rfl (Nat.le_of_ble_eq_true rfl) (Nat.le_of_ble_eq_true rfl) dL_isTold_1267 ?_
          exact ⟨rfl, ⟨_, ql_J_end hn (ql_W hI) (ql_B_mono (ql_BB hI) (by omega)) (by rw [zm_u2_id (ql_g5 hI)]; exact hI.2.2.2) hR9 hS9⟩, ql_10 h10 hS9⟩
      · skip
        refine zz_iconst (v := nI 1) hX dL_isTold_1163 rfl ?_
        refine zz_goto hX 1168 dL_isTold_1164 (by decide) ?_
        refine zz_istore (ls' := [(0, .ref 2), (1, .ref 100), (2, .ref 102), (3, .ref 103), (4, .ref 104), (5, .ref 109), (6, .int (nI 6)), (7, .int (nI one)), (8, .int (nI two)), (9, .int (nI t)), (10, .int (nI q)), (11, .int (nI b0)), (12, .int (nI y)), (13, .int (nI 1))]) hX dL_isTold_1168 (Nat.le_of_ble_eq_true rfl) rfl ?_
        by_cases g0 : y < 5
        · skip
          refine zz_aload hX dL_isTold_1170 5 rfl ?_
          refine zz_iconst (v := nI 5) hX dL_isTold_1172 rfl ?_
          refine zz_iald (x := nI (ql_iw S)) hX (ql_s109 hI) 5 rfl (by decide) (by decide) ((ql_g5 hI)) dL_isTold_1173 ?_
          refine zz_iload hX dL_isTold_1174 12 rfl ?_
          refine zz_ishr (z := (nI (ql_iw S)) >>> ((nI y) &&& 31)) hX dL_isTold_1176 rfl ?_
          refine zz_iconst (v := nI 1) hX dL_isTold_1177 rfl ?_
          refine zz_iand (z := nI (ql_iw S / 2 ^ y % 2)) hX dL_isTold_1178 (ql_bit _ hiw _ (by omega)) ?_
          refine zz_istore (ls' := [(0, .ref 2), (1, .ref 100), (2, .ref 102), (3, .ref 103), (4, .ref 104), (5, .ref 109), (6, .int (nI 6)), (7, .int (nI one)), (8, .int (nI two)), (9, .int (nI t)), (10, .int (nI q)), (11, .int (nI b0)), (12, .int (nI y)), (13, .int (nI 1)), (14, .int (nI (ql_iw S / 2 ^ y % 2)))]) hX dL_isTold_1179 (Nat.le_of_ble_eq_true rfl) rfl ?_
          refine zz_aload hX dL_isTold_1181 5 rfl ?_
          refine zz_iconst (v := nI 5) hX dL_isTold_1183 rfl ?_
          refine zz_iload hX dL_isTold_1184 12 rfl ?_
          refine zz_iconst (v := nI 5) hX dL_isTold_1186 rfl ?_
          refine zz_icmp_neN hX (by omega) (by decide) 1197 dL_isTold_1187 (by decide) (fun c1187 => ?_) (fun c1187 => absurd c1187 (by omega))
          refine zz_iload hX dL_isTold_1197 13 rfl ?_
          refine zz_if_eq hX 1214 dL_isTold_1199 (by decide) (fun c => absurd c (by decide)) (fun _ => ?_)
          refine zz_aload hX dL_isTold_1202 5 rfl ?_
          refine zz_iconst (v := nI 5) hX dL_isTold_1204 rfl ?_
          refine zz_iald (x := nI (ql_iw S)) hX (ql_s109 hI) 5 rfl (by decide) (by decide) ((ql_g5 hI)) dL_isTold_1205 ?_
          refine zz_iconst (v := nI 1) hX dL_isTold_1206 rfl ?_
          refine zz_iload hX dL_isTold_1207 12 rfl ?_
          refine zz_ishl (z := (nI 1) <<< ((nI y) &&& 31)) hX dL_isTold_1209 rfl ?_
          refine zz_ior (z := nI (if ql_iw S / 2 ^ y % 2 = 1 then ql_iw S else ql_iw S + 2 ^ y)) hX dL_isTold_1210 (ql_bor _ hiw _ g0) ?_
          refine zz_goto hX 1225 dL_isTold_1211 (by decide) ?_
          refine zz_iast hX (ql_s109 hI) 5 rfl (by decide) (by decide) dL_isTold_1225 ?_
          refine zz_aload_n hX dL_isTold_1226 0 rfl rfl ?_
          refine zz_bipush (v := nI 6) hX dL_isTold_1227 rfl ?_
          refine zz_iload hX dL_isTold_1229 12 rfl ?_
          refine zz_iload hX dL_isTold_1231 13 rfl ?_
          refine zz_if_eq hX 1240 dL_isTold_1233 (by decide) (fun c => absurd c (by decide)) (fun _ => ?_)
          refine zz_iconst (v := nI 1) hX dL_isTold_1236 rfl ?_
          refine zz_goto hX 1241 dL_isTold_1237 (by decide) ?_
          refine zz_iconst (v := nI 0) hX dL_isTold_1241 rfl ?_
          refine zz_iconst (v := nI 0) hX dL_isTold_1242 rfl ?_
          have hA9 : zs_ix (nI y) 5 := zs_ix_nI g0 (by omega)
          refine zz_callSH hX zf_M_L_161 (As := [.ref 2, .int (nI 6), .int (nI y), .int (nI 1), .int (nI 0), .int (nI 0)]) (st := []) (D_ill S sh (zm_u2 mi 109 5 (nI (if ql_iw S / 2 ^ y % 2 = 1 then ql_iw S else ql_iw S + 2 ^ y))) mr (ql_W hI) (ql_R_f (ql_W hI) hR (M := (zm_u2 mi 109 5 (nI (if ql_iw S / 2 ^ y % 2 = 1 then ql_iw S else ql_iw S + 2 ^ y)))) (fun l hl => zm_u2r (by omega))) (nI y) (nI 0) (nI 0) 1 (by decide)) rfl rfl (by decide) (Nat.le_of_ble_eq_true rfl) (Nat.le_of_ble_eq_true rfl) (Nat.le_of_ble_eq_true rfl) dL_isTold_1243 ?_ (fun _ _ _ _ h _ => h.elim)
          rintro v9 s9 i9 m9 ⟨k9, rfl, hk9, hS9⟩ -
          obtain ⟨e9, hR9⟩ := zq_d1 hk9 hA9 trivial trivial
          simp only [z_y] at e9 hR9
          obtain rfl := e9.symm
          refine zz_iload hX dL_isTold_1246 12 rfl ?_
          refine zz_iconst (v := nI 5) hX dL_isTold_1248 rfl ?_
          refine zz_icmp_neN hX (by omega) (by decide) 1257 dL_isTold_1249 (by decide) (fun c1249 => ?_) (fun c1249 => absurd c1249 (by omega))
          refine zz_iload hX dL_isTold_1257 14 rfl ?_
          refine zz_icmp_ne hX 1266 dL_isTold_1259 (by decide) (fun c1259 => absurd (ql_ill_ans (ql_W hI) g0) c1259) (fun c1259 => ?_)
          refine zz_iconst (v := nI 1) hX dL_isTold_1262 rfl ?_
          refine zz_goto hX 1267 dL_isTold_1263 (by decide) ?_
          refine zz_iret hX hr rfl (Nat.le_of_ble_eq_true rfl) (Nat.le_of_ble_eq_true rfl) dL_isTold_1267 ?_
          exact ⟨rfl, ⟨_, ql_J_end hn (by have z := U_ill (ql_W hI) (nI y) (nI 1) (Or.inr rfl) hA9 trivial trivial; simp only [z_y] at z; exact z) (ql_B_s (ql_BB hI) (fun r hr => zm_u2r (by omega))) (ql_N_ill hI.2.2.2 (ql_iw_set (ql_W hI) g0).1.symm) hR9 hS9⟩, ql_10 h10 hS9⟩
        · skip
          refine zz_aload hX dL_isTold_1170 5 rfl ?_
          refine zz_iconst (v := nI 5) hX dL_isTold_1172 rfl ?_
          refine zz_iald (x := nI (ql_iw S)) hX (ql_s109 hI) 5 rfl (by decide) (by decide) ((ql_g5 hI)) dL_isTold_1173 ?_
          refine zz_iload hX dL_isTold_1174 12 rfl ?_
          refine zz_ishr (z := (nI (ql_iw S)) >>> ((nI y) &&& 31)) hX dL_isTold_1176 rfl ?_
          refine zz_iconst (v := nI 1) hX dL_isTold_1177 rfl ?_
          refine zz_iand (z := nI (ql_iw S / 2 ^ y % 2)) hX dL_isTold_1178 (ql_bit _ hiw _ (by omega)) ?_
          refine zz_istore (ls' := [(0, .ref 2), (1, .ref 100), (2, .ref 102), (3, .ref 103), (4, .ref 104), (5, .ref 109), (6, .int (nI 6)), (7, .int (nI one)), (8, .int (nI two)), (9, .int (nI t)), (10, .int (nI q)), (11, .int (nI b0)), (12, .int (nI y)), (13, .int (nI 1)), (14, .int (nI (ql_iw S / 2 ^ y % 2)))]) hX dL_isTold_1179 (Nat.le_of_ble_eq_true rfl) rfl ?_
          refine zz_aload hX dL_isTold_1181 5 rfl ?_
          refine zz_iconst (v := nI 5) hX dL_isTold_1183 rfl ?_
          refine zz_iload hX dL_isTold_1184 12 rfl ?_
          refine zz_iconst (v := nI 5) hX dL_isTold_1186 rfl ?_
          refine zz_icmp_neN hX (by omega) (by decide) 1197 dL_isTold_1187 (by decide) (fun c1187 => absurd c1187 (by omega)) (fun c1187 => ?_)
          refine zz_aload hX dL_isTold_1190 5 rfl ?_
          refine zz_iconst (v := nI 5) hX dL_isTold_1192 rfl ?_
          refine zz_iald (x := nI (ql_iw S)) hX (ql_s109 hI) 5 rfl (by decide) (by decide) ((ql_g5 hI)) dL_isTold_1193 ?_
          refine zz_goto hX 1225 dL_isTold_1194 (by decide) ?_
          refine zz_iast hX (ql_s109 hI) 5 rfl (by decide) (by decide) dL_isTold_1225 ?_
          refine zz_aload_n hX dL_isTold_1226 0 rfl rfl ?_
          refine zz_bipush (v := nI 6) hX dL_isTold_1227 rfl ?_
          refine zz_iload hX dL_isTold_1229 12 rfl ?_
          refine zz_iload hX dL_isTold_1231 13 rfl ?_
          refine zz_if_eq hX 1240 dL_isTold_1233 (by decide) (fun c => absurd c (by decide)) (fun _ => ?_)
          refine zz_iconst (v := nI 1) hX dL_isTold_1236 rfl ?_
          refine zz_goto hX 1241 dL_isTold_1237 (by decide) ?_
          refine zz_iconst (v := nI 0) hX dL_isTold_1241 rfl ?_
          refine zz_iconst (v := nI 0) hX dL_isTold_1242 rfl ?_
          refine zz_callSH hX zf_M_L_161 (As := [.ref 2, .int (nI 6), .int (nI y), .int (nI 1), .int (nI 0), .int (nI 0)]) (st := []) (D_ill S sh (zm_u2 mi 109 5 (nI (ql_iw S))) mr (ql_W hI) (ql_R_f (ql_W hI) hR (M := (zm_u2 mi 109 5 (nI (ql_iw S)))) (fun l hl => zm_u2r (by omega))) (nI y) (nI 0) (nI 0) 1 (by decide)) rfl rfl (by decide) (Nat.le_of_ble_eq_true rfl) (Nat.le_of_ble_eq_true rfl) (Nat.le_of_ble_eq_true rfl) dL_isTold_1243 ?_ (fun _ _ _ _ h _ => h.elim)
          rintro v9 s9 i9 m9 ⟨k9, rfl, hk9, hS9⟩ -
          obtain ⟨e9, hR9⟩ := zq_d2 hk9 (zs_ix_not g0 (by omega))
          obtain rfl := e9.symm
          refine zz_iload hX dL_isTold_1246 12 rfl ?_
          refine zz_iconst (v := nI 5) hX dL_isTold_1248 rfl ?_
          refine zz_icmp_neN hX (by omega) (by decide) 1257 dL_isTold_1249 (by decide) (fun c1249 => absurd c1249 (by omega)) (fun c1249 => ?_)
          refine zz_ldc (v := -3000000) hX zw_con_L_84 dL_isTold_1252 ?_
          refine zz_goto hX 1259 dL_isTold_1254 (by decide) ?_
          refine zz_icmp_ne hX 1266 dL_isTold_1259 (by decide) (fun c => absurd c (by decide)) (fun _ => ?_)
          refine zz_iconst (v := nI 1) hX dL_isTold_1262 rfl ?_
          refine zz_goto hX 1267 dL_isTold_1263 (by decide) ?_
          refine zz_iret hX hr rfl (Nat.le_of_ble_eq_true rfl) (Nat.le_of_ble_eq_true rfl) dL_isTold_1267 ?_
          exact ⟨rfl, ⟨_, ql_J_end hn (ql_W hI) (ql_B_mono (ql_BB hI) (by omega)) (by rw [zm_u2_id (ql_g5 hI)]; exact hI.2.2.2) hR9 hS9⟩, ql_10 h10 hS9⟩
    refine zz_iload hX dL_isTold_1136 7 rfl ?_
    refine zz_bipush (v := nI 13) hX dL_isTold_1138 rfl ?_
    refine zz_irem (z := nI (one % 13)) hX dL_isTold_1140 (by decide) (pk_rem (by omega) (by decide) (by decide)) ?_
    refine zz_bipush (v := nI 12) hX dL_isTold_1141 rfl ?_
    refine zz_icmp_neN hX (by omega) (by decide) 1150 dL_isTold_1143 (by decide) (fun c1143 => ?_) (fun c1143 => ?_)
    · skip
      refine zz_iload hX dL_isTold_1150 7 rfl ?_
      refine zz_iconst (v := nI 2) hX dL_isTold_1152 rfl ?_
      refine zz_irem (z := nI (one % 2)) hX dL_isTold_1153 (by decide) (pk_rem (by omega) (by decide) (by decide)) ?_
      exact K1154 (one % 2) (by omega)
    · skip
      refine zz_iconst (v := nI 5) hX dL_isTold_1146 rfl ?_
      refine zz_goto hX 1154 dL_isTold_1147 (by decide) ?_
      exact K1154 5 (by omega)
  refine zz_iload hX dL_isTold_915 10 rfl ?_
  refine zz_aload hX dL_isTold_917 5 rfl ?_
  refine zz_iconst (v := nI 2) hX dL_isTold_919 rfl ?_
  refine zz_iald (x := nI (zv_ns S)) hX (ql_s109 hI) 2 rfl (by decide) (by decide) ((ql_g2 hI)) dL_isTold_920 ?_
  refine zz_icmp_geN hX (by omega) (by omega) 928 dL_isTold_921 (by decide) (fun c921 => ?_) (fun c921 => ?_)
  · skip
    refine zz_iconst (v := nI 0) hX dL_isTold_928 rfl ?_
    exact K929 0 (by omega)
  · skip
    refine zz_iconst (v := nI 1) hX dL_isTold_924 rfl ?_
    refine zz_goto hX 929 dL_isTold_925 (by decide) ?_
    exact K929 1 (by omega)

set_option maxHeartbeats 1000000 in
set_option maxRecDepth 20000 in
theorem T_dub (n : Nat) (hn : n + 1 ≤ 64) (S : zS) (sh : zm_Sh) (mi : zm_Mi) (mr : zm_Mr) (hI : ql_I n S sh mi) (hR : zR S sh mi mr) (h10 : sh 10 = some (9, 0)) (one two : Nat) (ho : one < 60000) (ht : two < 60000)  : zz_Con yL_isTold (.code yL_isTold cL_isTold 16 (some Jvm.ClassFile.FieldType.boolean)) 12 10 60 [.ref 2, .ref 100, .ref 102, .ref 103, .ref 104, .ref 109, .int (nI 7), .int (nI one), .int (nI two)] sh mi mr (ql_T n) zz_none := by
  refine zz_begin RL [(0, .ref 2), (1, .ref 100), (2, .ref 102), (3, .ref 103), (4, .ref 104), (5, .ref 109), (6, .int (nI 7)), (7, .int (nI one)), (8, .int (nI two))] (by decide) rfl rfl (Nat.le_of_ble_eq_true rfl) rfl ?_
  intro Γ D E ad hX hr hN hT
  obtain ⟨n1, n2, n3, n4⟩ := ql_num hI
  have hsm := ql_small hI
  refine zz_iload hX dL_isTold_0 6 rfl ?_
  refine zz_if_ne hX 116 dL_isTold_2 (by decide) (fun _ => ?_) (fun c => absurd c (by decide))
  refine zz_iload hX dL_isTold_116 7 rfl ?_
  refine zz_aload hX dL_isTold_118 5 rfl ?_
  refine zz_iconst (v := nI 0) hX dL_isTold_120 rfl ?_
  refine zz_iald (x := nI (zv_np S)) hX (ql_s109 hI) 0 rfl (by decide) (by decide) ((ql_g0 hI)) dL_isTold_121 ?_
  refine zz_iconst (v := nI 1) hX dL_isTold_122 rfl ?_
  refine zz_iadd (z := nI (zv_np S + 1)) hX dL_isTold_123 (nI_add _ _) ?_
  refine zz_irem (z := nI (one % (zv_np S + 1))) hX dL_isTold_124 (nI_ne0 (by omega) (by omega)) (pk_rem (by omega) (by omega) (by omega)) ?_
  have ht9 : one % (zv_np S + 1) < zv_np S + 1 := Nat.mod_lt _ (by omega)
  generalize one % (zv_np S + 1) = t at ht9 ⊢
  have z_t : zn (nI t) = t := nI_clamp (n := t) (by omega)
  refine zz_istore (ls' := [(0, .ref 2), (1, .ref 100), (2, .ref 102), (3, .ref 103), (4, .ref 104), (5, .ref 109), (6, .int (nI 7)), (7, .int (nI one)), (8, .int (nI two)), (9, .int (nI t))]) hX dL_isTold_125 (Nat.le_of_ble_eq_true rfl) rfl ?_
  refine zz_iload hX dL_isTold_127 6 rfl ?_
  refine zz_iconst (v := nI 2) hX dL_isTold_129 rfl ?_
  refine zz_icmp_ge hX 360 dL_isTold_130 (by decide) (fun _ => ?_) (fun c => absurd c (by decide))
  refine zz_iload hX dL_isTold_360 6 rfl ?_
  refine zz_iconst (v := nI 2) hX dL_isTold_362 rfl ?_
  refine zz_icmp_ne hX 544 dL_isTold_363 (by decide) (fun _ => ?_) (fun c => absurd c (by decide))
  refine zz_iload hX dL_isTold_544 6 rfl ?_
  refine zz_iconst (v := nI 3) hX dL_isTold_546 rfl ?_
  refine zz_icmp_ne hX 630 dL_isTold_547 (by decide) (fun _ => ?_) (fun c => absurd c (by decide))
  refine zz_iload hX dL_isTold_630 6 rfl ?_
  refine zz_iconst (v := nI 4) hX dL_isTold_632 rfl ?_
  refine zz_icmp_ne hX 904 dL_isTold_633 (by decide) (fun _ => ?_) (fun c => absurd c (by decide))
  refine zz_iload hX dL_isTold_904 7 rfl ?_
  refine zz_aload hX dL_isTold_906 5 rfl ?_
  refine zz_iconst (v := nI 2) hX dL_isTold_908 rfl ?_
  refine zz_iald (x := nI (zv_ns S)) hX (ql_s109 hI) 2 rfl (by decide) (by decide) ((ql_g2 hI)) dL_isTold_909 ?_
  refine zz_iconst (v := nI 1) hX dL_isTold_910 rfl ?_
  refine zz_iadd (z := nI (zv_ns S + 1)) hX dL_isTold_911 (nI_add _ _) ?_
  refine zz_irem (z := nI (one % (zv_ns S + 1))) hX dL_isTold_912 (nI_ne0 (by omega) (by omega)) (pk_rem (by omega) (by omega) (by omega)) ?_
  have hq9 : one % (zv_ns S + 1) < zv_ns S + 1 := Nat.mod_lt _ (by omega)
  generalize one % (zv_ns S + 1) = q at hq9 ⊢
  have z_q : zn (nI q) = q := nI_clamp (n := q) (by omega)
  refine zz_istore (ls' := [(0, .ref 2), (1, .ref 100), (2, .ref 102), (3, .ref 103), (4, .ref 104), (5, .ref 109), (6, .int (nI 7)), (7, .int (nI one)), (8, .int (nI two)), (9, .int (nI t)), (10, .int (nI q))]) hX dL_isTold_913 (Nat.le_of_ble_eq_true rfl) rfl ?_
  by_cases g0 : q < zv_ns S
  · skip
    have hwq := ql_hw_lt hI g0
    obtain ⟨q1, q2, q3, q4, q5, q6, q7, q8, q9, q10, q11, q12⟩ := ql_shot hI g0
    refine zz_iload hX dL_isTold_915 10 rfl ?_
    refine zz_aload hX dL_isTold_917 5 rfl ?_
    refine zz_iconst (v := nI 2) hX dL_isTold_919 rfl ?_
    refine zz_iald (x := nI (zv_ns S)) hX (ql_s109 hI) 2 rfl (by decide) (by decide) ((ql_g2 hI)) dL_isTold_920 ?_
    refine zz_icmp_geN hX (by omega) (by omega) 928 dL_isTold_921 (by decide) (fun c921 => absurd c921 (by omega)) (fun c921 => ?_)
    refine zz_iconst (v := nI 1) hX dL_isTold_924 rfl ?_
    refine zz_goto hX 929 dL_isTold_925 (by decide) ?_
    refine zz_istore (ls' := [(0, .ref 2), (1, .ref 100), (2, .ref 102), (3, .ref 103), (4, .ref 104), (5, .ref 109), (6, .int (nI 7)), (7, .int (nI one)), (8, .int (nI two)), (9, .int (nI t)), (10, .int (nI q)), (11, .int (nI 1))]) hX dL_isTold_929 (Nat.le_of_ble_eq_true rfl) rfl ?_
    refine zz_iload hX dL_isTold_931 6 rfl ?_
    refine zz_iconst (v := nI 5) hX dL_isTold_933 rfl ?_
    refine zz_icmp_ne hX 1129 dL_isTold_934 (by decide) (fun _ => ?_) (fun c => absurd c (by decide))
    refine zz_iload hX dL_isTold_1129 6 rfl ?_
    refine zz_bipush (v := nI 6) hX dL_isTold_1131 rfl ?_
    refine zz_icmp_ne hX 1268 dL_isTold_1133 (by decide) (fun _ => ?_) (fun c => absurd c (by decide))
    have K1294 : ∀ v9 : Int32, (∃ w, w ≤ zv_nv S + 1 ∧ v9 = nI w - nI 1) → zz Γ (D, E, 16, ad, sh) (zz_End Γ (D, E, 16, ad, sh) (ql_T n) zz_none 10 60) 0 0 sh mi mr 1294 [(0, .ref 2), (1, .ref 100), (2, .ref 102), (3, .ref 103), (4, .ref 104), (5, .ref 109), (6, .int (nI 7)), (7, .int (nI one)), (8, .int (nI two)), (9, .int (nI t)), (10, .int (nI q)), (11, .int (nI 1))] [.int v9] := by
      intro v9 hv9
      obtain ⟨w, hw9, rfl⟩ := hv9
      refine zz_istore (ls' := [(0, .ref 2), (1, .ref 100), (2, .ref 102), (3, .ref 103), (4, .ref 104), (5, .ref 109), (6, .int (nI 7)), (7, .int (nI one)), (8, .int (nI two)), (9, .int (nI t)), (10, .int (nI q)), (11, .int (nI 1)), (12, .int (nI w - nI 1))]) hX dL_isTold_1294 (Nat.le_of_ble_eq_true rfl) rfl ?_
      by_cases u0 : w ≤ zv_nv S
      · skip
        refine zz_iload hX dL_isTold_1296 11 rfl ?_
        refine zz_if_eq hX 1314 dL_isTold_1298 (by decide) (fun c => absurd c (by decide)) (fun _ => ?_)
        refine zz_iload hX dL_isTold_1301 12 rfl ?_
        refine zz_aload hX dL_isTold_1303 5 rfl ?_
        refine zz_iconst (v := nI 1) hX dL_isTold_1305 rfl ?_
        refine zz_iald (x := nI (zv_nv S)) hX (ql_s109 hI) 1 rfl (by decide) (by decide) ((ql_g1 hI)) dL_isTold_1306 ?_
        refine zz_icmp_ge hX 1314 dL_isTold_1307 (by decide) (fun c1307 => absurd ((zs_w1 (by omega) (by omega)).mp c1307) (by omega)) (fun c1307 => ?_)
        refine zz_iconst (v := nI 1) hX dL_isTold_1310 rfl ?_
        refine zz_goto hX 1315 dL_isTold_1311 (by decide) ?_
        refine zz_istore (ls' := [(0, .ref 2), (1, .ref 100), (2, .ref 102), (3, .ref 103), (4, .ref 104), (5, .ref 109), (6, .int (nI 7)), (7, .int (nI one)), (8, .int (nI two)), (9, .int (nI t)), (10, .int (nI q)), (11, .int (nI 1)), (12, .int (nI w - nI 1)), (13, .int (nI 1))]) hX dL_isTold_1315 (Nat.le_of_ble_eq_true rfl) rfl ?_
        refine zz_iload hX dL_isTold_1317 11 rfl ?_
        refine zz_if_eq hX 1339 dL_isTold_1319 (by decide) (fun c => absurd c (by decide)) (fun _ => ?_)
        refine zz_aload hX dL_isTold_1322 4 rfl ?_
        refine zz_iload hX dL_isTold_1324 10 rfl ?_
        refine zz_iald (x := nI (ql_hw S q)) hX (ql_s104 hI) q rfl (by omega) (by decide) ((ql_rd_h hI (by omega))) dL_isTold_1326 ?_
        refine zz_sipush (v := nI 128) hX dL_isTold_1327 rfl ?_
        refine zz_idiv (z := nI ((ql_hw S q) / 128)) hX dL_isTold_1330 (by decide) (pk_div (by omega) (by decide) (by decide)) ?_
        refine zz_bipush (v := nI 8) hX dL_isTold_1331 rfl ?_
        refine zz_irem (z := nI (((ql_hw S q) / 128) % 8)) hX dL_isTold_1333 (by decide) (pk_rem (by omega) (by decide) (by decide)) ?_
        refine zz_iconst (v := nI 1) hX dL_isTold_1334 rfl ?_
        refine zz_isub (z := S 13 q) hX dL_isTold_1335 ((congrArg (fun z => nI z - nI 1) (ql_hw_vo hI (a := q) (by omega))).trans (ql_vo hI (a := q) (by omega))) ?_
        refine zz_goto hX 1340 dL_isTold_1336 (by decide) ?_
        refine zz_istore (ls' := [(0, .ref 2), (1, .ref 100), (2, .ref 102), (3, .ref 103), (4, .ref 104), (5, .ref 109), (6, .int (nI 7)), (7, .int (nI one)), (8, .int (nI two)), (9, .int (nI t)), (10, .int (nI q)), (11, .int (nI 1)), (12, .int (nI w - nI 1)), (13, .int (nI 1)), (14, .int (S 13 q))]) hX dL_isTold_1340 (Nat.le_of_ble_eq_true rfl) rfl ?_
        refine zz_aload hX dL_isTold_1342 4 rfl ?_
        refine zz_iload hX dL_isTold_1344 13 rfl ?_
        refine zz_if_eq hX 1354 dL_isTold_1346 (by decide) (fun c => absurd c (by decide)) (fun _ => ?_)
        refine zz_iload hX dL_isTold_1349 10 rfl ?_
        refine zz_goto hX 1355 dL_isTold_1351 (by decide) ?_
        refine zz_dup2 hX dL_isTold_1355 rfl rfl ?_
        refine zz_iald (x := nI (ql_hw S q)) hX (ql_s104 hI) q rfl (by omega) (by decide) ((ql_rd_h hI (by omega))) dL_isTold_1356 ?_
        refine zz_iload hX dL_isTold_1357 13 rfl ?_
        refine zz_if_eq hX 1374 dL_isTold_1359 (by decide) (fun c => absurd c (by decide)) (fun _ => ?_)
        refine zz_sipush (v := nI 128) hX dL_isTold_1362 rfl ?_
        refine zz_iload hX dL_isTold_1365 12 rfl ?_
        refine zz_iload hX dL_isTold_1367 14 rfl ?_
        refine zz_isub (z := (nI w - nI 1) - (S 13 q)) hX dL_isTold_1369 rfl ?_
        refine zz_imul (z := (nI 128) * ((nI w - nI 1) - (S 13 q))) hX dL_isTold_1370 rfl ?_
        refine zz_goto hX 1375 dL_isTold_1371 (by decide) ?_
        refine zz_iadd (z := (nI (ql_hw S q)) + ((nI 128) * ((nI w - nI 1) - (S 13 q)))) hX dL_isTold_1375 rfl ?_
        refine zz_top (show (nI (ql_hw S q)) + ((nI 128) * ((nI w - nI 1) - (S 13 q))) = nI (ql_hw (zm_u2 S 13 q (nI w - nI 1)) q) from ql_hw_dub hI g0 (by omega)) ?_
        refine zz_iast hX (ql_s104 hI) q rfl (by omega) (by decide) dL_isTold_1376 ?_
        refine zz_aload_n hX dL_isTold_1377 0 rfl rfl ?_
        refine zz_bipush (v := nI 7) hX dL_isTold_1378 rfl ?_
        refine zz_iload hX dL_isTold_1380 10 rfl ?_
        refine zz_iload hX dL_isTold_1382 12 rfl ?_
        refine zz_iconst (v := nI 0) hX dL_isTold_1384 rfl ?_
        refine zz_iconst (v := nI 0) hX dL_isTold_1385 rfl ?_
        have hA9 : zs_ix (nI q) (zv_ns S) ∧ (nI w - nI 1 = -1 ∨ zs_ix (nI w - nI 1) (zv_nv S)) := ⟨zs_ix_nI g0 (by omega), (zs_wv (by omega) (by omega)).mpr u0⟩
        refine zz_callSH hX zf_M_L_161 (As := [.ref 2, .int (nI 7), .int (nI q), .int (nI w - nI 1), .int (nI 0), .int (nI 0)]) (st := []) (D_dub S sh (zm_u2 mi 104 q (nI (ql_hw (zm_u2 S 13 q (nI w - nI 1)) q))) mr (ql_W hI) (ql_R_f (ql_W hI) hR (M := (zm_u2 mi 104 q (nI (ql_hw (zm_u2 S 13 q (nI w - nI 1)) q)))) (fun l hl => zm_u2r (by omega))) (nI q) (nI w - nI 1) (nI 0) (nI 0)) rfl rfl (by decide) (Nat.le_of_ble_eq_true rfl) (Nat.le_of_ble_eq_true rfl) (Nat.le_of_ble_eq_true rfl) dL_isTold_1386 ?_ (fun _ _ _ _ h _ => h.elim)
        rintro v9 s9 i9 m9 ⟨k9, rfl, hk9, hS9⟩ -
        obtain ⟨e9, hR9⟩ := zq_d1 hk9 hA9 trivial trivial
        simp only [z_q] at e9 hR9
        obtain rfl := e9.symm
        refine zz_iload hX dL_isTold_1389 13 rfl ?_
        refine zz_if_eq hX 1399 dL_isTold_1391 (by decide) (fun c => absurd c (by decide)) (fun _ => ?_)
        refine zz_iload hX dL_isTold_1394 14 rfl ?_
        refine zz_goto hX 1401 dL_isTold_1396 (by decide) ?_
        refine zz_icmp_ne hX 1408 dL_isTold_1401 (by decide) (fun c1401 => absurd rfl c1401) (fun c1401 => ?_)
        refine zz_iconst (v := nI 1) hX dL_isTold_1404 rfl ?_
        refine zz_goto hX 1409 dL_isTold_1405 (by decide) ?_
        refine zz_iret hX hr rfl (Nat.le_of_ble_eq_true rfl) (Nat.le_of_ble_eq_true rfl) dL_isTold_1409 ?_
        exact ⟨rfl, ⟨_, ql_J_end hn (by have z := U_dub (ql_W hI) (nI q) (nI w - nI 1) hA9 trivial trivial; simp only [z_q] at z; exact z) (ql_B_s (ql_BB hI) (fun r hr => zm_u2r (by omega))) (ql_N_dub hI.2.2.2 rfl) hR9 hS9⟩, ql_10 h10 hS9⟩
      · skip
        refine zz_iload hX dL_isTold_1296 11 rfl ?_
        refine zz_if_eq hX 1314 dL_isTold_1298 (by decide) (fun c => absurd c (by decide)) (fun _ => ?_)
        refine zz_iload hX dL_isTold_1301 12 rfl ?_
        refine zz_aload hX dL_isTold_1303 5 rfl ?_
        refine zz_iconst (v := nI 1) hX dL_isTold_1305 rfl ?_
        refine zz_iald (x := nI (zv_nv S)) hX (ql_s109 hI) 1 rfl (by decide) (by decide) ((ql_g1 hI)) dL_isTold_1306 ?_
        refine zz_icmp_ge hX 1314 dL_isTold_1307 (by decide) (fun c1307 => ?_) (fun c1307 => absurd ((zs_w1 (by omega) (by omega)).mpr (by omega)) c1307)
        refine zz_iconst (v := nI 0) hX dL_isTold_1314 rfl ?_
        refine zz_istore (ls' := [(0, .ref 2), (1, .ref 100), (2, .ref 102), (3, .ref 103), (4, .ref 104), (5, .ref 109), (6, .int (nI 7)), (7, .int (nI one)), (8, .int (nI two)), (9, .int (nI t)), (10, .int (nI q)), (11, .int (nI 1)), (12, .int (nI w - nI 1)), (13, .int (nI 0))]) hX dL_isTold_1315 (Nat.le_of_ble_eq_true rfl) rfl ?_
        refine zz_iload hX dL_isTold_1317 11 rfl ?_
        refine zz_if_eq hX 1339 dL_isTold_1319 (by decide) (fun c => absurd c (by decide)) (fun _ => ?_)
        refine zz_aload hX dL_isTold_1322 4 rfl ?_
        refine zz_iload hX dL_isTold_1324 10 rfl ?_
        refine zz_iald (x := nI (ql_hw S q)) hX (ql_s104 hI) q rfl (by omega) (by decide) ((ql_rd_h hI (by omega))) dL_isTold_1326 ?_
        refine zz_sipush (v := nI 128) hX dL_isTold_1327 rfl ?_
        refine zz_idiv (z := nI ((ql_hw S q) / 128)) hX dL_isTold_1330 (by decide) (pk_div (by omega) (by decide) (by decide)) ?_
        refine zz_bipush (v := nI 8) hX dL_isTold_1331 rfl ?_
        refine zz_irem (z := nI (((ql_hw S q) / 128) % 8)) hX dL_isTold_1333 (by decide) (pk_rem (by omega) (by decide) (by decide)) ?_
        refine zz_iconst (v := nI 1) hX dL_isTold_1334 rfl ?_
        refine zz_isub (z := S 13 q) hX dL_isTold_1335 ((congrArg (fun z => nI z - nI 1) (ql_hw_vo hI (a := q) (by omega))).trans (ql_vo hI (a := q) (by omega))) ?_
        refine zz_goto hX 1340 dL_isTold_1336 (by decide) ?_
        refine zz_istore (ls' := [(0, .ref 2), (1, .ref 100), (2, .ref 102), (3, .ref 103), (4, .ref 104), (5, .ref 109), (6, .int (nI 7)), (7, .int (nI one)), (8, .int (nI two)), (9, .int (nI t)), (10, .int (nI q)), (11, .int (nI 1)), (12, .int (nI w - nI 1)), (13, .int (nI 0)), (14, .int (S 13 q))]) hX dL_isTold_1340 (Nat.le_of_ble_eq_true rfl) rfl ?_
        refine zz_aload hX dL_isTold_1342 4 rfl ?_
        refine zz_iload hX dL_isTold_1344 13 rfl ?_
        refine zz_if_eq hX 1354 dL_isTold_1346 (by decide) (fun _ => ?_) (fun c => absurd c (by decide))
        refine zz_iconst (v := nI 3) hX dL_isTold_1354 rfl ?_
        refine zz_dup2 hX dL_isTold_1355 rfl rfl ?_
        refine zz_iald (x := mi 104 3) hX (ql_s104 hI) 3 rfl (by decide) (by decide) rfl dL_isTold_1356 ?_
        refine zz_iload hX dL_isTold_1357 13 rfl ?_
        refine zz_if_eq hX 1374 dL_isTold_1359 (by decide) (fun _ => ?_) (fun c => absurd c (by decide))
        refine zz_iconst (v := nI 0) hX dL_isTold_1374 rfl ?_
        refine zz_iadd (z := (mi 104 3) + (nI 0)) hX dL_isTold_1375 rfl ?_
        refine zz_iast hX (ql_s104 hI) 3 rfl (by decide) (by decide) dL_isTold_1376 ?_
        refine zz_aload_n hX dL_isTold_1377 0 rfl rfl ?_
        refine zz_bipush (v := nI 7) hX dL_isTold_1378 rfl ?_
        refine zz_iload hX dL_isTold_1380 10 rfl ?_
        refine zz_iload hX dL_isTold_1382 12 rfl ?_
        refine zz_iconst (v := nI 0) hX dL_isTold_1384 rfl ?_
        refine zz_iconst (v := nI 0) hX dL_isTold_1385 rfl ?_
        refine zz_callSH hX zf_M_L_161 (As := [.ref 2, .int (nI 7), .int (nI q), .int (nI w - nI 1), .int (nI 0), .int (nI 0)]) (st := []) (D_dub S sh (zm_u2 mi 104 3 ((mi 104 3) + (nI 0))) mr (ql_W hI) (ql_R_f (ql_W hI) hR (M := (zm_u2 mi 104 3 ((mi 104 3) + (nI 0)))) (fun l hl => zm_u2r (by omega))) (nI q) (nI w - nI 1) (nI 0) (nI 0)) rfl rfl (by decide) (Nat.le_of_ble_eq_true rfl) (Nat.le_of_ble_eq_true rfl) (Nat.le_of_ble_eq_true rfl) dL_isTold_1386 ?_ (fun _ _ _ _ h _ => h.elim)
        rintro v9 s9 i9 m9 ⟨k9, rfl, hk9, hS9⟩ -
        obtain ⟨e9, hR9⟩ := zq_d2 hk9 (fun h => u0 ((zs_wv (by omega) (by omega)).mp h.2))
        obtain rfl := e9.symm
        refine zz_iload hX dL_isTold_1389 13 rfl ?_
        refine zz_if_eq hX 1399 dL_isTold_1391 (by decide) (fun _ => ?_) (fun c => absurd c (by decide))
        refine zz_ldc (v := -3000000) hX zw_con_L_84 dL_isTold_1399 ?_
        refine zz_icmp_ne hX 1408 dL_isTold_1401 (by decide) (fun c => absurd c (by decide)) (fun _ => ?_)
        refine zz_iconst (v := nI 1) hX dL_isTold_1404 rfl ?_
        refine zz_goto hX 1409 dL_isTold_1405 (by decide) ?_
        refine zz_iret hX hr rfl (Nat.le_of_ble_eq_true rfl) (Nat.le_of_ble_eq_true rfl) dL_isTold_1409 ?_
        exact ⟨rfl, ⟨_, ql_J_end hn (ql_W hI) (ql_B_mono (ql_BB hI) (by omega)) (ql_N_g hI.2.2.2 n3 hsm.1 (by unfold ql_gar; omega)) hR9 hS9⟩, ql_10 h10 hS9⟩
    refine zz_iload hX dL_isTold_1268 8 rfl ?_
    refine zz_iconst (v := nI 5) hX dL_isTold_1270 rfl ?_
    refine zz_irem (z := nI (two % 5)) hX dL_isTold_1271 (by decide) (pk_rem (by omega) (by decide) (by decide)) ?_
    refine zz_iconst (v := nI 4) hX dL_isTold_1272 rfl ?_
    refine zz_icmp_neN hX (by omega) (by decide) 1283 dL_isTold_1273 (by decide) (fun c1273 => ?_) (fun c1273 => ?_)
    · skip
      refine zz_iload hX dL_isTold_1283 8 rfl ?_
      refine zz_aload hX dL_isTold_1285 5 rfl ?_
      refine zz_iconst (v := nI 1) hX dL_isTold_1287 rfl ?_
      refine zz_iald (x := nI (zv_nv S)) hX (ql_s109 hI) 1 rfl (by decide) (by decide) ((ql_g1 hI)) dL_isTold_1288 ?_
      refine zz_iconst (v := nI 1) hX dL_isTold_1289 rfl ?_
      refine zz_iadd (z := nI (zv_nv S + 1)) hX dL_isTold_1290 (nI_add _ _) ?_
      refine zz_irem (z := nI (two % (zv_nv S + 1))) hX dL_isTold_1291 (nI_ne0 (by omega) (by omega)) (pk_rem (by omega) (by omega) (by omega)) ?_
      refine zz_iconst (v := nI 1) hX dL_isTold_1292 rfl ?_
      refine zz_isub (z := (nI (two % (zv_nv S + 1))) - (nI 1)) hX dL_isTold_1293 rfl ?_
      exact K1294 ((nI (two % (zv_nv S + 1))) - (nI 1)) (⟨_, Nat.le_of_lt (Nat.lt_of_lt_of_le (Nat.mod_lt _ (by omega)) (Nat.le_refl _)), rfl⟩)
    · skip
      refine zz_aload hX dL_isTold_1276 5 rfl ?_
      refine zz_iconst (v := nI 1) hX dL_isTold_1278 rfl ?_
      refine zz_iald (x := nI (zv_nv S)) hX (ql_s109 hI) 1 rfl (by decide) (by decide) ((ql_g1 hI)) dL_isTold_1279 ?_
      refine zz_goto hX 1294 dL_isTold_1280 (by decide) ?_
      exact K1294 (nI (zv_nv S)) (⟨zv_nv S + 1, by omega, ((pk_sub (a := zv_nv S + 1) (b := 1) (by omega)).trans (congrArg nI (by omega))).symm⟩)
  · skip
    refine zz_iload hX dL_isTold_915 10 rfl ?_
    refine zz_aload hX dL_isTold_917 5 rfl ?_
    refine zz_iconst (v := nI 2) hX dL_isTold_919 rfl ?_
    refine zz_iald (x := nI (zv_ns S)) hX (ql_s109 hI) 2 rfl (by decide) (by decide) ((ql_g2 hI)) dL_isTold_920 ?_
    refine zz_icmp_geN hX (by omega) (by omega) 928 dL_isTold_921 (by decide) (fun c921 => ?_) (fun c921 => absurd c921 (by omega))
    refine zz_iconst (v := nI 0) hX dL_isTold_928 rfl ?_
    refine zz_istore (ls' := [(0, .ref 2), (1, .ref 100), (2, .ref 102), (3, .ref 103), (4, .ref 104), (5, .ref 109), (6, .int (nI 7)), (7, .int (nI one)), (8, .int (nI two)), (9, .int (nI t)), (10, .int (nI q)), (11, .int (nI 0))]) hX dL_isTold_929 (Nat.le_of_ble_eq_true rfl) rfl ?_
    refine zz_iload hX dL_isTold_931 6 rfl ?_
    refine zz_iconst (v := nI 5) hX dL_isTold_933 rfl ?_
    refine zz_icmp_ne hX 1129 dL_isTold_934 (by decide) (fun _ => ?_) (fun c => absurd c (by decide))
    refine zz_iload hX dL_isTold_1129 6 rfl ?_
    refine zz_bipush (v := nI 6) hX dL_isTold_1131 rfl ?_
    refine zz_icmp_ne hX 1268 dL_isTold_1133 (by decide) (fun _ => ?_) (fun c => absurd c (by decide))
    have K1294 : ∀ v9 : Int32, (∃ w, w ≤ zv_nv S + 1 ∧ v9 = nI w - nI 1) → zz Γ (D, E, 16, ad, sh) (zz_End Γ (D, E, 16, ad, sh) (ql_T n) zz_none 10 60) 0 0 sh mi mr 1294 [(0, .ref 2), (1, .ref 100), (2, .ref 102), (3, .ref 103), (4, .ref 104), (5, .ref 109), (6, .int (nI 7)), (7, .int (nI one)), (8, .int (nI two)), (9, .int (nI t)), (10, .int (nI q)), (11, .int (nI 0))] [.int v9] := by
      intro v9 hv9
      obtain ⟨w, hw9, rfl⟩ := hv9
      refine zz_istore (ls' := [(0, .ref 2), (1, .ref 100), (2, .ref 102), (3, .ref 103), (4, .ref 104), (5, .ref 109), (6, .int (nI 7)), (7, .int (nI one)), (8, .int (nI two)), (9, .int (nI t)), (10, .int (nI q)), (11, .int (nI 0)), (12, .int (nI w - nI 1))]) hX dL_isTold_1294 (Nat.le_of_ble_eq_true rfl) rfl ?_
      refine zz_iload hX dL_isTold_1296 11 rfl ?_
      refine zz_if_eq hX 1314 dL_isTold_1298 (by decide) (fun _ => ?_) (fun c => absurd c (by decide))
      refine zz_iconst (v := nI 0) hX dL_isTold_1314 rfl ?_
      refine zz_istore (ls' := [(0, .ref 2), (1, .ref 100), (2, .ref 102), (3, .ref 103), (4, .ref 104), (5, .ref 109), (6, .int (nI 7)), (7, .int (nI one)), (8, .int (nI two)), (9, .int (nI t)), (10, .int (nI q)), (11, .int (nI 0)), (12, .int (nI w - nI 1)), (13, .int (nI 0))]) hX dL_isTold_1315 (Nat.le_of_ble_eq_true rfl) rfl ?_
      refine zz_iload hX dL_isTold_1317 11 rfl ?_
      refine zz_if_eq hX 1339 dL_isTold_1319 (by decide) (fun _ => ?_) (fun c => absurd c (by decide))
      refine zz_iconst (v := nI 0) hX dL_isTold_1339 rfl ?_
      refine zz_istore (ls' := [(0, .ref 2), (1, .ref 100), (2, .ref 102), (3, .ref 103), (4, .ref 104), (5, .ref 109), (6, .int (nI 7)), (7, .int (nI one)), (8, .int (nI two)), (9, .int (nI t)), (10, .int (nI q)), (11, .int (nI 0)), (12, .int (nI w - nI 1)), (13, .int (nI 0)), (14, .int (nI 0))]) hX dL_isTold_1340 (Nat.le_of_ble_eq_true rfl) rfl ?_
      refine zz_aload hX dL_isTold_1342 4 rfl ?_
      refine zz_iload hX dL_isTold_1344 13 rfl ?_
      refine zz_if_eq hX 1354 dL_isTold_1346 (by decide) (fun _ => ?_) (fun c => absurd c (by decide))
      refine zz_iconst (v := nI 3) hX dL_isTold_1354 rfl ?_
      refine zz_dup2 hX dL_isTold_1355 rfl rfl ?_
      refine zz_iald (x := mi 104 3) hX (ql_s104 hI) 3 rfl (by decide) (by decide) rfl dL_isTold_1356 ?_
      refine zz_iload hX dL_isTold_1357 13 rfl ?_
      refine zz_if_eq hX 1374 dL_isTold_1359 (by decide) (fun _ => ?_) (fun c => absurd c (by decide))
      refine zz_iconst (v := nI 0) hX dL_isTold_1374 rfl ?_
      refine zz_iadd (z := (mi 104 3) + (nI 0)) hX dL_isTold_1375 rfl ?_
      refine zz_iast hX (ql_s104 hI) 3 rfl (by decide) (by decide) dL_isTold_1376 ?_
      refine zz_aload_n hX dL_isTold_1377 0 rfl rfl ?_
      refine zz_bipush (v := nI 7) hX dL_isTold_1378 rfl ?_
      refine zz_iload hX dL_isTold_1380 10 rfl ?_
      refine zz_iload hX dL_isTold_1382 12 rfl ?_
      refine zz_iconst (v := nI 0) hX dL_isTold_1384 rfl ?_
      refine zz_iconst (v := nI 0) hX dL_isTold_1385 rfl ?_
      refine zz_callSH hX zf_M_L_161 (As := [.ref 2, .int (nI 7), .int (nI q), .int (nI w - nI 1), .int (nI 0), .int (nI 0)]) (st := []) (D_dub S sh (zm_u2 mi 104 3 ((mi 104 3) + (nI 0))) mr (ql_W hI) (ql_R_f (ql_W hI) hR (M := (zm_u2 mi 104 3 ((mi 104 3) + (nI 0)))) (fun l hl => zm_u2r (by omega))) (nI q) (nI w - nI 1) (nI 0) (nI 0)) rfl rfl (by decide) (Nat.le_of_ble_eq_true rfl) (Nat.le_of_ble_eq_true rfl) (Nat.le_of_ble_eq_true rfl) dL_isTold_1386 ?_ (fun _ _ _ _ h _ => h.elim)
      rintro v9 s9 i9 m9 ⟨k9, rfl, hk9, hS9⟩ -
      obtain ⟨e9, hR9⟩ := zq_d2 hk9 (fun h => g0 (zs_ixl h.1 (by omega)))
      obtain rfl := e9.symm
      refine zz_iload hX dL_isTold_1389 13 rfl ?_
      refine zz_if_eq hX 1399 dL_isTold_1391 (by decide) (fun _ => ?_) (fun c => absurd c (by decide))
      refine zz_ldc (v := -3000000) hX zw_con_L_84 dL_isTold_1399 ?_
      refine zz_icmp_ne hX 1408 dL_isTold_1401 (by decide) (fun c => absurd c (by decide)) (fun _ => ?_)
      refine zz_iconst (v := nI 1) hX dL_isTold_1404 rfl ?_
      refine zz_goto hX 1409 dL_isTold_1405 (by decide) ?_
      refine zz_iret hX hr rfl (Nat.le_of_ble_eq_true rfl) (Nat.le_of_ble_eq_true rfl) dL_isTold_1409 ?_
      exact ⟨rfl, ⟨_, ql_J_end hn (ql_W hI) (ql_B_mono (ql_BB hI) (by omega)) (ql_N_g hI.2.2.2 n3 hsm.1 (by unfold ql_gar; omega)) hR9 hS9⟩, ql_10 h10 hS9⟩
    refine zz_iload hX dL_isTold_1268 8 rfl ?_
    refine zz_iconst (v := nI 5) hX dL_isTold_1270 rfl ?_
    refine zz_irem (z := nI (two % 5)) hX dL_isTold_1271 (by decide) (pk_rem (by omega) (by decide) (by decide)) ?_
    refine zz_iconst (v := nI 4) hX dL_isTold_1272 rfl ?_
    refine zz_icmp_neN hX (by omega) (by decide) 1283 dL_isTold_1273 (by decide) (fun c1273 => ?_) (fun c1273 => ?_)
    · skip
      refine zz_iload hX dL_isTold_1283 8 rfl ?_
      refine zz_aload hX dL_isTold_1285 5 rfl ?_
      refine zz_iconst (v := nI 1) hX dL_isTold_1287 rfl ?_
      refine zz_iald (x := nI (zv_nv S)) hX (ql_s109 hI) 1 rfl (by decide) (by decide) ((ql_g1 hI)) dL_isTold_1288 ?_
      refine zz_iconst (v := nI 1) hX dL_isTold_1289 rfl ?_
      refine zz_iadd (z := nI (zv_nv S + 1)) hX dL_isTold_1290 (nI_add _ _) ?_
      refine zz_irem (z := nI (two % (zv_nv S + 1))) hX dL_isTold_1291 (nI_ne0 (by omega) (by omega)) (pk_rem (by omega) (by omega) (by omega)) ?_
      refine zz_iconst (v := nI 1) hX dL_isTold_1292 rfl ?_
      refine zz_isub (z := (nI (two % (zv_nv S + 1))) - (nI 1)) hX dL_isTold_1293 rfl ?_
      exact K1294 ((nI (two % (zv_nv S + 1))) - (nI 1)) (⟨_, Nat.le_of_lt (Nat.lt_of_lt_of_le (Nat.mod_lt _ (by omega)) (Nat.le_refl _)), rfl⟩)
    · skip
      refine zz_aload hX dL_isTold_1276 5 rfl ?_
      refine zz_iconst (v := nI 1) hX dL_isTold_1278 rfl ?_
      refine zz_iald (x := nI (zv_nv S)) hX (ql_s109 hI) 1 rfl (by decide) (by decide) ((ql_g1 hI)) dL_isTold_1279 ?_
      refine zz_goto hX 1294 dL_isTold_1280 (by decide) ?_
      exact K1294 (nI (zv_nv S)) (⟨zv_nv S + 1, by omega, ((pk_sub (a := zv_nv S + 1) (b := 1) (by omega)).trans (congrArg nI (by omega))).symm⟩)

