/-! ===== a reel, a shot ===== -/
set_option maxRecDepth 20000 in
theorem k_cameraOfNext (sh : zm_Sh) (mi : zm_Mi) (mr : zm_Mr) (t P m c l b o : Nat) (jn n : Nat) (k : Nat) (hj6 : jn ≤ 6) (hn48 : n ≤ 48) (ht : sh t = some (0, 1)) (hP : mr t 0 = some P) (hm : mr t 1 = some m) (hcm : mr t 2 = some c) (hlt : mr t 3 = some l) (hb : mr t 4 = some b) (ho : mr t 5 = some o) (hsP : sh P = some (8, jn)) (hsm : sh m = some (1, n)) (hsc : sh c = some (1, n)) (hsl : sh l = some (1, n)) (hsb : sh b = some (1, n)) (hso : sh o = some (1, n)) (hk : mi t 6 = nI k) (hkn : k < n) (play : Int32) : zz_Con yX1_cameraOfNext (.code yX1_cameraOfNext cX1_cameraOfNext 6 (some Jvm.ClassFile.FieldType.int)) 1 0 0 [.ref t, .int play] sh mi mr (zz_q (some (.int (zs_cam (mi o) k play))) sh mi mr) zz_none := by
  refine zz_begin RX1 [(0, .ref t), (1, .int play)] (by decide) rfl rfl (Nat.le_of_ble_eq_true rfl) rfl ?_
  intro Γ D E ad hX hr hN hT
  refine zz_iconst (v := nI 0) hX dX1_cameraOfNext_0 rfl ?_
  refine zz_istore_n (ls' := [(0, .ref t), (1, .int play), (2, .int (nI 0))]) hX dX1_cameraOfNext_1 rfl (Nat.le_of_ble_eq_true rfl) rfl ?_
  refine zz_iconst (v := nI 0) hX dX1_cameraOfNext_2 rfl ?_
  refine zz_istore_n (ls' := [(0, .ref t), (1, .int play), (2, .int (nI 0)), (3, .int (nI 0))]) hX dX1_cameraOfNext_3 rfl (Nat.le_of_ble_eq_true rfl) rfl ?_
  refine zz_iconst (v := nI 1) hX dX1_cameraOfNext_4 rfl ?_
  refine zz_istore (ls' := [(0, .ref t), (1, .int play), (2, .int (nI 0)), (3, .int (nI 0)), (4, .int (nI 1))]) hX dX1_cameraOfNext_5 (Nat.le_of_ble_eq_true rfl) rfl ?_
  refine zz_lcl (ls' := [(0, .ref t), (1, .int play), (2, .int (zs_cs (mi o) 0).1), (3, .int (zs_cs (mi o) 0).2), (4, .int (nI (0 + 1)))]) rfl ?_
  have L7 : ∀ (k7 : Nat) (i : Nat), k + 1 - i < k7 → (i ≤ k) → zz Γ (D, E, 6, ad, sh) (zz_End Γ (D, E, 6, ad, sh) (zz_q (some (.int (zs_cam (mi o) k play))) sh mi mr) zz_none 0 0) 0 0 sh mi mr 7 [(0, .ref t), (1, .int play), (2, .int ((zs_cs (mi o) i).1)), (3, .int ((zs_cs (mi o) i).2)), (4, .int (nI (i + 1)))] [] := by
    intro k7
    induction k7 with
    | zero => intro i hk7; exact absurd hk7 (Nat.not_lt_zero _)
    | succ k7 ih7 =>
      intro i hk7 hi
      refine zz_iload hX dX1_cameraOfNext_7 4 rfl ?_
      refine zz_aload_n hX dX1_cameraOfNext_9 0 rfl rfl ?_
      refine zz_getI (x := nI k) hX zf_F_X1_9.r ht rfl (hk) dX1_cameraOfNext_10 ?_
      refine zz_icmp_gtN hX (by omega) (by omega) 68 dX1_cameraOfNext_13 (by decide) (fun c13 => ?_) (fun c13 => ?_)
      · skip
        refine zz_iload_n hX dX1_cameraOfNext_68 3 rfl rfl ?_
        refine zz_if_ne hX 82 dX1_cameraOfNext_69 (by decide) (fun c69 => ?_) (fun c69 => ?_)
        · skip
          refine zz_iload_n hX dX1_cameraOfNext_82 2 rfl rfl ?_
          refine zz_if_le hX 100 dX1_cameraOfNext_83 (by decide) (fun c83 => ?_) (fun c83 => ?_)
          · skip
            refine zz_aload_n hX dX1_cameraOfNext_100 0 rfl rfl ?_
            refine zz_getR (y := o) hX zf_F_X1_33.r ht rfl ho dX1_cameraOfNext_101 ?_
            refine zz_aload_n hX dX1_cameraOfNext_104 0 rfl rfl ?_
            refine zz_getI (x := nI k) hX zf_F_X1_9.r ht rfl (hk) dX1_cameraOfNext_105 ?_
            refine zz_iald (x := mi o k) hX hso k rfl (by omega) (by omega) rfl dX1_cameraOfNext_108 ?_
            refine zz_iload_n hX dX1_cameraOfNext_109 1 rfl rfl ?_
            refine zz_iadd (z := (mi o k) + play) hX dX1_cameraOfNext_110 rfl ?_
            refine zz_iret hX hr rfl (Nat.le_of_ble_eq_true rfl) (Nat.le_of_ble_eq_true rfl) dX1_cameraOfNext_111 ?_
            exact ⟨by rw [show i = k by omega] at c69 c83; rw [show zs_cam (mi o) k play = _ from (if_neg c69).trans (if_pos c83)], rfl, rfl, rfl⟩
          · skip
            refine zz_aload_n hX dX1_cameraOfNext_86 0 rfl rfl ?_
            refine zz_getR (y := o) hX zf_F_X1_33.r ht rfl ho dX1_cameraOfNext_87 ?_
            refine zz_aload_n hX dX1_cameraOfNext_90 0 rfl rfl ?_
            refine zz_getI (x := nI k) hX zf_F_X1_9.r ht rfl (hk) dX1_cameraOfNext_91 ?_
            refine zz_iald (x := mi o k) hX hso k rfl (by omega) (by omega) rfl dX1_cameraOfNext_94 ?_
            refine zz_iload_n hX dX1_cameraOfNext_95 1 rfl rfl ?_
            refine zz_isub (z := (mi o k) - play) hX dX1_cameraOfNext_96 rfl ?_
            refine zz_goto hX 111 dX1_cameraOfNext_97 (by decide) ?_
            refine zz_iret hX hr rfl (Nat.le_of_ble_eq_true rfl) (Nat.le_of_ble_eq_true rfl) dX1_cameraOfNext_111 ?_
            exact ⟨by rw [show i = k by omega] at c69 c83; rw [show zs_cam (mi o) k play = _ from (if_neg c69).trans (if_neg c83)], rfl, rfl, rfl⟩
        · skip
          refine zz_aload_n hX dX1_cameraOfNext_72 0 rfl rfl ?_
          refine zz_getR (y := o) hX zf_F_X1_33.r ht rfl ho dX1_cameraOfNext_73 ?_
          refine zz_aload_n hX dX1_cameraOfNext_76 0 rfl rfl ?_
          refine zz_getI (x := nI k) hX zf_F_X1_9.r ht rfl (hk) dX1_cameraOfNext_77 ?_
          refine zz_iald (x := mi o k) hX hso k rfl (by omega) (by omega) rfl dX1_cameraOfNext_80 ?_
          refine zz_iret hX hr rfl (Nat.le_of_ble_eq_true rfl) (Nat.le_of_ble_eq_true rfl) dX1_cameraOfNext_81 ?_
          exact ⟨by rw [show i = k by omega] at c69; rw [show zs_cam (mi o) k play = _ from if_pos c69], rfl, rfl, rfl⟩
      · skip
        refine zz_aload_n hX dX1_cameraOfNext_16 0 rfl rfl ?_
        refine zz_getR (y := o) hX zf_F_X1_33.r ht rfl ho dX1_cameraOfNext_17 ?_
        refine zz_iload hX dX1_cameraOfNext_20 4 rfl ?_
        refine zz_iald (x := mi o (i + 1)) hX hso (i + 1) rfl (by omega) (by omega) rfl dX1_cameraOfNext_22 ?_
        refine zz_aload_n hX dX1_cameraOfNext_23 0 rfl rfl ?_
        refine zz_getR (y := o) hX zf_F_X1_33.r ht rfl ho dX1_cameraOfNext_24 ?_
        refine zz_iload hX dX1_cameraOfNext_27 4 rfl ?_
        refine zz_iconst (v := nI 1) hX dX1_cameraOfNext_29 rfl ?_
        refine zz_isub (z := nI i) hX dX1_cameraOfNext_30 (pk_sub (by omega)) ?_
        refine zz_iald (x := mi o i) hX hso i rfl (by omega) (by omega) rfl dX1_cameraOfNext_31 ?_
        refine zz_sI (x := zs_cmp (mi o (i + 1)) (mi o i)) hX zf_M_X1_44 (As := [.int (mi o (i + 1)), .int (mi o i)]) (st := []) (k_compare (mi o (i + 1)) (mi o i) sh mi mr) rfl rfl (by decide) (Nat.le_of_ble_eq_true rfl) (Nat.le_of_ble_eq_true rfl) (Nat.le_of_ble_eq_true rfl) dX1_cameraOfNext_32 ?_
        refine zz_istore (ls' := [(0, .ref t), (1, .int play), (2, .int ((zs_cs (mi o) i).1)), (3, .int ((zs_cs (mi o) i).2)), (4, .int (nI (i + 1))), (5, .int (zs_cmp (mi o (i + 1)) (mi o i)))]) hX dX1_cameraOfNext_35 (Nat.le_of_ble_eq_true rfl) rfl ?_
        refine zz_iload hX dX1_cameraOfNext_37 5 rfl ?_
        refine zz_if_eq hX 62 dX1_cameraOfNext_39 (by decide) (fun c39 => ?_) (fun c39 => ?_)
        · skip
          refine zz_iinc (v := nI ((i + 1) + 1)) (ls' := [(0, .ref t), (1, .int play), (2, .int ((zs_cs (mi o) i).1)), (3, .int ((zs_cs (mi o) i).2)), (4, .int (nI ((i + 1) + 1))), (5, .int (zs_cmp (mi o (i + 1)) (mi o i)))]) hX dX1_cameraOfNext_62 4 rfl (nI_1 _) (Nat.le_of_ble_eq_true rfl) rfl ?_
          refine zz_goto hX 7 dX1_cameraOfNext_65 (by decide) ?_
          refine zz_pick (ls' := [(0, .ref t), (1, .int play), (2, .int ((zs_cs (mi o) i).1)), (3, .int ((zs_cs (mi o) i).2)), (4, .int (nI ((i + 1) + 1)))]) [0, 1, 2, 3, 4] rfl ?_
          refine zz_lcl (ls' := [(0, .ref t), (1, .int play), (2, .int (zs_cs (mi o) (i + 1)).1), (3, .int (zs_cs (mi o) (i + 1)).2), (4, .int (nI (i + 1 + 1)))]) (by rw [show zs_cs (mi o) (i + 1) = zs_cs (mi o) i from if_pos c39]) ?_
          exact ih7 (i + 1) (by omega) (by omega)
        · skip
          refine zz_iload_n hX dX1_cameraOfNext_42 3 rfl rfl ?_
          refine zz_if_ne hX 53 dX1_cameraOfNext_43 (by decide) (fun c43 => ?_) (fun c43 => ?_)
          · skip
            refine zz_iconst (v := nI 1) hX dX1_cameraOfNext_53 rfl ?_
            refine zz_goto hX 58 dX1_cameraOfNext_54 (by decide) ?_
            refine zz_istore_n (ls' := [(0, .ref t), (1, .int play), (2, .int ((zs_cs (mi o) i).1)), (3, .int (nI 1)), (4, .int (nI (i + 1))), (5, .int (zs_cmp (mi o (i + 1)) (mi o i)))]) hX dX1_cameraOfNext_58 rfl (Nat.le_of_ble_eq_true rfl) rfl ?_
            refine zz_iload hX dX1_cameraOfNext_59 5 rfl ?_
            refine zz_istore_n (ls' := [(0, .ref t), (1, .int play), (2, .int (zs_cmp (mi o (i + 1)) (mi o i))), (3, .int (nI 1)), (4, .int (nI (i + 1))), (5, .int (zs_cmp (mi o (i + 1)) (mi o i)))]) hX dX1_cameraOfNext_61 rfl (Nat.le_of_ble_eq_true rfl) rfl ?_
            refine zz_iinc (v := nI ((i + 1) + 1)) (ls' := [(0, .ref t), (1, .int play), (2, .int (zs_cmp (mi o (i + 1)) (mi o i))), (3, .int (nI 1)), (4, .int (nI ((i + 1) + 1))), (5, .int (zs_cmp (mi o (i + 1)) (mi o i)))]) hX dX1_cameraOfNext_62 4 rfl (nI_1 _) (Nat.le_of_ble_eq_true rfl) rfl ?_
            refine zz_goto hX 7 dX1_cameraOfNext_65 (by decide) ?_
            refine zz_pick (ls' := [(0, .ref t), (1, .int play), (2, .int (zs_cmp (mi o (i + 1)) (mi o i))), (3, .int (nI 1)), (4, .int (nI ((i + 1) + 1)))]) [0, 1, 2, 3, 4] rfl ?_
            refine zz_lcl (ls' := [(0, .ref t), (1, .int play), (2, .int (zs_cs (mi o) (i + 1)).1), (3, .int (zs_cs (mi o) (i + 1)).2), (4, .int (nI (i + 1 + 1)))]) (by
              have e : zs_cs (mi o) (i + 1) = _ := if_neg c39
              rw [e]; dsimp only; rw [if_pos c43]; rfl) ?_
            exact ih7 (i + 1) (by omega) (by omega)
          · skip
            refine zz_iload_n hX dX1_cameraOfNext_46 2 rfl rfl ?_
            refine zz_iload hX dX1_cameraOfNext_47 5 rfl ?_
            refine zz_imul (z := ((zs_cs (mi o) i).1) * (zs_cmp (mi o (i + 1)) (mi o i))) hX dX1_cameraOfNext_49 rfl ?_
            refine zz_if_ge hX 57 dX1_cameraOfNext_50 (by decide) (fun c50 => ?_) (fun c50 => ?_)
            · skip
              refine zz_iconst (v := nI 0) hX dX1_cameraOfNext_57 rfl ?_
              refine zz_istore_n (ls' := [(0, .ref t), (1, .int play), (2, .int ((zs_cs (mi o) i).1)), (3, .int (nI 0)), (4, .int (nI (i + 1))), (5, .int (zs_cmp (mi o (i + 1)) (mi o i)))]) hX dX1_cameraOfNext_58 rfl (Nat.le_of_ble_eq_true rfl) rfl ?_
              refine zz_iload hX dX1_cameraOfNext_59 5 rfl ?_
              refine zz_istore_n (ls' := [(0, .ref t), (1, .int play), (2, .int (zs_cmp (mi o (i + 1)) (mi o i))), (3, .int (nI 0)), (4, .int (nI (i + 1))), (5, .int (zs_cmp (mi o (i + 1)) (mi o i)))]) hX dX1_cameraOfNext_61 rfl (Nat.le_of_ble_eq_true rfl) rfl ?_
              refine zz_iinc (v := nI ((i + 1) + 1)) (ls' := [(0, .ref t), (1, .int play), (2, .int (zs_cmp (mi o (i + 1)) (mi o i))), (3, .int (nI 0)), (4, .int (nI ((i + 1) + 1))), (5, .int (zs_cmp (mi o (i + 1)) (mi o i)))]) hX dX1_cameraOfNext_62 4 rfl (nI_1 _) (Nat.le_of_ble_eq_true rfl) rfl ?_
              refine zz_goto hX 7 dX1_cameraOfNext_65 (by decide) ?_
              refine zz_pick (ls' := [(0, .ref t), (1, .int play), (2, .int (zs_cmp (mi o (i + 1)) (mi o i))), (3, .int (nI 0)), (4, .int (nI ((i + 1) + 1)))]) [0, 1, 2, 3, 4] rfl ?_
              refine zz_lcl (ls' := [(0, .ref t), (1, .int play), (2, .int (zs_cs (mi o) (i + 1)).1), (3, .int (zs_cs (mi o) (i + 1)).2), (4, .int (nI (i + 1 + 1)))]) (by
                have e : zs_cs (mi o) (i + 1) = _ := if_neg c39
                rw [e]; dsimp only; rw [if_neg (fun h => h c43), if_pos c50]; rfl) ?_
              exact ih7 (i + 1) (by omega) (by omega)
            · skip
              refine zz_iconst (v := nI 1) hX dX1_cameraOfNext_53 rfl ?_
              refine zz_goto hX 58 dX1_cameraOfNext_54 (by decide) ?_
              refine zz_istore_n (ls' := [(0, .ref t), (1, .int play), (2, .int ((zs_cs (mi o) i).1)), (3, .int (nI 1)), (4, .int (nI (i + 1))), (5, .int (zs_cmp (mi o (i + 1)) (mi o i)))]) hX dX1_cameraOfNext_58 rfl (Nat.le_of_ble_eq_true rfl) rfl ?_
              refine zz_iload hX dX1_cameraOfNext_59 5 rfl ?_
              refine zz_istore_n (ls' := [(0, .ref t), (1, .int play), (2, .int (zs_cmp (mi o (i + 1)) (mi o i))), (3, .int (nI 1)), (4, .int (nI (i + 1))), (5, .int (zs_cmp (mi o (i + 1)) (mi o i)))]) hX dX1_cameraOfNext_61 rfl (Nat.le_of_ble_eq_true rfl) rfl ?_
              refine zz_iinc (v := nI ((i + 1) + 1)) (ls' := [(0, .ref t), (1, .int play), (2, .int (zs_cmp (mi o (i + 1)) (mi o i))), (3, .int (nI 1)), (4, .int (nI ((i + 1) + 1))), (5, .int (zs_cmp (mi o (i + 1)) (mi o i)))]) hX dX1_cameraOfNext_62 4 rfl (nI_1 _) (Nat.le_of_ble_eq_true rfl) rfl ?_
              refine zz_goto hX 7 dX1_cameraOfNext_65 (by decide) ?_
              refine zz_pick (ls' := [(0, .ref t), (1, .int play), (2, .int (zs_cmp (mi o (i + 1)) (mi o i))), (3, .int (nI 1)), (4, .int (nI ((i + 1) + 1)))]) [0, 1, 2, 3, 4] rfl ?_
              refine zz_lcl (ls' := [(0, .ref t), (1, .int play), (2, .int (zs_cs (mi o) (i + 1)).1), (3, .int (zs_cs (mi o) (i + 1)).2), (4, .int (nI (i + 1 + 1)))]) (by
                have e : zs_cs (mi o) (i + 1) = _ := if_neg c39
                rw [e]; dsimp only; rw [if_neg (fun h => h c43), if_neg c50]; rfl) ?_
              exact ih7 (i + 1) (by omega) (by omega)
  exact L7 ((k + 1 - 0 + 1)) 0 (by omega) (Nat.zero_le _)

set_option maxRecDepth 20000 in
theorem k_keepNext (sh : zm_Sh) (mi : zm_Mi) (mr : zm_Mr) (t P m c l b o : Nat) (jn n : Nat) (k : Nat) (hj6 : jn ≤ 6) (hn48 : n ≤ 48) (ht : sh t = some (0, 1)) (hP : mr t 0 = some P) (hm : mr t 1 = some m) (hcm : mr t 2 = some c) (hlt : mr t 3 = some l) (hb : mr t 4 = some b) (ho : mr t 5 = some o) (hsP : sh P = some (8, jn)) (hsm : sh m = some (1, n)) (hsc : sh c = some (1, n)) (hsl : sh l = some (1, n)) (hsb : sh b = some (1, n)) (hso : sh o = some (1, n)) (hk : mi t 6 = nI k) (hkn : k < n) (hto : t ≠ o) (htc : t ≠ c) (htl : t ≠ l) (htb : t ≠ b) (told play light table : Int32) : zz_Con yX1_keepNext (.code yX1_keepNext cX1_keepNext 5 none) 2 0 0 [.ref t, .int told, .int play, .int light, .int table] sh mi mr (zz_q (none) sh (zm_u2 (zm_u2 (zm_u2 (zm_u2 (zm_u2 mi o k told) c k (zs_cam (zm_u2 mi o k told o) k play)) l k light) b k table) t 6 (nI (k + 1))) mr) zz_none := by
  refine zz_begin RX1 [(0, .ref t), (1, .int told), (2, .int play), (3, .int light), (4, .int table)] (by decide) rfl rfl (Nat.le_of_ble_eq_true rfl) rfl ?_
  intro Γ D E ad hX hr hN hT
  refine zz_aload_n hX dX1_keepNext_0 0 rfl rfl ?_
  refine zz_getR (y := o) hX zf_F_X1_33.r ht rfl ho dX1_keepNext_1 ?_
  refine zz_aload_n hX dX1_keepNext_4 0 rfl rfl ?_
  refine zz_getI (x := nI k) hX zf_F_X1_9.r ht rfl (hk) dX1_keepNext_5 ?_
  refine zz_iload_n hX dX1_keepNext_8 1 rfl rfl ?_
  refine zz_iast hX hso k rfl (by omega) (by omega) dX1_keepNext_9 ?_
  refine zz_aload_n hX dX1_keepNext_10 0 rfl rfl ?_
  refine zz_getR (y := c) hX zf_F_X1_24.r ht rfl hcm dX1_keepNext_11 ?_
  refine zz_aload_n hX dX1_keepNext_14 0 rfl rfl ?_
  refine zz_getI (x := nI k) hX zf_F_X1_9.r ht rfl ((zm_u2l hto).trans (hk)) dX1_keepNext_15 ?_
  refine zz_aload_n hX dX1_keepNext_18 0 rfl rfl ?_
  refine zz_iload_n hX dX1_keepNext_19 2 rfl rfl ?_
  refine zz_vI (x := zs_cam ((zm_u2 mi o k told) o) k play) hX zf_M_X1_40 (As := [.int play]) (st := [.int (nI k), .ref c]) (k_cameraOfNext sh (zm_u2 mi o k told) mr t P m c l b o jn n k hj6 hn48 ht hP hm hcm hlt hb ho hsP hsm hsc hsl hsb hso ((zm_u2l hto).trans hk) hkn play) ht rfl rfl rfl (by decide) (Nat.le_of_ble_eq_true rfl) (Nat.le_of_ble_eq_true rfl) (Nat.le_of_ble_eq_true rfl) dX1_keepNext_20 ?_
  refine zz_iast hX hsc k rfl (by omega) (by omega) dX1_keepNext_23 ?_
  refine zz_aload_n hX dX1_keepNext_24 0 rfl rfl ?_
  refine zz_getR (y := l) hX zf_F_X1_27.r ht rfl hlt dX1_keepNext_25 ?_
  refine zz_aload_n hX dX1_keepNext_28 0 rfl rfl ?_
  refine zz_getI (x := nI k) hX zf_F_X1_9.r ht rfl ((zm_u2l htc).trans ((zm_u2l hto).trans (hk))) dX1_keepNext_29 ?_
  refine zz_iload_n hX dX1_keepNext_32 3 rfl rfl ?_
  refine zz_iast hX hsl k rfl (by omega) (by omega) dX1_keepNext_33 ?_
  refine zz_aload_n hX dX1_keepNext_34 0 rfl rfl ?_
  refine zz_getR (y := b) hX zf_F_X1_30.r ht rfl hb dX1_keepNext_35 ?_
  refine zz_aload_n hX dX1_keepNext_38 0 rfl rfl ?_
  refine zz_getI (x := nI k) hX zf_F_X1_9.r ht rfl ((zm_u2l htl).trans ((zm_u2l htc).trans ((zm_u2l hto).trans (hk)))) dX1_keepNext_39 ?_
  refine zz_iload hX dX1_keepNext_42 4 rfl ?_
  refine zz_iast hX hsb k rfl (by omega) (by omega) dX1_keepNext_44 ?_
  refine zz_aload_n hX dX1_keepNext_45 0 rfl rfl ?_
  refine zz_dup hX dX1_keepNext_46 rfl ?_
  refine zz_getI (x := nI k) hX zf_F_X1_9.r ht rfl ((zm_u2l htb).trans ((zm_u2l htl).trans ((zm_u2l htc).trans ((zm_u2l hto).trans (hk))))) dX1_keepNext_47 ?_
  refine zz_iconst (v := nI 1) hX dX1_keepNext_50 rfl ?_
  refine zz_iadd (z := nI (k + 1)) hX dX1_keepNext_51 (nI_add _ _) ?_
  refine zz_putI hX zf_F_X1_9 ht rfl rfl rfl dX1_keepNext_52 ?_
  refine zz_vret hX hr (Nat.le_of_ble_eq_true rfl) (Nat.le_of_ble_eq_true rfl) dX1_keepNext_55 ?_
  exact ⟨rfl, rfl, rfl, rfl⟩


/-! ===== what the objects look like in the memory ===== -/
def zr_T (sh : zm_Sh) (mr : zm_Mr) (t n : Nat) : Prop := sh t = some (0, 3) ∧ mr t 1 = some (t + 1) ∧ mr t 2 = some (t + 2) ∧ sh (t + 1) = some (1, n) ∧ sh (t + 2) = some (2, n)
def zr_P (sh : zm_Sh) (mr : zm_Mr) (p jn : Nat) : Prop := sh p = some (0, 0) ∧ mr p 1 = some (p + 1) ∧ mr p 2 = some (p + 2) ∧ mr p 3 = some (p + 3) ∧ sh (p + 1) = some (1, jn) ∧ sh (p + 2) = some (1, jn) ∧ sh (p + 3) = some (1, 10)
def zr_V (sh : zm_Sh) (mr : zm_Mr) (v : Nat) : Prop := sh v = some (0, 4) ∧ mr v 0 = some (v + 1) ∧ mr v 1 = some (v + 2) ∧ sh (v + 1) = some (1, 12) ∧ sh (v + 2) = some (1, 12)
def zr_R (sh : zm_Sh) (mr : zm_Mr) (b jn n : Nat) : Prop := sh (b + 5) = some (0, 1) ∧ mr (b + 5) 0 = some (b + 6) ∧ mr (b + 5) 1 = some (b + 7) ∧ mr (b + 5) 2 = some (b + 8) ∧ mr (b + 5) 3 = some (b + 9) ∧ mr (b + 5) 4 = some (b + 10) ∧ mr (b + 5) 5 = some (b + 11) ∧
  sh (b + 6) = some (8, jn) ∧ sh (b + 7) = some (1, n) ∧ sh (b + 8) = some (1, n) ∧ sh (b + 9) = some (1, n) ∧ sh (b + 10) = some (1, n) ∧ sh (b + 11) = some (1, n) ∧ (∀ j, j < jn → mr (b + 6) j = some (b + 40 + j)) ∧ ∀ j, j < jn → sh (b + 40 + j) = some (1, n)
def zr_S (sh : zm_Sh) (mr : zm_Mr) (b p jn n : Nat) : Prop := sh b = some (0, 2) ∧ mr b 0 = some p ∧ mr b 6 = some (b + 1) ∧ mr b 7 = some (b + 2) ∧ mr b 8 = some (b + 5) ∧ sh (b + 1) = some (6, jn) ∧ (∀ j, j < jn → mr (b + 1) j = some (b + 20 + 3 * j)) ∧ (∀ j, j < jn → zr_T sh mr (b + 20 + 3 * j) n) ∧ zr_T sh mr (b + 2) n ∧ zr_R sh mr b jn n
/-- the frame that a frame is posed as -/
def zs_pf (stp f : Nat) : Nat := if stp = 2 ∧ f % 2 = 1 then f - 1 else f
theorem zs_pf_le (stp f : Nat) : zs_pf stp f ≤ f := by
  unfold zs_pf
  split <;> omega
/-- what a track tells for a frame, its values in row t + 1, its marks in row t + 2 -/
def zs_at (mix : Int32 → Int32 → Int32 → Int32 → Int32) (mi : zm_Mi) (t n f : Nat) : Int32 := zs_val mix (mi (t + 1)) (zs_up (fun i => ¬ mi (t + 2) i = 0) (f + 1)) (zs_fst (fun i => ¬ mi (t + 2) i = 0) nI (n - f) f) (nI f)

set_option maxRecDepth 20000 in
theorem k_posedFrame (sh : zm_Sh) (mi : zm_Mi) (mr : zm_Mr) (b p jn n stp k : Nat) (hj6 : jn ≤ 6) (hn48 : n ≤ 48) (hS : zr_S sh mr b p jn n) (hfr : mi b 1 = nI n) (hst : mi b 2 = nI stp) (hk : mi (b + 5) 6 = nI k) (hs2 : stp ≤ 2) (hkn : k ≤ n) (f : Nat) (hf : f < 1000) : zz_Con yX2_posedFrame (.code yX2_posedFrame cX2_posedFrame 2 (some Jvm.ClassFile.FieldType.int)) 0 0 0 [.ref b, .int (nI f)] sh mi mr (zz_q (some (.int (nI (zs_pf stp f)))) sh mi mr) zz_none := by
  refine zz_begin RX2 [(0, .ref b), (1, .int (nI f))] (by decide) rfl rfl (Nat.le_of_ble_eq_true rfl) rfl ?_
  intro Γ D E ad hX hr hN hT
  have hS0 := hS
  obtain ⟨s1, s2, s3, s4, s5, s6, s7, s8, s9, s10⟩ := hS
  obtain ⟨r1, r2, r3, r4, r5, r6, r7, r8, r9, r10, r11, r12, r13, r14, r15⟩ := s10
  refine zz_aload_n hX dX2_posedFrame_0 0 rfl rfl ?_
  refine zz_getI (x := nI stp) hX zf_F_X2_25.r s1 rfl (hst) dX2_posedFrame_1 ?_
  refine zz_iconst (v := nI 2) hX dX2_posedFrame_4 rfl ?_
  refine zz_icmp_neN hX (by omega) (by decide) 21 dX2_posedFrame_5 (by decide) (fun c5 => ?_) (fun c5 => ?_)
  · skip
    refine zz_iload_n hX dX2_posedFrame_21 1 rfl rfl ?_
    refine zz_iret hX hr rfl (Nat.le_of_ble_eq_true rfl) (Nat.le_of_ble_eq_true rfl) dX2_posedFrame_22 ?_
    exact ⟨by rw [show zs_pf stp f = _ from if_neg (fun h => c5 h.1)], rfl, rfl, rfl⟩
  · skip
    refine zz_iload_n hX dX2_posedFrame_8 1 rfl rfl ?_
    refine zz_iconst (v := nI 2) hX dX2_posedFrame_9 rfl ?_
    refine zz_irem (z := nI (f % 2)) hX dX2_posedFrame_10 (by decide) (pk_rem (by omega) (by decide) (by decide)) ?_
    refine zz_iconst (v := nI 1) hX dX2_posedFrame_11 rfl ?_
    refine zz_icmp_neN hX (by omega) (by decide) 21 dX2_posedFrame_12 (by decide) (fun c12 => ?_) (fun c12 => ?_)
    · skip
      refine zz_iload_n hX dX2_posedFrame_21 1 rfl rfl ?_
      refine zz_iret hX hr rfl (Nat.le_of_ble_eq_true rfl) (Nat.le_of_ble_eq_true rfl) dX2_posedFrame_22 ?_
      exact ⟨by rw [show zs_pf stp f = _ from if_neg (fun h => c12 h.2)], rfl, rfl, rfl⟩
    · skip
      refine zz_iload_n hX dX2_posedFrame_15 1 rfl rfl ?_
      refine zz_iconst (v := nI 1) hX dX2_posedFrame_16 rfl ?_
      refine zz_isub (z := nI (f - 1)) hX dX2_posedFrame_17 (pk_sub (by omega)) ?_
      refine zz_goto hX 22 dX2_posedFrame_18 (by decide) ?_
      refine zz_iret hX hr rfl (Nat.le_of_ble_eq_true rfl) (Nat.le_of_ble_eq_true rfl) dX2_posedFrame_22 ?_
      exact ⟨by rw [show zs_pf stp f = _ from if_pos ⟨c5, c12⟩], rfl, rfl, rfl⟩

set_option maxRecDepth 20000 in
theorem k_isHeld (sh : zm_Sh) (mi : zm_Mi) (mr : zm_Mr) (b p jn n stp k : Nat) (hj6 : jn ≤ 6) (hn48 : n ≤ 48) (hS : zr_S sh mr b p jn n) (hfr : mi b 1 = nI n) (hst : mi b 2 = nI stp) (hk : mi (b + 5) 6 = nI k) (hs2 : stp ≤ 2) (hkn : k ≤ n) (f : Nat) (hf : f < 1000) : zz_Con yX2_isHeld (.code yX2_isHeld cX2_isHeld 2 (some Jvm.ClassFile.FieldType.boolean)) 1 0 0 [.ref b, .int (nI f)] sh mi mr (zz_q (some (.int (zz_bi (¬ zs_pf stp f = f)))) sh mi mr) zz_none := by
  refine zz_begin RX2 [(0, .ref b), (1, .int (nI f))] (by decide) rfl rfl (Nat.le_of_ble_eq_true rfl) rfl ?_
  intro Γ D E ad hX hr hN hT
  have hS0 := hS
  obtain ⟨s1, s2, s3, s4, s5, s6, s7, s8, s9, s10⟩ := hS
  obtain ⟨r1, r2, r3, r4, r5, r6, r7, r8, r9, r10, r11, r12, r13, r14, r15⟩ := s10
  refine zz_aload_n hX dX2_isHeld_0 0 rfl rfl ?_
  refine zz_iload_n hX dX2_isHeld_1 1 rfl rfl ?_
  refine zz_vI (x := nI (zs_pf stp f)) hX zf_M_X2_58 (As := [.int (nI f)]) (st := []) (k_posedFrame sh mi mr b p jn n stp k hj6 hn48 hS0 hfr hst hk hs2 hkn f (by omega)) s1 rfl rfl rfl (by decide) (Nat.le_of_ble_eq_true rfl) (Nat.le_of_ble_eq_true rfl) (Nat.le_of_ble_eq_true rfl) dX2_isHeld_2 ?_
  have h9 := zs_pf_le stp f
  refine zz_iload_n hX dX2_isHeld_5 1 rfl rfl ?_
  refine zz_icmp_eqN hX (by omega) (by omega) 13 dX2_isHeld_6 (by decide) (fun c6 => ?_) (fun c6 => ?_)
  · skip
    refine zz_iconst (v := nI 0) hX dX2_isHeld_13 rfl ?_
    refine zz_iret hX hr rfl (Nat.le_of_ble_eq_true rfl) (Nat.le_of_ble_eq_true rfl) dX2_isHeld_14 ?_
    exact ⟨by rw [zz_bi_f (fun h => h c6)]; rfl, rfl, rfl, rfl⟩
  · skip
    refine zz_iconst (v := nI 1) hX dX2_isHeld_9 rfl ?_
    refine zz_goto hX 14 dX2_isHeld_10 (by decide) ?_
    refine zz_iret hX hr rfl (Nat.le_of_ble_eq_true rfl) (Nat.le_of_ble_eq_true rfl) dX2_isHeld_14 ?_
    exact ⟨by rw [zz_bi_t c6]; rfl, rfl, rfl, rfl⟩

set_option maxRecDepth 20000 in
theorem k_isStruck (sh : zm_Sh) (mi : zm_Mi) (mr : zm_Mr) (b p jn n stp k : Nat) (hj6 : jn ≤ 6) (hn48 : n ≤ 48) (hS : zr_S sh mr b p jn n) (hfr : mi b 1 = nI n) (hst : mi b 2 = nI stp) (hk : mi (b + 5) 6 = nI k) (hs2 : stp ≤ 2) (hkn : k ≤ n) (x : Int32) : zz_Con yX2_isStruck (.code yX2_isStruck cX2_isStruck 2 (some Jvm.ClassFile.FieldType.boolean)) 0 0 0 [.ref b, .int x] sh mi mr (zz_q (some (.int (zz_bi (x < nI k)))) sh mi mr) zz_none := by
  refine zz_begin RX2 [(0, .ref b), (1, .int x)] (by decide) rfl rfl (Nat.le_of_ble_eq_true rfl) rfl ?_
  intro Γ D E ad hX hr hN hT
  have hS0 := hS
  obtain ⟨s1, s2, s3, s4, s5, s6, s7, s8, s9, s10⟩ := hS
  obtain ⟨r1, r2, r3, r4, r5, r6, r7, r8, r9, r10, r11, r12, r13, r14, r15⟩ := s10
  refine zz_iload_n hX dX2_isStruck_0 1 rfl rfl ?_
  refine zz_aload_n hX dX2_isStruck_1 0 rfl rfl ?_
  refine zz_getR (y := (b + 5)) hX zf_F_X2_54.r s1 rfl s5 dX2_isStruck_2 ?_
  refine zz_getI (x := nI k) hX zf_F_X2_62.r r1 rfl (hk) dX2_isStruck_5 ?_
  refine zz_icmp_ge hX 15 dX2_isStruck_8 (by decide) (fun c8 => ?_) (fun c8 => ?_)
  · skip
    refine zz_iconst (v := nI 0) hX dX2_isStruck_15 rfl ?_
    refine zz_iret hX hr rfl (Nat.le_of_ble_eq_true rfl) (Nat.le_of_ble_eq_true rfl) dX2_isStruck_16 ?_
    exact ⟨by rw [zz_bi_f (fun h => by rw [zs_lt] at h; rw [zs_le] at c8; omega)]; rfl, rfl, rfl, rfl⟩
  · skip
    refine zz_iconst (v := nI 1) hX dX2_isStruck_11 rfl ?_
    refine zz_goto hX 16 dX2_isStruck_12 (by decide) ?_
    refine zz_iret hX hr rfl (Nat.le_of_ble_eq_true rfl) (Nat.le_of_ble_eq_true rfl) dX2_isStruck_16 ?_
    exact ⟨by rw [zz_bi_t (zs_nle c8)]; rfl, rfl, rfl, rfl⟩

set_option maxRecDepth 20000 in
theorem k_hasBegun (sh : zm_Sh) (mi : zm_Mi) (mr : zm_Mr) (b p jn n stp k : Nat) (hj6 : jn ≤ 6) (hn48 : n ≤ 48) (hS : zr_S sh mr b p jn n) (hfr : mi b 1 = nI n) (hst : mi b 2 = nI stp) (hk : mi (b + 5) 6 = nI k) (hs2 : stp ≤ 2) (hkn : k ≤ n) : zz_Con yX2_hasBegun (.code yX2_hasBegun cX2_hasBegun 1 (some Jvm.ClassFile.FieldType.boolean)) 0 0 0 [.ref b] sh mi mr (zz_q (some (.int (zz_bi (0 < k)))) sh mi mr) zz_none := by
  refine zz_begin RX2 [(0, .ref b)] (by decide) rfl rfl (Nat.le_of_ble_eq_true rfl) rfl ?_
  intro Γ D E ad hX hr hN hT
  have hS0 := hS
  obtain ⟨s1, s2, s3, s4, s5, s6, s7, s8, s9, s10⟩ := hS
  obtain ⟨r1, r2, r3, r4, r5, r6, r7, r8, r9, r10, r11, r12, r13, r14, r15⟩ := s10
  refine zz_aload_n hX dX2_hasBegun_0 0 rfl rfl ?_
  refine zz_getR (y := (b + 5)) hX zf_F_X2_54.r s1 rfl s5 dX2_hasBegun_1 ?_
  refine zz_getI (x := nI k) hX zf_F_X2_62.r r1 rfl (hk) dX2_hasBegun_4 ?_
  refine zz_if_leN hX (by omega) 14 dX2_hasBegun_7 (by decide) (fun c7 => ?_) (fun c7 => ?_)
  · skip
    refine zz_iconst (v := nI 0) hX dX2_hasBegun_14 rfl ?_
    refine zz_iret hX hr rfl (Nat.le_of_ble_eq_true rfl) (Nat.le_of_ble_eq_true rfl) dX2_hasBegun_15 ?_
    exact ⟨by rw [zz_bi_f (by omega)]; rfl, rfl, rfl, rfl⟩
  · skip
    refine zz_iconst (v := nI 1) hX dX2_hasBegun_10 rfl ?_
    refine zz_goto hX 15 dX2_hasBegun_11 (by decide) ?_
    refine zz_iret hX hr rfl (Nat.le_of_ble_eq_true rfl) (Nat.le_of_ble_eq_true rfl) dX2_hasBegun_15 ?_
    exact ⟨by rw [zz_bi_t c7]; rfl, rfl, rfl, rfl⟩

set_option maxRecDepth 20000 in
theorem k_isDone (sh : zm_Sh) (mi : zm_Mi) (mr : zm_Mr) (b p jn n stp k : Nat) (hj6 : jn ≤ 6) (hn48 : n ≤ 48) (hS : zr_S sh mr b p jn n) (hfr : mi b 1 = nI n) (hst : mi b 2 = nI stp) (hk : mi (b + 5) 6 = nI k) (hs2 : stp ≤ 2) (hkn : k ≤ n) : zz_Con yX2_isDone (.code yX2_isDone cX2_isDone 1 (some Jvm.ClassFile.FieldType.boolean)) 0 0 0 [.ref b] sh mi mr (zz_q (some (.int (zz_bi (n ≤ k)))) sh mi mr) zz_none := by
  refine zz_begin RX2 [(0, .ref b)] (by decide) rfl rfl (Nat.le_of_ble_eq_true rfl) rfl ?_
  intro Γ D E ad hX hr hN hT
  have hS0 := hS
  obtain ⟨s1, s2, s3, s4, s5, s6, s7, s8, s9, s10⟩ := hS
  obtain ⟨r1, r2, r3, r4, r5, r6, r7, r8, r9, r10, r11, r12, r13, r14, r15⟩ := s10
  refine zz_aload_n hX dX2_isDone_0 0 rfl rfl ?_
  refine zz_getR (y := (b + 5)) hX zf_F_X2_54.r s1 rfl s5 dX2_isDone_1 ?_
  refine zz_getI (x := nI k) hX zf_F_X2_62.r r1 rfl (hk) dX2_isDone_4 ?_
  refine zz_aload_n hX dX2_isDone_7 0 rfl rfl ?_
  refine zz_getI (x := nI n) hX zf_F_X2_22.r s1 rfl (hfr) dX2_isDone_8 ?_
  refine zz_icmp_ltN hX (by omega) (by omega) 18 dX2_isDone_11 (by decide) (fun c11 => ?_) (fun c11 => ?_)
  · skip
    refine zz_iconst (v := nI 0) hX dX2_isDone_18 rfl ?_
    refine zz_iret hX hr rfl (Nat.le_of_ble_eq_true rfl) (Nat.le_of_ble_eq_true rfl) dX2_isDone_19 ?_
    exact ⟨by rw [zz_bi_f (by omega)]; rfl, rfl, rfl, rfl⟩
  · skip
    refine zz_iconst (v := nI 1) hX dX2_isDone_14 rfl ?_
    refine zz_goto hX 19 dX2_isDone_15 (by decide) ?_
    refine zz_iret hX hr rfl (Nat.le_of_ble_eq_true rfl) (Nat.le_of_ble_eq_true rfl) dX2_isDone_19 ?_
    exact ⟨by rw [zz_bi_t c11]; rfl, rfl, rfl, rfl⟩

set_option maxRecDepth 20000 in
theorem k_isUnderWay (sh : zm_Sh) (mi : zm_Mi) (mr : zm_Mr) (b p jn n stp k : Nat) (hj6 : jn ≤ 6) (hn48 : n ≤ 48) (hS : zr_S sh mr b p jn n) (hfr : mi b 1 = nI n) (hst : mi b 2 = nI stp) (hk : mi (b + 5) 6 = nI k) (hs2 : stp ≤ 2) (hkn : k ≤ n) : zz_Con yX2_isUnderWay (.code yX2_isUnderWay cX2_isUnderWay 1 (some Jvm.ClassFile.FieldType.boolean)) 1 0 0 [.ref b] sh mi mr (zz_q (some (.int (zz_bi (0 < k ∧ ¬ n ≤ k)))) sh mi mr) zz_none := by
  refine zz_begin RX2 [(0, .ref b)] (by decide) rfl rfl (Nat.le_of_ble_eq_true rfl) rfl ?_
  intro Γ D E ad hX hr hN hT
  have hS0 := hS
  obtain ⟨s1, s2, s3, s4, s5, s6, s7, s8, s9, s10⟩ := hS
  obtain ⟨r1, r2, r3, r4, r5, r6, r7, r8, r9, r10, r11, r12, r13, r14, r15⟩ := s10
  refine zz_aload_n hX dX2_isUnderWay_0 0 rfl rfl ?_
  refine zz_vI (x := zz_bi (0 < k)) hX zf_M_X2_65 (As := []) (st := []) (k_hasBegun sh mi mr b p jn n stp k hj6 hn48 hS0 hfr hst hk hs2 hkn) s1 rfl rfl rfl (by decide) (Nat.le_of_ble_eq_true rfl) (Nat.le_of_ble_eq_true rfl) (Nat.le_of_ble_eq_true rfl) dX2_isUnderWay_1 ?_
  refine zz_if_eqB hX 18 dX2_isUnderWay_4 (by decide) (fun c4 => ?_) (fun c4 => ?_)
  · skip
    refine zz_iconst (v := nI 0) hX dX2_isUnderWay_18 rfl ?_
    refine zz_iret hX hr rfl (Nat.le_of_ble_eq_true rfl) (Nat.le_of_ble_eq_true rfl) dX2_isUnderWay_19 ?_
    exact ⟨by rw [zz_bi_f (fun h => c4 h.1)]; rfl, rfl, rfl, rfl⟩
  · skip
    refine zz_aload_n hX dX2_isUnderWay_7 0 rfl rfl ?_
    refine zz_vI (x := zz_bi (n ≤ k)) hX zf_M_X2_69 (As := []) (st := []) (k_isDone sh mi mr b p jn n stp k hj6 hn48 hS0 hfr hst hk hs2 hkn) s1 rfl rfl rfl (by decide) (Nat.le_of_ble_eq_true rfl) (Nat.le_of_ble_eq_true rfl) (Nat.le_of_ble_eq_true rfl) dX2_isUnderWay_8 ?_
    refine zz_if_neB hX 18 dX2_isUnderWay_11 (by decide) (fun c11 => ?_) (fun c11 => ?_)
    · skip
      refine zz_iconst (v := nI 0) hX dX2_isUnderWay_18 rfl ?_
      refine zz_iret hX hr rfl (Nat.le_of_ble_eq_true rfl) (Nat.le_of_ble_eq_true rfl) dX2_isUnderWay_19 ?_
      exact ⟨by rw [zz_bi_f (fun h => h.2 c11)]; rfl, rfl, rfl, rfl⟩
    · skip
      refine zz_iconst (v := nI 1) hX dX2_isUnderWay_14 rfl ?_
      refine zz_goto hX 19 dX2_isUnderWay_15 (by decide) ?_
      refine zz_iret hX hr rfl (Nat.le_of_ble_eq_true rfl) (Nat.le_of_ble_eq_true rfl) dX2_isUnderWay_19 ?_
      exact ⟨by rw [zz_bi_t ⟨c4, c11⟩]; rfl, rfl, rfl, rfl⟩

set_option maxRecDepth 20000 in
theorem k_sheetDegree (sh : zm_Sh) (mi : zm_Mi) (mr : zm_Mr) (b p jn n stp k : Nat) (hj6 : jn ≤ 6) (hn48 : n ≤ 48) (hS : zr_S sh mr b p jn n) (hfr : mi b 1 = nI n) (hst : mi b 2 = nI stp) (hk : mi (b + 5) 6 = nI k) (hs2 : stp ≤ 2) (hkn : k ≤ n) (j : Nat) (hj : j < jn) (hgo : mi (b + 20 + 3 * j) 0 = nI 1) (f : Nat) (hf : f < n) : zz_Con yX2_sheetDegree (.code yX2_sheetDegree cX2_sheetDegree 3 (some Jvm.ClassFile.FieldType.int)) 4 0 0 [.ref b, .int (nI j), .int (nI f)] sh mi mr (zz_q (some (.int (zs_at zs_mixR mi (b + 20 + 3 * j) n (zs_pf stp f)))) sh mi mr) zz_none := by
  refine zz_begin RX2 [(0, .ref b), (1, .int (nI j)), (2, .int (nI f))] (by decide) rfl rfl (Nat.le_of_ble_eq_true rfl) rfl ?_
  intro Γ D E ad hX hr hN hT
  have hS0 := hS
  obtain ⟨s1, s2, s3, s4, s5, s6, s7, s8, s9, s10⟩ := hS
  obtain ⟨r1, r2, r3, r4, r5, r6, r7, r8, r9, r10, r11, r12, r13, r14, r15⟩ := s10
  have h9 := zs_pf_le stp f
  refine zz_aload_n hX dX2_sheetDegree_0 0 rfl rfl ?_
  refine zz_getR (y := (b + 1)) hX zf_F_X2_38.r s1 rfl s3 dX2_sheetDegree_1 ?_
  refine zz_iload_n hX dX2_sheetDegree_4 1 rfl rfl ?_
  refine zz_aald (y := (b + 20 + 3 * j)) hX s6 (by decide) (by decide) j rfl (by omega) (by omega) (s7 j hj) dX2_sheetDegree_5 ?_
  refine zz_aload_n hX dX2_sheetDegree_6 0 rfl rfl ?_
  refine zz_iload_n hX dX2_sheetDegree_7 2 rfl rfl ?_
  refine zz_vI (x := nI (zs_pf stp f)) hX zf_M_X2_58 (As := [.int (nI f)]) (st := [.ref (b + 20 + 3 * j)]) (k_posedFrame sh mi mr b p jn n stp k hj6 hn48 hS0 hfr hst hk hs2 hkn f (by omega)) s1 rfl rfl rfl (by decide) (Nat.le_of_ble_eq_true rfl) (Nat.le_of_ble_eq_true rfl) (Nat.le_of_ble_eq_true rfl) dX2_sheetDegree_8 ?_
  refine zz_vI (x := zs_at zs_mixR mi (b + 20 + 3 * j) n (zs_pf stp f)) hX zf_M_X2_72 (As := [.int (nI (zs_pf stp f))]) (st := []) (k_valueAtR sh mi mr (b + 20 + 3 * j) (b + 20 + 3 * j + 1) (b + 20 + 3 * j + 2) n hn48 (s8 j hj).1 (s8 j hj).2.1 (s8 j hj).2.2.1 (s8 j hj).2.2.2.1 (s8 j hj).2.2.2.2 hgo (zs_pf stp f) (by omega)) (s8 j hj).1 rfl rfl rfl (by decide) (Nat.le_of_ble_eq_true rfl) (Nat.le_of_ble_eq_true rfl) (Nat.le_of_ble_eq_true rfl) dX2_sheetDegree_11 ?_
  refine zz_iret hX hr rfl (Nat.le_of_ble_eq_true rfl) (Nat.le_of_ble_eq_true rfl) dX2_sheetDegree_14 ?_
  exact ⟨rfl, rfl, rfl, rfl⟩

set_option maxRecDepth 20000 in
theorem k_posedAsSheet (sh : zm_Sh) (mi : zm_Mi) (mr : zm_Mr) (b p jn n stp k : Nat) (hj6 : jn ≤ 6) (hn48 : n ≤ 48) (hS : zr_S sh mr b p jn n) (hfr : mi b 1 = nI n) (hst : mi b 2 = nI stp) (hk : mi (b + 5) 6 = nI k) (hs2 : stp ≤ 2) (hkn : k ≤ n) (hgo : ∀ j, j < jn → mi (b + 20 + 3 * j) 0 = nI 1) (f : Nat) (hf : f < n) : zz_Con yX2_posedAsSheet (.code yX2_posedAsSheet cX2_posedAsSheet 3 (some Jvm.ClassFile.FieldType.boolean)) 5 0 0 [.ref b, .int (nI f)] sh mi mr (zz_q (some (.int (zz_bi (zs_any (fun i => ¬ mi (b + 40 + i) f = zs_at zs_mixR mi (b + 20 + 3 * i) n (zs_pf stp f)) jn = false)))) sh mi mr) zz_none := by
  refine zz_begin RX2 [(0, .ref b), (1, .int (nI f))] (by decide) rfl rfl (Nat.le_of_ble_eq_true rfl) rfl ?_
  intro Γ D E ad hX hr hN hT
  have hS0 := hS
  obtain ⟨s1, s2, s3, s4, s5, s6, s7, s8, s9, s10⟩ := hS
  obtain ⟨r1, r2, r3, r4, r5, r6, r7, r8, r9, r10, r11, r12, r13, r14, r15⟩ := s10
  refine zz_iconst (v := nI 0) hX dX2_posedAsSheet_0 rfl ?_
  refine zz_istore_n (ls' := [(0, .ref b), (1, .int (nI f)), (2, .int (nI 0))]) hX dX2_posedAsSheet_1 rfl (Nat.le_of_ble_eq_true rfl) rfl ?_
  have L2 : ∀ (k2 : Nat) (i : Nat), jn - i < k2 → (i ≤ jn) → (∀ q, q < i → mi (b + 40 + q) f = zs_at zs_mixR mi (b + 20 + 3 * q) n (zs_pf stp f)) → zz Γ (D, E, 3, ad, sh) (zz_End Γ (D, E, 3, ad, sh) (zz_q (some (.int (zz_bi (zs_any (fun i => ¬ mi (b + 40 + i) f = zs_at zs_mixR mi (b + 20 + 3 * i) n (zs_pf stp f)) jn = false)))) sh mi mr) zz_none 0 0) 0 0 sh mi mr 2 [(0, .ref b), (1, .int (nI f)), (2, .int (nI i))] [] := by
    intro k2
    induction k2 with
    | zero => intro i hk2; exact absurd hk2 (Nat.not_lt_zero _)
    | succ k2 ih2 =>
      intro i hk2 hi hall
      refine zz_iload_n hX dX2_posedAsSheet_2 2 rfl rfl ?_
      refine zz_aload_n hX dX2_posedAsSheet_3 0 rfl rfl ?_
      refine zz_getR (y := (b + 1)) hX zf_F_X2_38.r s1 rfl s3 dX2_posedAsSheet_4 ?_
      refine zz_alen hX s6 (by decide) (by decide) dX2_posedAsSheet_7 ?_
      refine zz_icmp_geN hX (by omega) (by omega) 39 dX2_posedAsSheet_8 (by decide) (fun c8 => ?_) (fun c8 => ?_)
      · skip
        refine zz_iconst (v := nI 1) hX dX2_posedAsSheet_39 rfl ?_
        refine zz_iret hX hr rfl (Nat.le_of_ble_eq_true rfl) (Nat.le_of_ble_eq_true rfl) dX2_posedAsSheet_40 ?_
        exact ⟨by rw [zz_bi_t (by refine Bool.eq_false_iff.mpr (fun h => ?_); obtain ⟨q, h1, h2⟩ := (zs_any_iff _).mp h; exact h2 (hall q (by omega)))]; rfl, rfl, rfl, rfl⟩
      · skip
        refine zz_aload_n hX dX2_posedAsSheet_11 0 rfl rfl ?_
        refine zz_getR (y := (b + 5)) hX zf_F_X2_54.r s1 rfl s5 dX2_posedAsSheet_12 ?_
        refine zz_getR (y := (b + 6)) hX zf_F_X2_75 r1 rfl r2 dX2_posedAsSheet_15 ?_
        refine zz_iload_n hX dX2_posedAsSheet_18 2 rfl rfl ?_
        refine zz_aald (y := (b + 40 + i)) hX r8 (by decide) (by decide) i rfl (by omega) (by omega) (r14 i c8) dX2_posedAsSheet_19 ?_
        refine zz_iload_n hX dX2_posedAsSheet_20 1 rfl rfl ?_
        refine zz_iald (x := mi (b + 40 + i) f) hX (r15 i c8) f rfl (by omega) (by omega) rfl dX2_posedAsSheet_21 ?_
        refine zz_aload_n hX dX2_posedAsSheet_22 0 rfl rfl ?_
        refine zz_iload_n hX dX2_posedAsSheet_23 2 rfl rfl ?_
        refine zz_iload_n hX dX2_posedAsSheet_24 1 rfl rfl ?_
        refine zz_vI (x := zs_at zs_mixR mi (b + 20 + 3 * i) n (zs_pf stp f)) hX zf_M_X2_79 (As := [.int (nI i), .int (nI f)]) (st := [.int (mi (b + 40 + i) f)]) (k_sheetDegree sh mi mr b p jn n stp k hj6 hn48 hS0 hfr hst hk hs2 hkn i c8 (hgo i c8) f (by omega)) s1 rfl rfl rfl (by decide) (Nat.le_of_ble_eq_true rfl) (Nat.le_of_ble_eq_true rfl) (Nat.le_of_ble_eq_true rfl) dX2_posedAsSheet_25 ?_
        refine zz_icmp_eq hX 33 dX2_posedAsSheet_28 (by decide) (fun c28 => ?_) (fun c28 => ?_)
        · skip
          refine zz_iinc (v := nI (i + 1)) (ls' := [(0, .ref b), (1, .int (nI f)), (2, .int (nI (i + 1)))]) hX dX2_posedAsSheet_33 2 rfl (nI_1 _) (Nat.le_of_ble_eq_true rfl) rfl ?_
          refine zz_goto hX 2 dX2_posedAsSheet_36 (by decide) ?_
          exact ih2 (i + 1) (by omega) (by omega) (fun q hq => by
            by_cases e : q = i
            · rw [e]; exact c28
            · exact hall q (by omega))
        · skip
          refine zz_iconst (v := nI 0) hX dX2_posedAsSheet_31 rfl ?_
          refine zz_iret hX hr rfl (Nat.le_of_ble_eq_true rfl) (Nat.le_of_ble_eq_true rfl) dX2_posedAsSheet_32 ?_
          exact ⟨by rw [zz_bi_f (fun h => by rw [(zs_any_iff (p := (fun i => ¬ mi (b + 40 + i) f = zs_at zs_mixR mi (b + 20 + 3 * i) n (zs_pf stp f))) _).mpr ⟨i, c8, c28⟩] at h; cases h)]; rfl, rfl, rfl, rfl⟩
  exact L2 ((jn - 0 + 1)) 0 (by omega) (Nat.zero_le _) (fun q hq => absurd hq (Nat.not_lt_zero _))

