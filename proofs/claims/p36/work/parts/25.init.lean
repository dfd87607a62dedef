/-! ===== constructors ===== -/
def zr_ot (a b l : Nat) : Prop := l < a ∨ b < l
def zr_oR (b jn l : Nat) : Prop := l < b + 5 ∨ (b + 11 < l ∧ l < b + 40) ∨ b + 40 + jn ≤ l
theorem zk_nb {g : Nat} (h : g ≤ 1) : narrow .boolean (.int (nI g)) = .int (nI g) := by
  rcases (by omega : g = 0 ∨ g = 1) with rfl | rfl <;> rfl
theorem zk_fb {g : Nat} (h : g ≤ 1) : fits .boolean (.int (nI g)) = true := by
  rcases (by omega : g = 0 ∨ g = 1) with rfl | rfl <;> rfl
def zk_pP (sh : zm_Sh) (mi : zm_Mi) (mr : zm_Mr) (t jn : Nat) : Option Value → zm_Sh → zm_Mi → zm_Mr → Prop := fun v s i m => v = none ∧ zr_P s m t jn ∧ i t 0 = nI jn ∧ (∀ k, i (t + 1) k = 0) ∧ (∀ k, i (t + 2) k = 0) ∧ (∀ k, i (t + 3) k = 0) ∧ zr_same (zr_ot t (t + 3)) sh mi mr s i m
def zk_pV (sh : zm_Sh) (mi : zm_Mi) (mr : zm_Mr) (t : Nat) : Option Value → zm_Sh → zm_Mi → zm_Mr → Prop := fun v s i m => v = none ∧ zr_V s m t ∧ i t 2 = nI 0 ∧ zr_same (zr_ot t (t + 2)) sh mi mr s i m
def zk_pT (sh : zm_Sh) (mi : zm_Mi) (mr : zm_Mr) (t n g : Nat) : Option Value → zm_Sh → zm_Mi → zm_Mr → Prop := fun v s i m => v = none ∧ zr_T s m t n ∧ i t 0 = nI g ∧ (∀ k, i (t + 2) k = 0) ∧ zr_same (zr_ot t (t + 2)) sh mi mr s i m
def zk_pR (sh : zm_Sh) (mi : zm_Mi) (mr : zm_Mr) (b jn n : Nat) : Option Value → zm_Sh → zm_Mi → zm_Mr → Prop := fun v s i m => v = none ∧ zr_R s m b jn n ∧ i (b + 5) 6 = nI 0 ∧ zr_same (zr_oR b jn) sh mi mr s i m

set_option maxRecDepth 20000 in
theorem k_initP (sh : zm_Sh) (mi : zm_Mi) (mr : zm_Mr) (t jn : Nat) (hj : 1 ≤ jn ∧ jn ≤ 6) (ht : sh t = some (0, 0)) (hf : ∀ l, t < l → l ≤ t + 3 → sh l = none) : zz_Con yX0_init (.code yX0_init cX0_init 2 none) 1 3 22 [.ref t, .int (nI jn)] sh mi mr (zk_pP sh mi mr t jn) zz_none := by
  refine zz_begin RX0 [(0, .ref t), (1, .int (nI jn))] (by decide) rfl rfl (Nat.le_of_ble_eq_true rfl) rfl ?_
  intro Γ D E ad hX hr hN hT
  refine zz_aload_n hX dX0_init_0 0 rfl rfl ?_
  refine zz_objInit hX zf_M_X0_3 zw_oi zw_oc (by decide) (Nat.le_of_ble_eq_true rfl) dX0_init_1 ?_
  refine zz_aload_n hX dX0_init_4 0 rfl rfl ?_
  refine zz_bipush (v := nI 10) hX dX0_init_5 rfl ?_
  refine zz_newa hX (t + 3) (hf _ (by omega) (by omega)) (kd := 1) (n := 10) (Or.inl rfl) rfl zw_arr_int rfl (by omega) (by omega) (by omega) dX0_init_7 ?_
  refine zz_putRF hX hN zf_F_X0_9 ((zm_u1n (by omega)).trans ht) rfl (fun _ => rfl) (fun _ => rfl) dX0_init_9 ?_
  refine zz_aload_n hX dX0_init_12 0 rfl rfl ?_
  refine zz_iload_n hX dX0_init_13 1 rfl rfl ?_
  refine zz_putIF hX hN zf_F_X0_15 ((zm_u1n (by omega)).trans ht) rfl rfl rfl dX0_init_14 ?_
  refine zz_aload_n hX dX0_init_17 0 rfl rfl ?_
  refine zz_iload_n hX dX0_init_18 1 rfl rfl ?_
  refine zz_newa hX (t + 1) ((zm_u1n (by omega)).trans (hf _ (by omega) (by omega))) (kd := 1) (n := jn) (Or.inl rfl) rfl zw_arr_int rfl (by omega) (by omega) (by omega) dX0_init_19 ?_
  refine zz_putRF hX hN zf_F_X0_19 ((zm_u1n (by omega)).trans ((zm_u1n (by omega)).trans ht)) rfl (fun _ => rfl) (fun _ => rfl) dX0_init_21 ?_
  refine zz_aload_n hX dX0_init_24 0 rfl rfl ?_
  refine zz_iload_n hX dX0_init_25 1 rfl rfl ?_
  refine zz_newa hX (t + 2) ((zm_u1n (by omega)).trans ((zm_u1n (by omega)).trans (hf _ (by omega) (by omega)))) (kd := 1) (n := jn) (Or.inl rfl) rfl zw_arr_int rfl (by omega) (by omega) (by omega) dX0_init_26 ?_
  refine zz_putRF hX hN zf_F_X0_22 ((zm_u1n (by omega)).trans ((zm_u1n (by omega)).trans ((zm_u1n (by omega)).trans ht))) rfl (fun _ => rfl) (fun _ => rfl) dX0_init_28 ?_
  refine zz_vret hX hr (by omega) (by omega) dX0_init_31 ?_
  exact ⟨rfl, ⟨((zm_u1n (by omega)).trans ((zm_u1n (by omega)).trans ((zm_u1n (by omega)).trans ht))), ((zm_u2k (by decide)).trans ((congrFun (zm_u1n (by omega)) _).trans zm_u2s)), zm_u2s, ((zm_u2k (by decide)).trans ((congrFun (zm_u1n (by omega)) _).trans ((zm_u2k (by decide)).trans ((congrFun (zm_u1n (by omega)) _).trans zm_u2s)))), ((zm_u1n (by omega)).trans zm_u1s), zm_u1s, ((zm_u1n (by omega)).trans ((zm_u1n (by omega)).trans zm_u1s))⟩, (((congrFun (zm_u1n (by omega)) _)).trans (((congrFun (zm_u1n (by omega)) _)).trans (zm_u2s))), (fun k => congrFun (((zm_u1n (by omega))).trans (zm_u1s)) k), (fun k => congrFun (zm_u1s) k), (fun k => congrFun (((zm_u1n (by omega))).trans (((zm_u1n (by omega))).trans (((zm_u2r (by omega))).trans (zm_u1s)))) k), (fun l hl => by unfold zr_ot at hl; exact ⟨(((zm_u1n (by omega))).trans (((zm_u1n (by omega))).trans ((zm_u1n (by omega))))), (((zm_u1n (by omega))).trans (((zm_u1n (by omega))).trans (((zm_u2r (by omega))).trans ((zm_u1n (by omega)))))), (((zm_u2r (by omega))).trans (((zm_u1n (by omega))).trans (((zm_u2r (by omega))).trans (((zm_u1n (by omega))).trans (((zm_u2r (by omega))).trans ((zm_u1n (by omega))))))))⟩)⟩

set_option maxRecDepth 20000 in
theorem k_initV (sh : zm_Sh) (mi : zm_Mi) (mr : zm_Mr) (t : Nat) (ht : sh t = some (0, 4)) (hf : ∀ l, t < l → l ≤ t + 2 → sh l = none) : zz_Con yX4_init (.code yX4_init cX4_init 1 none) 1 2 24 [.ref t] sh mi mr (zk_pV sh mi mr t) zz_none := by
  refine zz_begin RX4 [(0, .ref t)] (by decide) rfl rfl (Nat.le_of_ble_eq_true rfl) rfl ?_
  intro Γ D E ad hX hr hN hT
  refine zz_aload_n hX dX4_init_0 0 rfl rfl ?_
  refine zz_objInit hX zf_M_X4_3 zw_oi zw_oc (by decide) (Nat.le_of_ble_eq_true rfl) dX4_init_1 ?_
  refine zz_aload_n hX dX4_init_4 0 rfl rfl ?_
  refine zz_bipush (v := nI 12) hX dX4_init_5 rfl ?_
  refine zz_newa hX (t + 1) (hf _ (by omega) (by omega)) (kd := 1) (n := 12) (Or.inl rfl) rfl zw_arr_int rfl (by omega) (by omega) (by omega) dX4_init_7 ?_
  refine zz_putRF hX hN zf_F_X4_9 ((zm_u1n (by omega)).trans ht) rfl (fun _ => rfl) (fun _ => rfl) dX4_init_9 ?_
  refine zz_aload_n hX dX4_init_12 0 rfl rfl ?_
  refine zz_bipush (v := nI 12) hX dX4_init_13 rfl ?_
  refine zz_newa hX (t + 2) ((zm_u1n (by omega)).trans (hf _ (by omega) (by omega))) (kd := 1) (n := 12) (Or.inl rfl) rfl zw_arr_int rfl (by omega) (by omega) (by omega) dX4_init_15 ?_
  refine zz_putRF hX hN zf_F_X4_15 ((zm_u1n (by omega)).trans ((zm_u1n (by omega)).trans ht)) rfl (fun _ => rfl) (fun _ => rfl) dX4_init_17 ?_
  refine zz_aload_n hX dX4_init_20 0 rfl rfl ?_
  refine zz_iconst (v := nI 0) hX dX4_init_21 rfl ?_
  refine zz_putI hX zf_F_X4_18 ((zm_u1n (by omega)).trans ((zm_u1n (by omega)).trans ht)) rfl rfl rfl dX4_init_22 ?_
  refine zz_vret hX hr (by omega) (by omega) dX4_init_25 ?_
  exact ⟨rfl, ⟨((zm_u1n (by omega)).trans ((zm_u1n (by omega)).trans ht)), ((zm_u2k (by decide)).trans ((congrFun (zm_u1n (by omega)) _).trans zm_u2s)), zm_u2s, ((zm_u1n (by omega)).trans zm_u1s), zm_u1s⟩, (zm_u2s), (fun l hl => by unfold zr_ot at hl; exact ⟨(((zm_u1n (by omega))).trans ((zm_u1n (by omega)))), (((zm_u2r (by omega))).trans (((zm_u1n (by omega))).trans ((zm_u1n (by omega))))), (((zm_u2r (by omega))).trans (((zm_u1n (by omega))).trans (((zm_u2r (by omega))).trans ((zm_u1n (by omega))))))⟩)⟩

set_option maxRecDepth 20000 in
theorem k_initT (sh : zm_Sh) (mi : zm_Mi) (mr : zm_Mr) (t n g : Nat) (hg : g ≤ 1) (hn : n ≤ 48) (ht : sh t = some (0, 3)) (hf : ∀ l, t < l → l ≤ t + 2 → sh l = none) : zz_Con yX3_init (.code yX3_init cX3_init 3 none) 1 2 96 [.ref t, .int (nI n), .int (nI g)] sh mi mr (zk_pT sh mi mr t n g) zz_none := by
  refine zz_begin RX3 [(0, .ref t), (1, .int (nI n)), (2, .int (nI g))] (by decide) rfl rfl (Nat.le_of_ble_eq_true rfl) rfl ?_
  intro Γ D E ad hX hr hN hT
  refine zz_aload_n hX dX3_init_0 0 rfl rfl ?_
  refine zz_objInit hX zf_M_X3_3 zw_oi zw_oc (by decide) (Nat.le_of_ble_eq_true rfl) dX3_init_1 ?_
  refine zz_aload_n hX dX3_init_4 0 rfl rfl ?_
  refine zz_iload_n hX dX3_init_5 2 rfl rfl ?_
  refine zz_putIF hX hN zf_F_X3_9 ht rfl (zk_nb hg) (zk_fb hg) dX3_init_6 ?_
  refine zz_aload_n hX dX3_init_9 0 rfl rfl ?_
  refine zz_iload_n hX dX3_init_10 1 rfl rfl ?_
  refine zz_newa hX (t + 1) (hf _ (by omega) (by omega)) (kd := 1) (n := n) (Or.inl rfl) rfl zw_arr_int rfl (by omega) (by omega) (by omega) dX3_init_11 ?_
  refine zz_putRF hX hN zf_F_X3_15 ((zm_u1n (by omega)).trans ht) rfl (fun _ => rfl) (fun _ => rfl) dX3_init_13 ?_
  refine zz_aload_n hX dX3_init_16 0 rfl rfl ?_
  refine zz_iload_n hX dX3_init_17 1 rfl rfl ?_
  refine zz_newa hX (t + 2) ((zm_u1n (by omega)).trans (hf _ (by omega) (by omega))) (kd := 2) (n := n) (Or.inr (Or.inl rfl)) rfl zw_arr_boolean rfl (by omega) (by omega) (by omega) dX3_init_18 ?_
  refine zz_putRF hX hN zf_F_X3_19 ((zm_u1n (by omega)).trans ((zm_u1n (by omega)).trans ht)) rfl (fun _ => rfl) (fun _ => rfl) dX3_init_20 ?_
  refine zz_vret hX hr (by omega) (by omega) dX3_init_23 ?_
  exact ⟨rfl, ⟨((zm_u1n (by omega)).trans ((zm_u1n (by omega)).trans ht)), ((zm_u2k (by decide)).trans ((congrFun (zm_u1n (by omega)) _).trans zm_u2s)), zm_u2s, ((zm_u1n (by omega)).trans zm_u1s), zm_u1s⟩, (((congrFun (zm_u1n (by omega)) _)).trans (((congrFun (zm_u1n (by omega)) _)).trans (zm_u2s))), (fun k => congrFun (zm_u1s) k), (fun l hl => by unfold zr_ot at hl; exact ⟨(((zm_u1n (by omega))).trans ((zm_u1n (by omega)))), (((zm_u1n (by omega))).trans (((zm_u1n (by omega))).trans ((zm_u2r (by omega))))), (((zm_u2r (by omega))).trans (((zm_u1n (by omega))).trans (((zm_u2r (by omega))).trans ((zm_u1n (by omega))))))⟩)⟩

set_option maxRecDepth 20000 in
theorem k_initR (sh : zm_Sh) (mi : zm_Mi) (mr : zm_Mr) (b jn n : Nat) (hj6 : jn ≤ 6) (hn : n ≤ 48) (ht : sh (b + 5) = some (0, 1)) (hf : ∀ l, (b + 5 < l ∧ l ≤ b + 11) ∨ (b + 40 ≤ l ∧ l < b + 46) → sh l = none) : zz_Con yX1_init (.code yX1_init cX1_init 3 none) 1 12 540 [.ref (b + 5), .int (nI jn), .int (nI n)] sh mi mr (zk_pR sh mi mr b jn n) zz_none := by
  refine zz_begin RX1 [(0, .ref (b + 5)), (1, .int (nI jn)), (2, .int (nI n))] (by decide) rfl rfl (Nat.le_of_ble_eq_true rfl) rfl ?_
  intro Γ D E ad hX hr hN hT
  have hnn : jn * n ≤ 6 * 48 := Nat.mul_le_mul hj6 hn
  have hroom : 0 + (jn + jn * n) ≤ 540 := by omega
  have hnn2 : ∃ w, jn * n = w ∧ w ≤ 288 := ⟨_, rfl, by omega⟩
  obtain ⟨w, hw1, hw2⟩ := hnn2
  refine zz_aload_n hX dX1_init_0 0 rfl rfl ?_
  refine zz_objInit hX zf_M_X1_3 zw_oi zw_oc (by decide) (Nat.le_of_ble_eq_true rfl) dX1_init_1 ?_
  refine zz_aload_n hX dX1_init_4 0 rfl rfl ?_
  refine zz_iconst (v := nI 0) hX dX1_init_5 rfl ?_
  refine zz_putI hX zf_F_X1_9 ht rfl rfl rfl dX1_init_6 ?_
  refine zz_aload_n hX dX1_init_9 0 rfl rfl ?_
  refine zz_iload_n hX dX1_init_10 1 rfl rfl ?_
  refine zz_iload_n hX dX1_init_11 2 rfl rfl ?_
  refine zz_mna hX (b + 6) (b + 40) (N := jn) (K := n) (hf _ (by omega)) (fun j hj => (hf _ (by omega))) (by omega) zw_cl_X1_15 rfl rfl (by omega) (by omega) (by omega) hroom dX1_init_12 ?_
  refine zz_putRF hX hN zf_F_X1_17 ((zm_mshO (by omega) (by omega)).trans ht) rfl (fun _ => rfl) (fun _ => rfl) dX1_init_16 ?_
  refine zz_aload_n hX dX1_init_19 0 rfl rfl ?_
  refine zz_iload_n hX dX1_init_20 2 rfl rfl ?_
  refine zz_newa hX (b + 7) ((zm_mshO (by omega) (by omega)).trans (hf _ (by omega))) (kd := 1) (n := n) (Or.inl rfl) rfl zw_arr_int rfl (by omega) (by omega) (by omega) dX1_init_21 ?_
  refine zz_putRF hX hN zf_F_X1_20 ((zm_u1n (by omega)).trans ((zm_mshO (by omega) (by omega)).trans ht)) rfl (fun _ => rfl) (fun _ => rfl) dX1_init_23 ?_
  refine zz_aload_n hX dX1_init_26 0 rfl rfl ?_
  refine zz_iload_n hX dX1_init_27 2 rfl rfl ?_
  refine zz_newa hX (b + 8) ((zm_u1n (by omega)).trans ((zm_mshO (by omega) (by omega)).trans (hf _ (by omega)))) (kd := 1) (n := n) (Or.inl rfl) rfl zw_arr_int rfl (by omega) (by omega) (by omega) dX1_init_28 ?_
  refine zz_putRF hX hN zf_F_X1_24 ((zm_u1n (by omega)).trans ((zm_u1n (by omega)).trans ((zm_mshO (by omega) (by omega)).trans ht))) rfl (fun _ => rfl) (fun _ => rfl) dX1_init_30 ?_
  refine zz_aload_n hX dX1_init_33 0 rfl rfl ?_
  refine zz_iload_n hX dX1_init_34 2 rfl rfl ?_
  refine zz_newa hX (b + 9) ((zm_u1n (by omega)).trans ((zm_u1n (by omega)).trans ((zm_mshO (by omega) (by omega)).trans (hf _ (by omega))))) (kd := 1) (n := n) (Or.inl rfl) rfl zw_arr_int rfl (by omega) (by omega) (by omega) dX1_init_35 ?_
  refine zz_putRF hX hN zf_F_X1_27 ((zm_u1n (by omega)).trans ((zm_u1n (by omega)).trans ((zm_u1n (by omega)).trans ((zm_mshO (by omega) (by omega)).trans ht)))) rfl (fun _ => rfl) (fun _ => rfl) dX1_init_37 ?_
  refine zz_aload_n hX dX1_init_40 0 rfl rfl ?_
  refine zz_iload_n hX dX1_init_41 2 rfl rfl ?_
  refine zz_newa hX (b + 10) ((zm_u1n (by omega)).trans ((zm_u1n (by omega)).trans ((zm_u1n (by omega)).trans ((zm_mshO (by omega) (by omega)).trans (hf _ (by omega)))))) (kd := 1) (n := n) (Or.inl rfl) rfl zw_arr_int rfl (by omega) (by omega) (by omega) dX1_init_42 ?_
  refine zz_putRF hX hN zf_F_X1_30 ((zm_u1n (by omega)).trans ((zm_u1n (by omega)).trans ((zm_u1n (by omega)).trans ((zm_u1n (by omega)).trans ((zm_mshO (by omega) (by omega)).trans ht))))) rfl (fun _ => rfl) (fun _ => rfl) dX1_init_44 ?_
  refine zz_aload_n hX dX1_init_47 0 rfl rfl ?_
  refine zz_iload_n hX dX1_init_48 2 rfl rfl ?_
  refine zz_newa hX (b + 11) ((zm_u1n (by omega)).trans ((zm_u1n (by omega)).trans ((zm_u1n (by omega)).trans ((zm_u1n (by omega)).trans ((zm_mshO (by omega) (by omega)).trans (hf _ (by omega))))))) (kd := 1) (n := n) (Or.inl rfl) rfl zw_arr_int rfl (by omega) (by omega) (by omega) dX1_init_49 ?_
  refine zz_putRF hX hN zf_F_X1_33 ((zm_u1n (by omega)).trans ((zm_u1n (by omega)).trans ((zm_u1n (by omega)).trans ((zm_u1n (by omega)).trans ((zm_u1n (by omega)).trans ((zm_mshO (by omega) (by omega)).trans ht)))))) rfl (fun _ => rfl) (fun _ => rfl) dX1_init_51 ?_
  refine zz_vret hX hr (by omega) (by omega) dX1_init_54 ?_
  exact ⟨rfl, ⟨((zm_u1n (by omega)).trans ((zm_u1n (by omega)).trans ((zm_u1n (by omega)).trans ((zm_u1n (by omega)).trans ((zm_u1n (by omega)).trans ((zm_mshO (by omega) (by omega)).trans ht)))))), ((zm_u2k (by decide)).trans ((congrFun (zm_u1n (by omega)) _).trans ((zm_u2k (by decide)).trans ((congrFun (zm_u1n (by omega)) _).trans ((zm_u2k (by decide)).trans ((congrFun (zm_u1n (by omega)) _).trans ((zm_u2k (by decide)).trans ((congrFun (zm_u1n (by omega)) _).trans ((zm_u2k (by decide)).trans ((congrFun (zm_u1n (by omega)) _).trans zm_u2s)))))))))), ((zm_u2k (by decide)).trans ((congrFun (zm_u1n (by omega)) _).trans ((zm_u2k (by decide)).trans ((congrFun (zm_u1n (by omega)) _).trans ((zm_u2k (by decide)).trans ((congrFun (zm_u1n (by omega)) _).trans ((zm_u2k (by decide)).trans ((congrFun (zm_u1n (by omega)) _).trans zm_u2s)))))))), ((zm_u2k (by decide)).trans ((congrFun (zm_u1n (by omega)) _).trans ((zm_u2k (by decide)).trans ((congrFun (zm_u1n (by omega)) _).trans ((zm_u2k (by decide)).trans ((congrFun (zm_u1n (by omega)) _).trans zm_u2s)))))), ((zm_u2k (by decide)).trans ((congrFun (zm_u1n (by omega)) _).trans ((zm_u2k (by decide)).trans ((congrFun (zm_u1n (by omega)) _).trans zm_u2s)))), ((zm_u2k (by decide)).trans ((congrFun (zm_u1n (by omega)) _).trans zm_u2s)), zm_u2s, ((zm_u1n (by omega)).trans ((zm_u1n (by omega)).trans ((zm_u1n (by omega)).trans ((zm_u1n (by omega)).trans ((zm_u1n (by omega)).trans zm_mshL))))), ((zm_u1n (by omega)).trans ((zm_u1n (by omega)).trans ((zm_u1n (by omega)).trans ((zm_u1n (by omega)).trans zm_u1s)))), ((zm_u1n (by omega)).trans ((zm_u1n (by omega)).trans ((zm_u1n (by omega)).trans zm_u1s))), ((zm_u1n (by omega)).trans ((zm_u1n (by omega)).trans zm_u1s)), ((zm_u1n (by omega)).trans zm_u1s), zm_u1s, (fun j hj => (((zm_u2l (by omega))).trans (((congrFun (zm_u1n (by omega)) _)).trans (((zm_u2l (by omega))).trans (((congrFun (zm_u1n (by omega)) _)).trans (((zm_u2l (by omega))).trans (((congrFun (zm_u1n (by omega)) _)).trans (((zm_u2l (by omega))).trans (((congrFun (zm_u1n (by omega)) _)).trans (((zm_u2l (by omega))).trans (((congrFun (zm_u1n (by omega)) _)).trans (((zm_u2l (by omega))).trans ((zm_mmrL hj)))))))))))))), (fun j hj => (((zm_u1n (by omega))).trans (((zm_u1n (by omega))).trans (((zm_u1n (by omega))).trans (((zm_u1n (by omega))).trans (((zm_u1n (by omega))).trans ((zm_mshI (by omega) hj))))))))⟩, (((congrFun (zm_u1n (by omega)) _)).trans (((congrFun (zm_u1n (by omega)) _)).trans (((congrFun (zm_u1n (by omega)) _)).trans (((congrFun (zm_u1n (by omega)) _)).trans (((congrFun (zm_u1n (by omega)) _)).trans (((congrFun (zm_mmiO (by omega) (by omega)) _)).trans (zm_u2s))))))), (fun l hl => by unfold zr_oR at hl; exact ⟨(((zm_u1n (by omega))).trans (((zm_u1n (by omega))).trans (((zm_u1n (by omega))).trans (((zm_u1n (by omega))).trans (((zm_u1n (by omega))).trans ((zm_mshO (by omega) (by omega)))))))), (((zm_u1n (by omega))).trans (((zm_u1n (by omega))).trans (((zm_u1n (by omega))).trans (((zm_u1n (by omega))).trans (((zm_u1n (by omega))).trans (((zm_mmiO (by omega) (by omega))).trans ((zm_u2r (by omega))))))))), (((zm_u2r (by omega))).trans (((zm_u1n (by omega))).trans (((zm_u2r (by omega))).trans (((zm_u1n (by omega))).trans (((zm_u2r (by omega))).trans (((zm_u1n (by omega))).trans (((zm_u2r (by omega))).trans (((zm_u1n (by omega))).trans (((zm_u2r (by omega))).trans (((zm_u1n (by omega))).trans (((zm_u2r (by omega))).trans ((zm_mmrO (by omega) (by omega))))))))))))))⟩)⟩

