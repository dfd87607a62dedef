/-! ===== the law's small methods ===== -/
section ZL3
variable {n : Nat} {S : zS} {sh : zm_Sh} {mi : zm_Mi} {mr : zm_Mr}
theorem ql_g0 (h : ql_I n S sh mi) : mi 109 0 = nI (zv_np S) := (ql_Ng h).1.trans (ql_W h).1.1
theorem ql_g1 (h : ql_I n S sh mi) : mi 109 1 = nI (zv_nv S) := (ql_Ng h).2.1.trans (ql_W h).2.1.1
theorem ql_g2 (h : ql_I n S sh mi) : mi 109 2 = nI (zv_ns S) := (ql_Ng h).2.2.1.trans (ql_W h).2.2.1.1
theorem ql_g3 (h : ql_I n S sh mi) : mi 109 3 = S 20 0 := (ql_Ng h).2.2.2.1
theorem ql_g4 (h : ql_I n S sh mi) : mi 109 4 = S 21 0 := (ql_Ng h).2.2.2.2.1
theorem ql_g5 (h : ql_I n S sh mi) : mi 109 5 = nI (ql_iw S) := (ql_Ng h).2.2.2.2.2.1
theorem ql_g6 (h : ql_I n S sh mi) : mi 109 6 = nI (ql_dw S (zv_nf S) 0) := (ql_Ng h).2.2.2.2.2.2
theorem ql_g100 (h : ql_I n S sh mi) {p : Nat} (hp : p < zv_np S) : mi 100 p = nI (zv_jn S p) := (ql_Np h p hp).trans ((ql_W h).1.2.2.1 p hp).1
theorem ql_g103 (h : ql_I n S sh mi) {w : Nat} (hw : w < 3) : mi 103 (18 + w) = nI (zv_sc S w) := ((ql_Nv h).1 w hw).trans ((ql_W h).2.1.2.2.1 w (by omega)).1
end ZL3
set_option maxRecDepth 20000 in
theorem Q_isHeld (n : Nat) (S : zS) (sh : zm_Sh) (mi : zm_Mi) (mr : zm_Mr) (hI : ql_I n S sh mi) (i : Nat) (hi : i < zv_ns S) (f : Nat) (hf : f < 1000) : zz_Con yL_isHeld (.code yL_isHeld cL_isHeld 3 (some Jvm.ClassFile.FieldType.boolean)) 0 0 0 [.ref 104, .int (nI i), .int (nI f)] sh mi mr (zz_q (some (.int (zz_bi (zp_held S i f)))) sh mi mr) zz_none := by
  refine zz_begin RL [(0, .ref 104), (1, .int (nI i)), (2, .int (nI f))] (by decide) rfl rfl (Nat.le_of_ble_eq_true rfl) rfl ?_
  intro Γ D E ad hX hr hN hT
  have hw9 := ql_hw_lt hI hi
  obtain ⟨q1, q2, q3, q4, q5, q6, q7, q8, q9, q10, q11, q12⟩ := ql_shot hI hi
  refine zz_aload_n hX dL_isHeld_0 0 rfl rfl ?_
  refine zz_iload_n hX dL_isHeld_1 1 rfl rfl ?_
  refine zz_iald (x := nI (ql_hw S i)) hX (ql_s104 hI) i rfl (by omega) (by decide) ((ql_rd_h hI (by omega))) dL_isHeld_2 ?_
  refine zz_bipush (v := nI 32) hX dL_isHeld_3 rfl ?_
  refine zz_idiv (z := nI ((ql_hw S i) / 32)) hX dL_isHeld_5 (by decide) (pk_div (by omega) (by decide) (by decide)) ?_
  refine zz_iconst (v := nI 4) hX dL_isHeld_6 rfl ?_
  refine zz_irem (z := nI (((ql_hw S i) / 32) % 4)) hX dL_isHeld_7 (by decide) (pk_rem (by omega) (by decide) (by decide)) ?_
  refine zz_iconst (v := nI 2) hX dL_isHeld_8 rfl ?_
  refine zz_icmp_neN hX (by omega) (by decide) 23 dL_isHeld_9 (by decide) (fun c9 => ?_) (fun c9 => ?_)
  · skip
    refine zz_iconst (v := nI 0) hX dL_isHeld_23 rfl ?_
    refine zz_iret hX hr rfl (Nat.le_of_ble_eq_true rfl) (Nat.le_of_ble_eq_true rfl) dL_isHeld_24 ?_
    have e_st := ql_hw_st hI hi
    exact ⟨congrArg (fun z => some (Value.int z)) (zz_bi_F (fun h => by have h2 := zs_held_iff.mp h; omega)), rfl, rfl, rfl⟩
  · skip
    refine zz_iload_n hX dL_isHeld_12 2 rfl rfl ?_
    refine zz_iconst (v := nI 2) hX dL_isHeld_13 rfl ?_
    refine zz_irem (z := nI (f % 2)) hX dL_isHeld_14 (by decide) (pk_rem (by omega) (by decide) (by decide)) ?_
    refine zz_iconst (v := nI 1) hX dL_isHeld_15 rfl ?_
    refine zz_icmp_neN hX (by omega) (by decide) 23 dL_isHeld_16 (by decide) (fun c16 => ?_) (fun c16 => ?_)
    · skip
      refine zz_iconst (v := nI 0) hX dL_isHeld_23 rfl ?_
      refine zz_iret hX hr rfl (Nat.le_of_ble_eq_true rfl) (Nat.le_of_ble_eq_true rfl) dL_isHeld_24 ?_
      have e_st := ql_hw_st hI hi
      exact ⟨congrArg (fun z => some (Value.int z)) (zz_bi_F (fun h => by have h2 := zs_held_iff.mp h; omega)), rfl, rfl, rfl⟩
    · skip
      refine zz_iconst (v := nI 1) hX dL_isHeld_19 rfl ?_
      refine zz_goto hX 24 dL_isHeld_20 (by decide) ?_
      refine zz_iret hX hr rfl (Nat.le_of_ble_eq_true rfl) (Nat.le_of_ble_eq_true rfl) dL_isHeld_24 ?_
      have e_st := ql_hw_st hI hi
      exact ⟨congrArg (fun z => some (Value.int z)) (zz_bi_T (zs_held_iff.mpr (by omega))), rfl, rfl, rfl⟩

set_option maxRecDepth 20000 in
theorem Q_frames (n : Nat) (S : zS) (sh : zm_Sh) (mi : zm_Mi) (mr : zm_Mr) (hI : ql_I n S sh mi) (i : Nat) (hi : i < zv_ns S) : zz_Con yL_frames (.code yL_frames cL_frames 2 (some Jvm.ClassFile.FieldType.int)) 0 0 0 [.ref 104, .int (nI i)] sh mi mr (zz_q (some (.int (nI (zv_fr S i)))) sh mi mr) zz_none := by
  refine zz_begin RL [(0, .ref 104), (1, .int (nI i))] (by decide) rfl rfl (Nat.le_of_ble_eq_true rfl) rfl ?_
  intro Γ D E ad hX hr hN hT
  have hw9 := ql_hw_lt hI hi
  obtain ⟨q1, q2, q3, q4, q5, q6, q7, q8, q9, q10, q11, q12⟩ := ql_shot hI hi
  refine zz_aload_n hX dL_frames_0 0 rfl rfl ?_
  refine zz_iload_n hX dL_frames_1 1 rfl rfl ?_
  refine zz_iald (x := nI (ql_hw S i)) hX (ql_s104 hI) i rfl (by omega) (by decide) ((ql_rd_h hI (by omega))) dL_frames_2 ?_
  refine zz_iconst (v := nI 4) hX dL_frames_3 rfl ?_
  refine zz_idiv (z := nI ((ql_hw S i) / 4)) hX dL_frames_4 (by decide) (pk_div (by omega) (by decide) (by decide)) ?_
  refine zz_bipush (v := nI 8) hX dL_frames_5 rfl ?_
  refine zz_irem (z := nI (((ql_hw S i) / 4) % 8)) hX dL_frames_7 (by decide) (pk_rem (by omega) (by decide) (by decide)) ?_
  refine zz_iret hX hr rfl (Nat.le_of_ble_eq_true rfl) (Nat.le_of_ble_eq_true rfl) dL_frames_8 ?_
  exact ⟨congrArg (fun z => some (Value.int z)) (congrArg nI (ql_hw_fr hI hi)), rfl, rfl, rfl⟩

set_option maxRecDepth 20000 in
theorem Q_struck (n : Nat) (S : zS) (sh : zm_Sh) (mi : zm_Mi) (mr : zm_Mr) (hI : ql_I n S sh mi) (i : Nat) (hi : i < zv_ns S) : zz_Con yL_struck (.code yL_struck cL_struck 2 (some Jvm.ClassFile.FieldType.int)) 0 0 0 [.ref 104, .int (nI i)] sh mi mr (zz_q (some (.int (nI (zv_sk S i)))) sh mi mr) zz_none := by
  refine zz_begin RL [(0, .ref 104), (1, .int (nI i))] (by decide) rfl rfl (Nat.le_of_ble_eq_true rfl) rfl ?_
  intro Γ D E ad hX hr hN hT
  have hw9 := ql_hw_lt hI hi
  obtain ⟨q1, q2, q3, q4, q5, q6, q7, q8, q9, q10, q11, q12⟩ := ql_shot hI hi
  refine zz_aload_n hX dL_struck_0 0 rfl rfl ?_
  refine zz_iload_n hX dL_struck_1 1 rfl rfl ?_
  refine zz_iald (x := nI (ql_hw S i)) hX (ql_s104 hI) i rfl (by omega) (by decide) ((ql_rd_h hI (by omega))) dL_struck_2 ?_
  refine zz_sipush (v := nI 8192) hX dL_struck_3 rfl ?_
  refine zz_idiv (z := nI ((ql_hw S i) / 8192)) hX dL_struck_6 (by decide) (pk_div (by omega) (by decide) (by decide)) ?_
  refine zz_iret hX hr rfl (Nat.le_of_ble_eq_true rfl) (Nat.le_of_ble_eq_true rfl) dL_struck_7 ?_
  exact ⟨congrArg (fun z => some (Value.int z)) (congrArg nI (ql_hw_sk hI hi)), rfl, rfl, rfl⟩

theorem Q_frames11 (n : Nat) (S : zS) (sh : zm_Sh) (mi : zm_Mi) (mr : zm_Mr) (hI : ql_I n S sh mi) (i : Nat) (hi : i < zv_ns S) : zz_Con yL_frames (.code yL_frames cL_frames 2 (some Jvm.ClassFile.FieldType.int)) 0 0 0 [.ref 104, .int (nI i)] sh mi mr (zz_q (some (.int (S 11 i))) sh mi mr) zz_none := by
  rw [((ql_W hI).2.2.1.2.2.1 i hi).2.2.1]
  exact Q_frames n S sh mi mr hI i hi
set_option maxRecDepth 20000 in
theorem Q_isOn (n : Nat) (S : zS) (sh : zm_Sh) (mi : zm_Mi) (mr : zm_Mr) (hI : ql_I n S sh mi) (i : Nat) (hi : i < zv_ns S) : zz_Con yL_isOn (.code yL_isOn cL_isOn 2 (some Jvm.ClassFile.FieldType.boolean)) 1 0 0 [.ref 104, .int (nI i)] sh mi mr (zz_q (some (.int (zz_bi (zp_on S i)))) sh mi mr) zz_none := by
  refine zz_begin RL [(0, .ref 104), (1, .int (nI i))] (by decide) rfl rfl (Nat.le_of_ble_eq_true rfl) rfl ?_
  intro Γ D E ad hX hr hN hT
  have hw9 := ql_hw_lt hI hi
  obtain ⟨q1, q2, q3, q4, q5, q6, q7, q8, q9, q10, q11, q12⟩ := ql_shot hI hi
  refine zz_aload_n hX dL_isOn_0 0 rfl rfl ?_
  refine zz_iload_n hX dL_isOn_1 1 rfl rfl ?_
  refine zz_sI (x := nI (zv_sk S i)) hX zf_M_L_101 (As := [.ref 104, .int (nI i)]) (st := []) (Q_struck n S sh mi mr hI i (by omega)) rfl rfl (by decide) (Nat.le_of_ble_eq_true rfl) (Nat.le_of_ble_eq_true rfl) (Nat.le_of_ble_eq_true rfl) dL_isOn_2 ?_
  refine zz_if_leN hX (by omega) 25 dL_isOn_5 (by decide) (fun c5 => ?_) (fun c5 => ?_)
  · skip
    refine zz_iconst (v := nI 0) hX dL_isOn_25 rfl ?_
    refine zz_iret hX hr rfl (Nat.le_of_ble_eq_true rfl) (Nat.le_of_ble_eq_true rfl) dL_isOn_26 ?_
    exact ⟨congrArg (fun z => some (Value.int z)) (zz_bi_F (fun h => by have h1 := h.1; omega)), rfl, rfl, rfl⟩
  · skip
    refine zz_aload_n hX dL_isOn_8 0 rfl rfl ?_
    refine zz_iload_n hX dL_isOn_9 1 rfl rfl ?_
    refine zz_sI (x := nI (zv_sk S i)) hX zf_M_L_101 (As := [.ref 104, .int (nI i)]) (st := []) (Q_struck n S sh mi mr hI i (by omega)) rfl rfl (by decide) (Nat.le_of_ble_eq_true rfl) (Nat.le_of_ble_eq_true rfl) (Nat.le_of_ble_eq_true rfl) dL_isOn_10 ?_
    refine zz_aload_n hX dL_isOn_13 0 rfl rfl ?_
    refine zz_iload_n hX dL_isOn_14 1 rfl rfl ?_
    refine zz_sI (x := nI (zv_fr S i)) hX zf_M_L_105 (As := [.ref 104, .int (nI i)]) (st := [.int (nI (zv_sk S i))]) (Q_frames n S sh mi mr hI i (by omega)) rfl rfl (by decide) (Nat.le_of_ble_eq_true rfl) (Nat.le_of_ble_eq_true rfl) (Nat.le_of_ble_eq_true rfl) dL_isOn_15 ?_
    refine zz_icmp_geN hX (by omega) (by omega) 25 dL_isOn_18 (by decide) (fun c18 => ?_) (fun c18 => ?_)
    · skip
      refine zz_iconst (v := nI 0) hX dL_isOn_25 rfl ?_
      refine zz_iret hX hr rfl (Nat.le_of_ble_eq_true rfl) (Nat.le_of_ble_eq_true rfl) dL_isOn_26 ?_
      exact ⟨congrArg (fun z => some (Value.int z)) (zz_bi_F (fun h => by have h1 := h.2; omega)), rfl, rfl, rfl⟩
    · skip
      refine zz_iconst (v := nI 1) hX dL_isOn_21 rfl ?_
      refine zz_goto hX 26 dL_isOn_22 (by decide) ?_
      refine zz_iret hX hr rfl (Nat.le_of_ble_eq_true rfl) (Nat.le_of_ble_eq_true rfl) dL_isOn_26 ?_
      exact ⟨congrArg (fun z => some (Value.int z)) (zz_bi_T ⟨by omega, by omega⟩), rfl, rfl, rfl⟩

theorem ql_light {n : Nat} {S : zS} (h : zv_in (S 21 0) 0 n) (hn : n ≤ 64) : nI 1000 - S 21 0 / nI 3 = zp_light S ∧ ¬ nI 1499 < S 21 0 := by
  unfold zv_in at h
  have t5 : (nI 500).toInt = 500 := nI_toInt (by decide)
  have t10 : (nI 1000).toInt = 1000 := nI_toInt (by decide)
  have t14 : (nI 1499).toInt = 1499 := nI_toInt (by decide)
  have e1 : (S 21 0 / nI 3).toInt = (S 21 0).toInt / 3 := by rw [zs_div_nn (by decide) (by omega)]; rfl
  have e2 : (nI 1000 - S 21 0 / nI 3).toInt = 1000 - (S 21 0).toInt / 3 := by rw [zs_smallS (by omega) (by omega), t10, e1]
  refine ⟨?_, fun q => by rw [zs_lt, t14] at q; omega⟩
  unfold zp_light
  rw [if_pos (by rw [zs_lt, e2, t5]; omega)]
set_option maxRecDepth 20000 in
theorem Q_light (n : Nat) (S : zS) (sh : zm_Sh) (mi : zm_Mi) (mr : zm_Mr) (hI : ql_I n S sh mi)  : zz_Con yL_light (.code yL_light cL_light 1 (some Jvm.ClassFile.FieldType.int)) 0 0 0 [.ref 109] sh mi mr (zz_q (some (.int (zp_light S))) sh mi mr) zz_none := by
  refine zz_begin RL [(0, .ref 109)] (by decide) rfl rfl (Nat.le_of_ble_eq_true rfl) rfl ?_
  intro Γ D E ad hX hr hN hT
  have hli := ql_light (ql_BB hI).2.2.2.1.2 (ql_64 hI)
  refine zz_aload_n hX dL_light_0 0 rfl rfl ?_
  refine zz_iconst (v := nI 4) hX dL_light_1 rfl ?_
  refine zz_iald (x := S 21 0) hX (ql_s109 hI) 4 rfl (by decide) (by decide) ((ql_g4 hI)) dL_light_2 ?_
  refine zz_sipush (v := nI 1499) hX dL_light_3 rfl ?_
  refine zz_icmp_le hX 15 dL_light_6 (by decide) (fun c6 => ?_) (fun c6 => absurd (zs_nle c6) hli.2)
  refine zz_sipush (v := nI 1000) hX dL_light_15 rfl ?_
  refine zz_aload_n hX dL_light_18 0 rfl rfl ?_
  refine zz_iconst (v := nI 4) hX dL_light_19 rfl ?_
  refine zz_iald (x := S 21 0) hX (ql_s109 hI) 4 rfl (by decide) (by decide) ((ql_g4 hI)) dL_light_20 ?_
  refine zz_iconst (v := nI 3) hX dL_light_21 rfl ?_
  refine zz_idiv (z := (S 21 0) / (nI 3)) hX dL_light_22 (by decide) rfl ?_
  refine zz_isub (z := (nI 1000) - ((S 21 0) / (nI 3))) hX dL_light_23 rfl ?_
  refine zz_iret hX hr rfl (Nat.le_of_ble_eq_true rfl) (Nat.le_of_ble_eq_true rfl) dL_light_24 ?_
  exact ⟨congrArg (fun z => some (Value.int z)) (hli.1), rfl, rfl, rfl⟩

def ql_wy (u : Int32) : Int32 := if u < nI 360 - u then u else nI 360 - u
theorem ql_wy_eq {a b : Int32} (ha : zv_in a 0 359) (hb : zv_in b 0 359) : ql_wy (zs_rem (b - a + nI 360) (nI 360)) = zs_abs (zs_sw a b) := by
  have hsw := zs_sw_toInt ha hb
  unfold zv_in at ha hb
  have t3 : (nI 360).toInt = 360 := nI_toInt (by decide)
  have e1 : (b - a).toInt = b.toInt - a.toInt := zs_smallS (by omega) (by omega)
  have e5 : (b - a + nI 360).toInt = b.toInt - a.toInt + 360 := by rw [zs_small (by omega) (by omega), e1, t3]
  have e6 : (zs_rem (b - a + nI 360) (nI 360)).toInt = (b.toInt - a.toInt + 360) % 360 := by rw [zs_rem_nn (by decide) (by decide) (by omega), e5]; rfl
  have h0 : ∀ z : Int32, 0 ≤ z ↔ 0 ≤ z.toInt := fun z => by rw [zs_le, Int32.toInt_zero]
  have hab : (zs_abs (zs_sw a b)).toInt = if 0 ≤ (zs_sw a b).toInt then (zs_sw a b).toInt else - (zs_sw a b).toInt := by
    unfold zs_abs
    by_cases h : 0 ≤ zs_sw a b
    · rw [if_pos h, if_pos ((h0 _).mp h)]
    · rw [if_neg h, if_neg (fun q => h ((h0 _).mpr q)), zs_smallS (by rw [Int32.toInt_zero, hsw]; split <;> omega) (by rw [Int32.toInt_zero, hsw]; split <;> omega), Int32.toInt_zero]; omega
  generalize zs_rem (b - a + nI 360) (nI 360) = u at *
  have e7 : (nI 360 - u).toInt = 360 - u.toInt := by rw [zs_smallS (by omega) (by omega), t3]
  rw [zs_eq, hab, hsw]
  unfold ql_wy
  by_cases h : u < nI 360 - u
  · rw [if_pos h]
    rw [zs_lt, e7] at h
    split <;> (split <;> omega)
  · rw [if_neg h]
    rw [zs_lt, e7] at h
    rw [e7]
    split <;> (split <;> omega)
theorem zs_nlt9 {a b : Int32} (h : b ≤ a) : ¬ a < b := fun q => by rw [zs_lt] at q; rw [zs_le] at h; omega
set_option maxRecDepth 20000 in
theorem Q_way  (a b : Int32) (ha : zv_in a 0 359) (hb : zv_in b 0 359) (sh : zm_Sh) (mi : zm_Mi) (mr : zm_Mr) : zz_Con yL_way (.code yL_way cL_way 3 (some Jvm.ClassFile.FieldType.int)) 0 0 0 [.int a, .int b] sh mi mr (zz_q (some (.int (zs_abs (zs_sw a b)))) sh mi mr) zz_none := by
  refine zz_begin RL [(0, .int a), (1, .int b)] (by decide) rfl rfl (Nat.le_of_ble_eq_true rfl) rfl ?_
  intro Γ D E ad hX hr hN hT
  refine zz_iload_n hX dL_way_0 1 rfl rfl ?_
  refine zz_iload_n hX dL_way_1 0 rfl rfl ?_
  refine zz_isub (z := b - a) hX dL_way_2 rfl ?_
  refine zz_sipush (v := nI 360) hX dL_way_3 rfl ?_
  refine zz_iadd (z := (b - a) + (nI 360)) hX dL_way_6 rfl ?_
  refine zz_sipush (v := nI 360) hX dL_way_7 rfl ?_
  refine zz_irem (z := zs_rem (b - a + nI 360) (nI 360)) hX dL_way_10 (by decide) rfl ?_
  refine zz_istore_n (ls' := [(0, .int a), (1, .int b), (2, .int (zs_rem (b - a + nI 360) (nI 360)))]) hX dL_way_11 rfl (Nat.le_of_ble_eq_true rfl) rfl ?_
  refine zz_iload_n hX dL_way_12 2 rfl rfl ?_
  refine zz_sipush (v := nI 360) hX dL_way_13 rfl ?_
  refine zz_iload_n hX dL_way_16 2 rfl rfl ?_
  refine zz_isub (z := (nI 360) - (zs_rem (b - a + nI 360) (nI 360))) hX dL_way_17 rfl ?_
  refine zz_icmp_ge hX 25 dL_way_18 (by decide) (fun c18 => ?_) (fun c18 => ?_)
  · skip
    refine zz_sipush (v := nI 360) hX dL_way_25 rfl ?_
    refine zz_iload_n hX dL_way_28 2 rfl rfl ?_
    refine zz_isub (z := (nI 360) - (zs_rem (b - a + nI 360) (nI 360))) hX dL_way_29 rfl ?_
    refine zz_iret hX hr rfl (Nat.le_of_ble_eq_true rfl) (Nat.le_of_ble_eq_true rfl) dL_way_30 ?_
    have e9 := ql_wy_eq ha hb
    unfold ql_wy at e9
    rw [if_neg (zs_nlt9 c18)] at e9
    exact ⟨congrArg (fun z => some (Value.int z)) (e9), rfl, rfl, rfl⟩
  · skip
    refine zz_iload_n hX dL_way_21 2 rfl rfl ?_
    refine zz_goto hX 30 dL_way_22 (by decide) ?_
    refine zz_iret hX hr rfl (Nat.le_of_ble_eq_true rfl) (Nat.le_of_ble_eq_true rfl) dL_way_30 ?_
    have e9 := ql_wy_eq ha hb
    unfold ql_wy at e9
    rw [if_pos (zs_nle c18)] at e9
    exact ⟨congrArg (fun z => some (Value.int z)) (e9), rfl, rfl, rfl⟩

theorem ql_and (v : Int32) : ∃ q : Nat, q < 2 ^ 31 ∧ v &&& 2147483647 = nI q := pk_andE v (m := 2147483647) 31 (by decide)
set_option maxRecDepth 20000 in
theorem Q_part  (k m : Nat) (hk : k < 1000) (hm : 0 < m ∧ m < 100000) (sh : zm_Sh) (mi : zm_Mi) (mr : zm_Mr) (h10 : sh 10 = some (9, 0)) : zz_Con yL_part (.code yL_part cL_part 4 (some Jvm.ClassFile.FieldType.int)) 0 0 0 [.ref 10, .int (nI k), .int (nI m)] sh mi mr (fun v s i r => ∃ t : Nat, t < m ∧ v = some (.int (nI t)) ∧ s = sh ∧ i = mi ∧ r = mr) zz_none := by
  refine zz_begin RL [(0, .ref 10), (1, .int (nI k)), (2, .int (nI m))] (by decide) rfl rfl (Nat.le_of_ble_eq_true rfl) rfl ?_
  intro Γ D E ad hX hr hN hT
  have K25 : ∀ v9 : Int32, True → zz Γ (D, E, 4, ad, sh) (zz_End Γ (D, E, 4, ad, sh) (fun v s i r => ∃ t : Nat, t < m ∧ v = some (.int (nI t)) ∧ s = sh ∧ i = mi ∧ r = mr) zz_none 0 0) 0 0 sh mi mr 25 [(0, .ref 10), (1, .int (nI k)), (2, .int (nI m))] [.int v9] := by
    intro v9 hv9
    refine zz_istore_n (ls' := [(0, .ref 10), (1, .int (nI k)), (2, .int (nI m)), (3, .int v9)]) hX dL_part_25 rfl (Nat.le_of_ble_eq_true rfl) rfl ?_
    refine zz_iload_n hX dL_part_26 3 rfl rfl ?_
    refine zz_ldc (v := 2147483647) hX zw_con_L_7 dL_part_27 ?_
    obtain ⟨q9, hq9, e9⟩ := ql_and v9
    refine zz_iand (z := nI q9) hX dL_part_29 e9 ?_
    refine zz_iload_n hX dL_part_30 2 rfl rfl ?_
    refine zz_irem (z := nI (q9 % m)) hX dL_part_31 (nI_ne0 (by omega) (by omega)) (pk_rem (by omega) (by omega) (by omega)) ?_
    refine zz_iret hX hr rfl (Nat.le_of_ble_eq_true rfl) (Nat.le_of_ble_eq_true rfl) dL_part_32 ?_
    exact ⟨q9 % m, Nat.mod_lt _ hm.1, rfl, rfl, rfl, rfl⟩
  refine zz_iload_n hX dL_part_0 1 rfl rfl ?_
  refine zz_aload_n hX dL_part_1 0 rfl rfl ?_
  refine zz_slen hX h10 dL_part_2 (fun hL9 => ?_)
  refine zz_icmp_geN hX (by omega) (by omega) 12 dL_part_3 (by decide) (fun c3 => ?_) (fun c3 => ?_)
  · skip
    refine zz_sipush (v := nI 1021) hX dL_part_12 rfl ?_
    refine zz_iload_n hX dL_part_15 1 rfl rfl ?_
    refine zz_imul (z := nI (1021 * k)) hX dL_part_16 (pk_mul _ _) ?_
    refine zz_sipush (v := nI 907) hX dL_part_17 rfl ?_
    refine zz_iload_n hX dL_part_20 1 rfl rfl ?_
    refine zz_imul (z := nI (907 * k)) hX dL_part_21 (pk_mul _ _) ?_
    refine zz_iload_n hX dL_part_22 1 rfl rfl ?_
    refine zz_imul (z := nI ((907 * k) * k)) hX dL_part_23 (pk_mul _ _) ?_
    refine zz_iadd (z := nI (1021 * k + (907 * k) * k)) hX dL_part_24 (nI_add _ _) ?_
    exact K25 (nI (1021 * k + (907 * k) * k)) (trivial)
  · skip
    refine zz_aload_n hX dL_part_6 0 rfl rfl ?_
    refine zz_iload_n hX dL_part_7 1 rfl rfl ?_
    refine zz_sld hX h10 k rfl c3 dL_part_8 ?_
    refine zz_goto hX 25 dL_part_9 (by decide) ?_
    exact K25 (E.2.2.2 k) (trivial)

set_option maxRecDepth 20000 in
theorem Q_nearU  (lab row len fr : Nat) (sh : zm_Sh) (mi : zm_Mi) (mr : zm_Mr) (hs : sh lab = some (1, len)) (hl : row + 6 ≤ len) (hlen : len < 1000) (hf : fr < 6) : zz_Con yL_nearest (.code yL_nearest cL_nearest 5 (some Jvm.ClassFile.FieldType.int)) 0 0 0 [.ref lab, .int (nI row), .int (nI fr), .int (nI 1)] sh mi mr (zz_q (some (.int (zs_fst (fun x => ¬ mi lab (row + x) = 0) nI (6 - fr) fr))) sh mi mr) zz_none := by
  refine zz_begin RL [(0, .ref lab), (1, .int (nI row)), (2, .int (nI fr)), (3, .int (nI 1))] (by decide) rfl rfl (Nat.le_of_ble_eq_true rfl) rfl ?_
  intro Γ D E ad hX hr hN hT
  refine zz_iload_n hX dL_nearest_0 2 rfl rfl ?_
  refine zz_istore (ls' := [(0, .ref lab), (1, .int (nI row)), (2, .int (nI fr)), (3, .int (nI 1)), (4, .int (nI fr))]) hX dL_nearest_1 (Nat.le_of_ble_eq_true rfl) rfl ?_
  have L3 : ∀ (k3 : Nat) (f : Nat), 6 - f < k3 → (f ≤ 6) → (zs_fst (fun x => ¬ mi lab (row + x) = 0) nI (6 - fr) fr = zs_fst (fun x => ¬ mi lab (row + x) = 0) nI (6 - f) f) → zz Γ (D, E, 5, ad, sh) (zz_End Γ (D, E, 5, ad, sh) (zz_q (some (.int (zs_fst (fun x => ¬ mi lab (row + x) = 0) nI (6 - fr) fr))) sh mi mr) zz_none 0 0) 0 0 sh mi mr 3 [(0, .ref lab), (1, .int (nI row)), (2, .int (nI fr)), (3, .int (nI 1)), (4, .int (nI f))] [] := by
    intro k3
    induction k3 with
    | zero => intro f hk3; exact absurd hk3 (Nat.not_lt_zero _)
    | succ k3 ih3 =>
      intro f hk3 hf6 hq
      refine zz_iload hX dL_nearest_3 4 rfl ?_
      refine zz_if_lt hX 33 dL_nearest_5 (by decide) (fun c5 => absurd c5 (nI_pos (by omega))) (fun c5 => ?_)
      refine zz_iload hX dL_nearest_8 4 rfl ?_
      refine zz_bipush (v := nI 6) hX dL_nearest_10 rfl ?_
      refine zz_icmp_geN hX (by omega) (by decide) 33 dL_nearest_12 (by decide) (fun c12 => ?_) (fun c12 => ?_)
      · skip
        refine zz_iload hX dL_nearest_33 4 rfl ?_
        refine zz_if_lt hX 50 dL_nearest_35 (by decide) (fun c35 => absurd c35 (nI_pos (by omega))) (fun c35 => ?_)
        refine zz_iload hX dL_nearest_38 4 rfl ?_
        refine zz_bipush (v := nI 6) hX dL_nearest_40 rfl ?_
        refine zz_icmp_geN hX (by omega) (by decide) 50 dL_nearest_42 (by decide) (fun c42 => ?_) (fun c42 => absurd c42 (by omega))
        refine zz_iconst (v := (-1)) hX dL_nearest_50 rfl ?_
        refine zz_iret hX hr rfl (Nat.le_of_ble_eq_true rfl) (Nat.le_of_ble_eq_true rfl) dL_nearest_51 ?_
        exact ⟨congrArg (fun z => some (Value.int z)) ((hq.trans (zs_fst_end (by omega))).symm), rfl, rfl, rfl⟩
      · skip
        refine zz_aload_n hX dL_nearest_15 0 rfl rfl ?_
        refine zz_iload_n hX dL_nearest_16 1 rfl rfl ?_
        refine zz_iload hX dL_nearest_17 4 rfl ?_
        refine zz_iadd (z := nI (row + f)) hX dL_nearest_19 (nI_add _ _) ?_
        refine zz_iald (x := mi lab (row + f)) hX hs (row + f) rfl (by omega) (by omega) rfl dL_nearest_20 ?_
        refine zz_if_ne hX 33 dL_nearest_21 (by decide) (fun c21 => ?_) (fun c21 => ?_)
        · skip
          refine zz_iload hX dL_nearest_33 4 rfl ?_
          refine zz_if_lt hX 50 dL_nearest_35 (by decide) (fun c35 => absurd c35 (nI_pos (by omega))) (fun c35 => ?_)
          refine zz_iload hX dL_nearest_38 4 rfl ?_
          refine zz_bipush (v := nI 6) hX dL_nearest_40 rfl ?_
          refine zz_icmp_geN hX (by omega) (by decide) 50 dL_nearest_42 (by decide) (fun c42 => absurd c42 (by omega)) (fun c42 => ?_)
          refine zz_iload hX dL_nearest_45 4 rfl ?_
          refine zz_goto hX 51 dL_nearest_47 (by decide) ?_
          refine zz_iret hX hr rfl (Nat.le_of_ble_eq_true rfl) (Nat.le_of_ble_eq_true rfl) dL_nearest_51 ?_
          exact ⟨congrArg (fun z => some (Value.int z)) ((hq.trans (zs_fst_hit (g := (fun x => ¬ mi lab (row + x) = 0)) (v := nI) c12 c21)).symm), rfl, rfl, rfl⟩
        · skip
          refine zz_iload hX dL_nearest_24 4 rfl ?_
          refine zz_iload_n hX dL_nearest_26 3 rfl rfl ?_
          refine zz_iadd (z := nI (f + 1)) hX dL_nearest_27 (nI_add _ _) ?_
          refine zz_istore (ls' := [(0, .ref lab), (1, .int (nI row)), (2, .int (nI fr)), (3, .int (nI 1)), (4, .int (nI (f + 1)))]) hX dL_nearest_28 (Nat.le_of_ble_eq_true rfl) rfl ?_
          refine zz_goto hX 3 dL_nearest_30 (by decide) ?_
          exact ih3 (f + 1) (by omega) (by omega) (hq.trans (zs_fst_step (g := (fun x => ¬ mi lab (row + x) = 0)) (v := nI) c12 (fun h => h c21)))
  exact L3 ((6 - fr + 1)) fr (by omega) (by omega) rfl

set_option maxRecDepth 20000 in
theorem Q_nearD  (lab row len fr : Nat) (sh : zm_Sh) (mi : zm_Mi) (mr : zm_Mr) (hs : sh lab = some (1, len)) (hl : row + 6 ≤ len) (hlen : len < 1000) (hf : fr < 6) : zz_Con yL_nearest (.code yL_nearest cL_nearest 5 (some Jvm.ClassFile.FieldType.int)) 0 0 0 [.ref lab, .int (nI row), .int (nI fr), .int (-1)] sh mi mr (zz_q (some (.int (zs_up (fun x => ¬ mi lab (row + x) = 0) (fr + 1)))) sh mi mr) zz_none := by
  refine zz_begin RL [(0, .ref lab), (1, .int (nI row)), (2, .int (nI fr)), (3, .int (-1))] (by decide) rfl rfl (Nat.le_of_ble_eq_true rfl) rfl ?_
  intro Γ D E ad hX hr hN hT
  refine zz_iload_n hX dL_nearest_0 2 rfl rfl ?_
  refine zz_istore (ls' := [(0, .ref lab), (1, .int (nI row)), (2, .int (nI fr)), (3, .int (-1)), (4, .int (nI fr))]) hX dL_nearest_1 (Nat.le_of_ble_eq_true rfl) rfl ?_
  refine zz_lcl (ls' := [(0, .ref lab), (1, .int (nI row)), (2, .int (nI fr)), (3, .int (-1)), (4, .int (nI (fr + 1) + (-1)))]) (congrArg (fun z => [((0 : Nat), Value.ref lab), (1, Value.int (nI row)), (2, Value.int (nI fr)), (3, Value.int (-1)), (4, Value.int z)]) (pk_m1 fr).symm) ?_
  have L3 : ∀ q : Nat, q ≤ 6 → zs_up (fun x => ¬ mi lab (row + x) = 0) (fr + 1) = zs_up (fun x => ¬ mi lab (row + x) = 0) q → zz Γ (D, E, 5, ad, sh) (zz_End Γ (D, E, 5, ad, sh) (zz_q (some (.int (zs_up (fun x => ¬ mi lab (row + x) = 0) (fr + 1)))) sh mi mr) zz_none 0 0) 0 0 sh mi mr 3 [(0, .ref lab), (1, .int (nI row)), (2, .int (nI fr)), (3, .int (-1)), (4, .int (nI q + (-1)))] [] := by
    intro q
    induction q with
    | zero =>
      intro hq6 hq
      refine zz_lcl (ls' := [(0, .ref lab), (1, .int (nI row)), (2, .int (nI fr)), (3, .int (-1)), (4, .int (-1))]) rfl ?_
      refine zz_iload hX dL_nearest_3 4 rfl ?_
      refine zz_if_lt hX 33 dL_nearest_5 (by decide) (fun _ => ?_) (fun c => absurd c (by decide))
      refine zz_iload hX dL_nearest_33 4 rfl ?_
      refine zz_if_lt hX 50 dL_nearest_35 (by decide) (fun _ => ?_) (fun c => absurd c (by decide))
      refine zz_iconst (v := (-1)) hX dL_nearest_50 rfl ?_
      refine zz_iret hX hr rfl (Nat.le_of_ble_eq_true rfl) (Nat.le_of_ble_eq_true rfl) dL_nearest_51 ?_
      exact ⟨congrArg (fun z => some (Value.int z)) (hq.symm), rfl, rfl, rfl⟩
    | succ r ih3 =>
      intro hq6 hq
      refine zz_lcl (ls' := [(0, .ref lab), (1, .int (nI row)), (2, .int (nI fr)), (3, .int (-1)), (4, .int (nI r))]) (congrArg (fun z => [((0 : Nat), Value.ref lab), (1, Value.int (nI row)), (2, Value.int (nI fr)), (3, Value.int (-1)), (4, Value.int z)]) (pk_m1 r)) ?_
      refine zz_iload hX dL_nearest_3 4 rfl ?_
      refine zz_if_lt hX 33 dL_nearest_5 (by decide) (fun c5 => absurd c5 (nI_pos (by omega))) (fun c5 => ?_)
      refine zz_iload hX dL_nearest_8 4 rfl ?_
      refine zz_bipush (v := nI 6) hX dL_nearest_10 rfl ?_
      refine zz_icmp_geN hX (by omega) (by decide) 33 dL_nearest_12 (by decide) (fun c12 => absurd c12 (by omega)) (fun c12 => ?_)
      refine zz_aload_n hX dL_nearest_15 0 rfl rfl ?_
      refine zz_iload_n hX dL_nearest_16 1 rfl rfl ?_
      refine zz_iload hX dL_nearest_17 4 rfl ?_
      refine zz_iadd (z := nI (row + r)) hX dL_nearest_19 (nI_add _ _) ?_
      refine zz_iald (x := mi lab (row + r)) hX hs (row + r) rfl (by omega) (by omega) rfl dL_nearest_20 ?_
      refine zz_if_ne hX 33 dL_nearest_21 (by decide) (fun c21 => ?_) (fun c21 => ?_)
      · skip
        refine zz_iload hX dL_nearest_33 4 rfl ?_
        refine zz_if_lt hX 50 dL_nearest_35 (by decide) (fun c35 => absurd c35 (nI_pos (by omega))) (fun c35 => ?_)
        refine zz_iload hX dL_nearest_38 4 rfl ?_
        refine zz_bipush (v := nI 6) hX dL_nearest_40 rfl ?_
        refine zz_icmp_geN hX (by omega) (by decide) 50 dL_nearest_42 (by decide) (fun c42 => absurd c42 (by omega)) (fun c42 => ?_)
        refine zz_iload hX dL_nearest_45 4 rfl ?_
        refine zz_goto hX 51 dL_nearest_47 (by decide) ?_
        refine zz_iret hX hr rfl (Nat.le_of_ble_eq_true rfl) (Nat.le_of_ble_eq_true rfl) dL_nearest_51 ?_
        exact ⟨congrArg (fun z => some (Value.int z)) ((hq.trans (if_pos c21)).symm), rfl, rfl, rfl⟩
      · skip
        refine zz_iload hX dL_nearest_24 4 rfl ?_
        refine zz_iload_n hX dL_nearest_26 3 rfl rfl ?_
        refine zz_iadd (z := (nI r) + (-1)) hX dL_nearest_27 rfl ?_
        refine zz_istore (ls' := [(0, .ref lab), (1, .int (nI row)), (2, .int (nI fr)), (3, .int (-1)), (4, .int ((nI r) + (-1)))]) hX dL_nearest_28 (Nat.le_of_ble_eq_true rfl) rfl ?_
        refine zz_goto hX 3 dL_nearest_30 (by decide) ?_
        exact ih3 (by omega) (hq.trans (if_neg (fun h => h c21)))
  exact L3 (fr + 1) (by omega) rfl

