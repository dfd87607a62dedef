/-! ===== between two keys ===== -/
def ql_up (a b : Int32) : Int32 := if a ≤ b then b - a else b - a + nI 360
def ql_gone (a b p q : Int32) : Int32 := if ql_up a b ≤ nI 180 then ql_up a b * p / q else -((nI 360 - ql_up a b) * p / q)
def ql_fin (x : Int32) : Int32 := if x < 0 then x + nI 360 else if x ≤ nI 359 then x else x - nI 360
theorem ql_up_t {a b : Int32} (ha : zv_in a 0 359) (hb : zv_in b 0 359) : (ql_up a b).toInt = (b.toInt - a.toInt) % 360 := by
  unfold zv_in at ha hb
  have t3 : (nI 360).toInt = 360 := nI_toInt (by decide)
  have e1 : (b - a).toInt = b.toInt - a.toInt := zs_smallS (by omega) (by omega)
  unfold ql_up
  by_cases h : a ≤ b
  · rw [if_pos h]; rw [zs_le] at h; rw [e1]; omega
  · rw [if_neg h]; rw [zs_le] at h; rw [zs_small (by omega) (by omega), e1, t3]; omega
theorem zs_neg_t {x : Int32} (h1 : -1000000 ≤ x.toInt) (h2 : x.toInt ≤ 1000000) : (-x).toInt = -x.toInt := by
  rw [Int32.toInt_neg]; exact Int.bmod_eq_of_le (by omega) (by omega)
theorem zs_mdiv {w : Int32} {p q : Nat} (hw : -180 ≤ w.toInt ∧ w.toInt ≤ 180) (hpq : p ≤ q) (hq : q ≤ 48) : (w * nI p / nI q).toInt = (w.toInt * (p : Int)).tdiv (q : Int) := by
  have hpi : (nI p).toInt = (p : Int) := nI_toInt (by omega)
  have hdp : (w.toInt * (p : Int)).natAbs ≤ 180 * 48 := by
    rw [Int.natAbs_mul]
    exact Nat.mul_le_mul (by omega) (by omega)
  have e2 : (w * nI p).toInt = w.toInt * (p : Int) := by
    rw [Int32.toInt_mul, hpi]
    exact Int.bmod_eq_of_le (by omega) (by omega)
  rw [zs_div_toInt (by omega), e2]
theorem ql_gone_eq {a b : Int32} {p q : Nat} (ha : zv_in a 0 359) (hb : zv_in b 0 359) (hpq : p ≤ q) (hq : q ≤ 48) : ql_gone a b (nI p) (nI q) = zs_sw a b * nI p / nI q := by
  have hsw := zs_sw_toInt ha hb
  have hup := ql_up_t ha hb
  have t1 : (nI 180).toInt = 180 := nI_toInt (by decide)
  have t3 : (nI 360).toInt = 360 := nI_toInt (by decide)
  unfold ql_gone
  by_cases h : ql_up a b ≤ nI 180
  · rw [if_pos h]
    rw [zs_le, t1, hup] at h
    rw [show ql_up a b = zs_sw a b by rw [zs_eq, hup, hsw, if_pos h]]
  · rw [if_neg h]
    rw [zs_le, t1, hup] at h
    rw [if_neg h] at hsw
    have hu : (nI 360 - ql_up a b).toInt = 360 - (b.toInt - a.toInt) % 360 := by rw [zs_smallS (by omega) (by omega), t3, hup]
    have hw : (zs_sw a b).toInt = -(nI 360 - ql_up a b).toInt := by rw [hsw, hu]; omega
    have hf := zs_frac (w := nI 360 - ql_up a b) (p := p) (q := q) ⟨by omega, by omega⟩ hpq hq
    rw [zs_eq, zs_neg_t (by omega) (by omega), zs_mdiv ⟨by omega, by omega⟩ hpq hq, zs_mdiv ⟨by omega, by omega⟩ hpq hq, hw, Int.neg_mul, Int.neg_tdiv]
theorem ql_mix_eq {a b : Int32} {p q : Nat} (ha : zv_in a 0 359) (hb : zv_in b 0 359) (hpq : p ≤ q) (hq : q ≤ 48) : ql_fin (a + ql_gone a b (nI p) (nI q)) = zs_mixR a b (nI p) (nI q) := by
  rw [ql_gone_eq ha hb hpq hq]
  have hsw := zs_sw_toInt ha hb
  have hw : -180 ≤ (zs_sw a b).toInt ∧ (zs_sw a b).toInt ≤ 180 := by rw [hsw]; split <;> omega
  have hf := zs_frac hw hpq hq
  unfold zs_mixR
  unfold zv_in at ha hb
  generalize zs_sw a b * nI p / nI q = t at *
  have t3 : (nI 360).toInt = 360 := nI_toInt (by decide)
  have t9 : (nI 359).toInt = 359 := nI_toInt (by decide)
  have e8 : (a + t).toInt = a.toInt + t.toInt := zs_small (by omega) (by omega)
  have h0 : (0 : Int32).toInt = 0 := Int32.toInt_zero
  rw [zs_eq, zs_fmod_toInt (by decide) (by decide)]
  unfold ql_fin
  show _ = (a + t).toInt % 360
  generalize a + t = x at *
  by_cases h : x < 0
  · rw [if_pos h]; rw [zs_lt, h0] at h; rw [zs_small (by omega) (by omega), t3]; omega
  · rw [if_neg h]; rw [zs_lt, h0] at h
    by_cases g : x ≤ nI 359
    · rw [if_pos g]; rw [zs_le, t9] at g; omega
    · rw [if_neg g]; rw [zs_le, t9] at g; rw [zs_smallS (by omega) (by omega), t3]; omega
theorem ql_k0 {x : Int32} (h : x = -1 ∨ zv_in x 0 359) : (x + nI 1 = 0 ↔ x = -1) := by
  rcases h with e | e
  · rw [e]; exact ⟨fun _ => rfl, fun _ => by decide⟩
  · unfold zv_in at e
    have t1 : (nI 1).toInt = 1 := nI_toInt (by decide)
    have tm : (-1 : Int32).toInt = -1 := by decide
    rw [zs_eq, zs_eq, zs_small (by omega) (by omega), t1, tm, Int32.toInt_zero]; omega
theorem ql_c0 {x : Int32} (h : x = 100000 ∨ zv_in x (-999) 999) : (ql_cw x = 0 ↔ x = 100000) ∧ (¬ x = 100000 → ql_cw x - nI 1000 = x) := by
  unfold ql_cw
  rcases h with e | e
  · rw [if_pos e]; exact ⟨⟨fun _ => e, fun _ => rfl⟩, fun q => absurd e q⟩
  · unfold zv_in at e
    have t1 : (nI 1000).toInt = 1000 := nI_toInt (by decide)
    have t2 : (100000 : Int32).toInt = 100000 := by decide
    have ne : ¬ x = 100000 := fun q => by rw [zs_eq, t2] at q; omega
    rw [if_neg ne]
    refine ⟨⟨fun q => ?_, fun q => absurd q ne⟩, fun _ => zs_add_sub⟩
    rw [zs_eq, zs_small (by omega) (by omega), t1, Int32.toInt_zero] at q; omega
/-! a track's value by its two keys -/
theorem zs_val_nn {mix : Int32 → Int32 → Int32 → Int32 → Int32} {K : Nat → Int32} {f : Int32} : zs_val mix K (-1) (-1) f = 0 := rfl
theorem zs_val_nj {mix : Int32 → Int32 → Int32 → Int32 → Int32} {K : Nat → Int32} {f : Int32} {j : Nat} (hj : j < 1000) : zs_val mix K (-1) (nI j) f = K j := by
  unfold zs_val
  rw [if_pos rfl, if_neg (fun e => absurd e (zs_nm1 (by omega))), nI_clamp (n := j) (by omega)]
theorem zs_val_ix {mix : Int32 → Int32 → Int32 → Int32 → Int32} {K : Nat → Int32} {f : Int32} {j : Nat} (hj : j < 1000) : zs_val mix K (nI j) (-1) f = K j := by
  unfold zs_val
  rw [if_neg (fun e => absurd e (zs_nm1 (by omega))), if_pos (by rw [zs_le, nI_toInt (by omega)]; show (-1 : Int) ≤ j; omega), nI_clamp (n := j) (by omega)]
theorem zs_val_ij {mix : Int32 → Int32 → Int32 → Int32 → Int32} {K : Nat → Int32} {f : Int32} {i j : Nat} (hj : j ≤ i) (hi : i < 1000) : zs_val mix K (nI i) (nI j) f = K i := by
  unfold zs_val
  rw [if_neg (fun e => absurd e (zs_nm1 (by omega))), if_pos (nI_le hj (by omega)), nI_clamp (n := i) (by omega)]
theorem zs_val_mx {mix : Int32 → Int32 → Int32 → Int32 → Int32} {K : Nat → Int32} {i j f : Nat} (hj : i < j) (hi : i ≤ f) (hb : j < 1000) : zs_val mix K (nI i) (nI j) (nI f) = mix (K i) (K j) (nI (f - i)) (nI (j - i)) := by
  unfold zs_val
  rw [if_neg (fun e => absurd e (zs_nm1 (by omega))), if_neg (nI_ge hj (by omega)), nI_clamp (n := i) (by omega), nI_clamp (n := j) (by omega), pk_sub hi, pk_sub (by omega)]
/-! the two tracks of the law -/
section ZL4
variable {n : Nat} {S : zS} {sh : zm_Sh} {mi : zm_Mi} {mr : zm_Mr}
abbrev ql_kr (i j : Nat) : Nat := 18 * i + 6 * j
theorem ql_deg (h : ql_I n S sh mi) {i j f : Nat} (hi : i < zv_ns S) (hj : j < 3) (hf : f < zv_fr S i) : zs_val zs_mixR (fun x => mi 105 (18 * i + 6 * j + x) - nI 1) (zs_up (fun x => ¬ mi 105 (18 * i + 6 * j + x) = 0) (zs_pf (zv_st S i) f + 1)) (zs_fst (fun x => ¬ mi 105 (18 * i + 6 * j + x) = 0) nI (6 - zs_pf (zv_st S i) f) (zs_pf (zv_st S i) f)) (nI (zs_pf (zv_st S i) f)) = zp_deg S i j f := by
  obtain ⟨q1, q2, q3, q4, q5, q6, q7, q8, q9, q10, q11, q12⟩ := ql_shot h hi
  obtain ⟨k1, k2, k3, -⟩ := (ql_W h).2.2.2.1
  have hpf := zs_pf_le (zv_st S i) f
  refine zs_val_eq (mix := zs_mixR) (told := fun x => mi 105 (18 * i + 6 * j + x)) (val := fun x => mi 105 (18 * i + 6 * j + x) - nI 1) (K := fun x => S 18 (48 * (6 * i + j) + x)) (E := -1) (n := 6) (by decide) (by omega) (fun x hx => ?_) (fun x h1 h2 => k3 i j x hi (by omega) (by omega) h2)
  have e := ql_Nk h i j x q1 hj hx
  refine ⟨?_, fun _ => ?_⟩
  · show mi 105 (18 * i + 6 * j + x) = 0 ↔ _
    rw [e]; exact ql_k0 (k1 _)
  · show mi 105 (18 * i + 6 * j + x) - nI 1 = _
    rw [e]; exact zs_add_sub
theorem ql_degk (h : ql_I n S sh mi) {i j x : Nat} (hi : i < zv_ns S) (hj : j < 3) (hx : x < 6) (hn : ¬ mi 105 (18 * i + 6 * j + x) = 0) : zv_in (mi 105 (18 * i + 6 * j + x) - nI 1) 0 359 := by
  obtain ⟨q1, -⟩ := ql_shot h hi
  have k1 := (ql_W h).2.2.2.1.1
  have e := ql_Nk h i j x q1 hj hx
  rw [e] at hn ⊢
  rw [zs_add_sub]
  exact (k1 _).resolve_left (fun q => hn ((ql_k0 (k1 _)).mpr q))
theorem ql_plc (h : ql_I n S sh mi) {i f : Nat} (hi : i < zv_ns S) (hf : f < zv_fr S i) : zs_val zs_mixC (fun x => mi 106 (6 * i + x) - nI 1000) (zs_up (fun x => ¬ mi 106 (6 * i + x) = 0) (f + 1)) (zs_fst (fun x => ¬ mi 106 (6 * i + x) = 0) nI (6 - f) f) (nI f) = zp_place S i f := by
  obtain ⟨q1, q2, q3, q4, q5, q6, q7, q8, q9, q10, q11, q12⟩ := ql_shot h hi
  obtain ⟨-, -, -, k4, k5, k6⟩ := (ql_W h).2.2.2.1
  refine zs_val_eq (mix := zs_mixC) (told := fun x => mi 106 (6 * i + x)) (val := fun x => mi 106 (6 * i + x) - nI 1000) (K := fun x => S 19 (48 * i + x)) (E := 100000) (n := 6) (by decide) (by omega) (fun x hx => ?_) (fun x h1 h2 => k6 i x hi (by omega) h2)
  have e := ql_Nc h i x q1 hx
  refine ⟨?_, fun hn => ?_⟩
  · show mi 106 (6 * i + x) = 0 ↔ _
    rw [e]; exact (ql_c0 (k4 _)).1
  · show mi 106 (6 * i + x) - nI 1000 = _
    rw [e]; exact (ql_c0 (k4 _)).2 hn
end ZL4
theorem zs_nle9 {a b : Int32} (h : ¬ a ≤ b) : b < a := by rw [zs_le] at h; rw [zs_lt]; omega
theorem zs_if142 {a b : Int32} (h : ¬ b < a) : a ≤ b := by rw [zs_lt] at h; rw [zs_le]; omega
set_option maxRecDepth 20000 in
theorem Q_degree (n : Nat) (S : zS) (sh : zm_Sh) (mi : zm_Mi) (mr : zm_Mr) (hI : ql_I n S sh mi) (i : Nat) (hi : i < zv_ns S) (j : Nat) (hj : j < 3) (f : Nat) (hf : f < zv_fr S i) : zz_Con yL_degree (.code yL_degree cL_degree 14 (some Jvm.ClassFile.FieldType.int)) 1 0 0 [.ref 104, .ref 105, .int (nI i), .int (nI j), .int (nI f)] sh mi mr (zz_q (some (.int (zp_deg S i j f))) sh mi mr) zz_none := by
  refine zz_begin RL [(0, .ref 104), (1, .ref 105), (2, .int (nI i)), (3, .int (nI j)), (4, .int (nI f))] (by decide) rfl rfl (Nat.le_of_ble_eq_true rfl) rfl ?_
  intro Γ D E ad hX hr hN hT
  have hw9 := ql_hw_lt hI hi
  obtain ⟨q1, q2, q3, q4, q5, q6, q7, q8, q9, q10, q11, q12⟩ := ql_shot hI hi
  have K19 : zz Γ (D, E, 14, ad, sh) (zz_End Γ (D, E, 14, ad, sh) (zz_q (some (.int (zp_deg S i j f))) sh mi mr) zz_none 0 0) 0 0 sh mi mr 19 [(0, .ref 104), (1, .ref 105), (2, .int (nI i)), (3, .int (nI j)), (4, .int (nI f))] [.int (nI (zs_pf (zv_st S i) f))] := by
    have hpf9 := zs_pf_le (zv_st S i) f
    refine zz_istore (ls' := [(0, .ref 104), (1, .ref 105), (2, .int (nI i)), (3, .int (nI j)), (4, .int (nI f)), (5, .int (nI (zs_pf (zv_st S i) f)))]) hX dL_degree_19 (Nat.le_of_ble_eq_true rfl) rfl ?_
    refine zz_bipush (v := nI 18) hX dL_degree_21 rfl ?_
    refine zz_iload_n hX dL_degree_23 2 rfl rfl ?_
    refine zz_imul (z := nI (18 * i)) hX dL_degree_24 (pk_mul _ _) ?_
    refine zz_bipush (v := nI 6) hX dL_degree_25 rfl ?_
    refine zz_iload_n hX dL_degree_27 3 rfl rfl ?_
    refine zz_imul (z := nI (6 * j)) hX dL_degree_28 (pk_mul _ _) ?_
    refine zz_iadd (z := nI (18 * i + 6 * j)) hX dL_degree_29 (nI_add _ _) ?_
    refine zz_istore (ls' := [(0, .ref 104), (1, .ref 105), (2, .int (nI i)), (3, .int (nI j)), (4, .int (nI f)), (5, .int (nI (zs_pf (zv_st S i) f))), (6, .int (nI (18 * i + 6 * j)))]) hX dL_degree_30 (Nat.le_of_ble_eq_true rfl) rfl ?_
    refine zz_aload_n hX dL_degree_32 1 rfl rfl ?_
    refine zz_iload hX dL_degree_33 6 rfl ?_
    refine zz_iload hX dL_degree_35 5 rfl ?_
    refine zz_iconst (v := (-1)) hX dL_degree_37 rfl ?_
    refine zz_sI (x := zs_up (fun x => ¬ mi 105 (18 * i + 6 * j + x) = 0) (zs_pf (zv_st S i) f + 1)) hX zf_M_L_97 (As := [.ref 105, .int (nI (18 * i + 6 * j)), .int (nI (zs_pf (zv_st S i) f)), .int (-1)]) (st := []) (Q_nearD 105 (18 * i + 6 * j) 55 (zs_pf (zv_st S i) f) sh mi mr (ql_s105 hI) (by omega) (by decide) (by omega)) rfl rfl (by decide) (Nat.le_of_ble_eq_true rfl) (Nat.le_of_ble_eq_true rfl) (Nat.le_of_ble_eq_true rfl) dL_degree_38 ?_
    refine zz_istore (ls' := [(0, .ref 104), (1, .ref 105), (2, .int (nI i)), (3, .int (nI j)), (4, .int (nI f)), (5, .int (nI (zs_pf (zv_st S i) f))), (6, .int (nI (18 * i + 6 * j))), (7, .int (zs_up (fun x => ¬ mi 105 (18 * i + 6 * j + x) = 0) (zs_pf (zv_st S i) f + 1)))]) hX dL_degree_41 (Nat.le_of_ble_eq_true rfl) rfl ?_
    refine zz_aload_n hX dL_degree_43 1 rfl rfl ?_
    refine zz_iload hX dL_degree_44 6 rfl ?_
    refine zz_iload hX dL_degree_46 5 rfl ?_
    refine zz_iconst (v := nI 1) hX dL_degree_48 rfl ?_
    refine zz_sI (x := zs_fst (fun x => ¬ mi 105 (18 * i + 6 * j + x) = 0) nI (6 - (zs_pf (zv_st S i) f)) (zs_pf (zv_st S i) f)) hX zf_M_L_97 (As := [.ref 105, .int (nI (18 * i + 6 * j)), .int (nI (zs_pf (zv_st S i) f)), .int (nI 1)]) (st := []) (Q_nearU 105 (18 * i + 6 * j) 55 (zs_pf (zv_st S i) f) sh mi mr (ql_s105 hI) (by omega) (by decide) (by omega)) rfl rfl (by decide) (Nat.le_of_ble_eq_true rfl) (Nat.le_of_ble_eq_true rfl) (Nat.le_of_ble_eq_true rfl) dL_degree_49 ?_
    refine zz_istore (ls' := [(0, .ref 104), (1, .ref 105), (2, .int (nI i)), (3, .int (nI j)), (4, .int (nI f)), (5, .int (nI (zs_pf (zv_st S i) f))), (6, .int (nI (18 * i + 6 * j))), (7, .int (zs_up (fun x => ¬ mi 105 (18 * i + 6 * j + x) = 0) (zs_pf (zv_st S i) f + 1))), (8, .int (zs_fst (fun x => ¬ mi 105 (18 * i + 6 * j + x) = 0) nI (6 - (zs_pf (zv_st S i) f)) (zs_pf (zv_st S i) f)))]) hX dL_degree_52 (Nat.le_of_ble_eq_true rfl) rfl ?_
    rcases zs_up_cases (fun x => ¬ mi 105 (18 * i + 6 * j + x) = 0) (zs_pf (zv_st S i) f + 1) with ⟨ha, na⟩ | ⟨x, hx, gx, ha, na⟩ <;> rcases zs_fst_cases (fun x => ¬ mi 105 (18 * i + 6 * j + x) = 0) nI (6 - (zs_pf (zv_st S i) f)) (zs_pf (zv_st S i) f) with ⟨hb, nb⟩ | ⟨y, hy1, hy2, gy, hb, nb⟩
    · skip
      refine zz_lcl (ls' := [(0, .ref 104), (1, .ref 105), (2, .int (nI i)), (3, .int (nI j)), (4, .int (nI f)), (5, .int (nI (zs_pf (zv_st S i) f))), (6, .int (nI (18 * i + 6 * j))), (7, .int (-1)), (8, .int (-1))]) (by rw [ha, hb]) ?_
      refine zz_iload hX dL_degree_54 7 rfl ?_
      refine zz_if_ge hX 66 dL_degree_56 (by decide) (fun c => absurd c (by decide)) (fun _ => ?_)
      refine zz_iload hX dL_degree_59 8 rfl ?_
      refine zz_if_ge hX 66 dL_degree_61 (by decide) (fun c => absurd c (by decide)) (fun _ => ?_)
      refine zz_iconst (v := nI 0) hX dL_degree_64 rfl ?_
      refine zz_iret hX hr rfl (Nat.le_of_ble_eq_true rfl) (Nat.le_of_ble_eq_true rfl) dL_degree_65 ?_
      exact ⟨by rw [← ql_deg hI hi hj hf, ha, hb]; rfl, rfl, rfl, rfl⟩
    · skip
      refine zz_lcl (ls' := [(0, .ref 104), (1, .ref 105), (2, .int (nI i)), (3, .int (nI j)), (4, .int (nI f)), (5, .int (nI (zs_pf (zv_st S i) f))), (6, .int (nI (18 * i + 6 * j))), (7, .int (-1)), (8, .int (nI y))]) (by rw [ha, hb]) ?_
      refine zz_iload hX dL_degree_54 7 rfl ?_
      refine zz_if_ge hX 66 dL_degree_56 (by decide) (fun c => absurd c (by decide)) (fun _ => ?_)
      refine zz_iload hX dL_degree_59 8 rfl ?_
      refine zz_if_ge hX 66 dL_degree_61 (by decide) (fun c61 => ?_) (fun c61 => absurd (nI_pos' (by omega)) c61)
      refine zz_aload_n hX dL_degree_66 1 rfl rfl ?_
      refine zz_iload hX dL_degree_67 6 rfl ?_
      refine zz_iload hX dL_degree_69 7 rfl ?_
      refine zz_if_ge hX 79 dL_degree_71 (by decide) (fun c => absurd c (by decide)) (fun _ => ?_)
      refine zz_iload hX dL_degree_74 8 rfl ?_
      refine zz_goto hX 81 dL_degree_76 (by decide) ?_
      refine zz_iadd (z := nI (18 * i + 6 * j + y)) hX dL_degree_81 (nI_add _ _) ?_
      refine zz_iald (x := mi 105 (18 * i + 6 * j + y)) hX (ql_s105 hI) (18 * i + 6 * j + y) rfl (by omega) (by decide) rfl dL_degree_82 ?_
      refine zz_iconst (v := nI 1) hX dL_degree_83 rfl ?_
      refine zz_isub (z := (mi 105 (18 * i + 6 * j + y)) - (nI 1)) hX dL_degree_84 rfl ?_
      refine zz_istore (ls' := [(0, .ref 104), (1, .ref 105), (2, .int (nI i)), (3, .int (nI j)), (4, .int (nI f)), (5, .int (nI (zs_pf (zv_st S i) f))), (6, .int (nI (18 * i + 6 * j))), (7, .int (-1)), (8, .int (nI y)), (9, .int ((mi 105 (18 * i + 6 * j + y)) - (nI 1)))]) hX dL_degree_85 (Nat.le_of_ble_eq_true rfl) rfl ?_
      refine zz_aload_n hX dL_degree_87 1 rfl rfl ?_
      refine zz_iload hX dL_degree_88 6 rfl ?_
      refine zz_iload hX dL_degree_90 8 rfl ?_
      refine zz_if_ge hX 100 dL_degree_92 (by decide) (fun c92 => ?_) (fun c92 => absurd (nI_pos' (by omega)) c92)
      refine zz_iload hX dL_degree_100 8 rfl ?_
      refine zz_iadd (z := nI (18 * i + 6 * j + y)) hX dL_degree_102 (nI_add _ _) ?_
      refine zz_iald (x := mi 105 (18 * i + 6 * j + y)) hX (ql_s105 hI) (18 * i + 6 * j + y) rfl (by omega) (by decide) rfl dL_degree_103 ?_
      refine zz_iconst (v := nI 1) hX dL_degree_104 rfl ?_
      refine zz_isub (z := (mi 105 (18 * i + 6 * j + y)) - (nI 1)) hX dL_degree_105 rfl ?_
      refine zz_istore (ls' := [(0, .ref 104), (1, .ref 105), (2, .int (nI i)), (3, .int (nI j)), (4, .int (nI f)), (5, .int (nI (zs_pf (zv_st S i) f))), (6, .int (nI (18 * i + 6 * j))), (7, .int (-1)), (8, .int (nI y)), (9, .int ((mi 105 (18 * i + 6 * j + y)) - (nI 1))), (10, .int ((mi 105 (18 * i + 6 * j + y)) - (nI 1)))]) hX dL_degree_106 (Nat.le_of_ble_eq_true rfl) rfl ?_
      refine zz_iload hX dL_degree_108 7 rfl ?_
      refine zz_if_lt hX 125 dL_degree_110 (by decide) (fun _ => ?_) (fun c => absurd c (by decide))
      refine zz_iload hX dL_degree_125 7 rfl ?_
      refine zz_if_ge hX 135 dL_degree_127 (by decide) (fun c => absurd c (by decide)) (fun _ => ?_)
      refine zz_iload hX dL_degree_130 10 rfl ?_
      refine zz_goto hX 137 dL_degree_132 (by decide) ?_
      refine zz_iret hX hr rfl (Nat.le_of_ble_eq_true rfl) (Nat.le_of_ble_eq_true rfl) dL_degree_137 ?_
      exact ⟨by rw [← ql_deg hI hi hj hf, ha, hb]; rw [zs_val_nj (by omega)], rfl, rfl, rfl⟩
    · skip
      refine zz_lcl (ls' := [(0, .ref 104), (1, .ref 105), (2, .int (nI i)), (3, .int (nI j)), (4, .int (nI f)), (5, .int (nI (zs_pf (zv_st S i) f))), (6, .int (nI (18 * i + 6 * j))), (7, .int (nI x)), (8, .int (-1))]) (by rw [ha, hb]) ?_
      refine zz_iload hX dL_degree_54 7 rfl ?_
      refine zz_if_ge hX 66 dL_degree_56 (by decide) (fun c56 => ?_) (fun c56 => absurd (nI_pos' (by omega)) c56)
      refine zz_aload_n hX dL_degree_66 1 rfl rfl ?_
      refine zz_iload hX dL_degree_67 6 rfl ?_
      refine zz_iload hX dL_degree_69 7 rfl ?_
      refine zz_if_ge hX 79 dL_degree_71 (by decide) (fun c71 => ?_) (fun c71 => absurd (nI_pos' (by omega)) c71)
      refine zz_iload hX dL_degree_79 7 rfl ?_
      refine zz_iadd (z := nI (18 * i + 6 * j + x)) hX dL_degree_81 (nI_add _ _) ?_
      refine zz_iald (x := mi 105 (18 * i + 6 * j + x)) hX (ql_s105 hI) (18 * i + 6 * j + x) rfl (by omega) (by decide) rfl dL_degree_82 ?_
      refine zz_iconst (v := nI 1) hX dL_degree_83 rfl ?_
      refine zz_isub (z := (mi 105 (18 * i + 6 * j + x)) - (nI 1)) hX dL_degree_84 rfl ?_
      refine zz_istore (ls' := [(0, .ref 104), (1, .ref 105), (2, .int (nI i)), (3, .int (nI j)), (4, .int (nI f)), (5, .int (nI (zs_pf (zv_st S i) f))), (6, .int (nI (18 * i + 6 * j))), (7, .int (nI x)), (8, .int (-1)), (9, .int ((mi 105 (18 * i + 6 * j + x)) - (nI 1)))]) hX dL_degree_85 (Nat.le_of_ble_eq_true rfl) rfl ?_
      refine zz_aload_n hX dL_degree_87 1 rfl rfl ?_
      refine zz_iload hX dL_degree_88 6 rfl ?_
      refine zz_iload hX dL_degree_90 8 rfl ?_
      refine zz_if_ge hX 100 dL_degree_92 (by decide) (fun c => absurd c (by decide)) (fun _ => ?_)
      refine zz_iload hX dL_degree_95 7 rfl ?_
      refine zz_goto hX 102 dL_degree_97 (by decide) ?_
      refine zz_iadd (z := nI (18 * i + 6 * j + x)) hX dL_degree_102 (nI_add _ _) ?_
      refine zz_iald (x := mi 105 (18 * i + 6 * j + x)) hX (ql_s105 hI) (18 * i + 6 * j + x) rfl (by omega) (by decide) rfl dL_degree_103 ?_
      refine zz_iconst (v := nI 1) hX dL_degree_104 rfl ?_
      refine zz_isub (z := (mi 105 (18 * i + 6 * j + x)) - (nI 1)) hX dL_degree_105 rfl ?_
      refine zz_istore (ls' := [(0, .ref 104), (1, .ref 105), (2, .int (nI i)), (3, .int (nI j)), (4, .int (nI f)), (5, .int (nI (zs_pf (zv_st S i) f))), (6, .int (nI (18 * i + 6 * j))), (7, .int (nI x)), (8, .int (-1)), (9, .int ((mi 105 (18 * i + 6 * j + x)) - (nI 1))), (10, .int ((mi 105 (18 * i + 6 * j + x)) - (nI 1)))]) hX dL_degree_106 (Nat.le_of_ble_eq_true rfl) rfl ?_
      refine zz_iload hX dL_degree_108 7 rfl ?_
      refine zz_if_lt hX 125 dL_degree_110 (by decide) (fun c110 => absurd c110 (nI_pos (by omega))) (fun c110 => ?_)
      refine zz_iload hX dL_degree_113 8 rfl ?_
      refine zz_if_lt hX 125 dL_degree_115 (by decide) (fun _ => ?_) (fun c => absurd c (by decide))
      refine zz_iload hX dL_degree_125 7 rfl ?_
      refine zz_if_ge hX 135 dL_degree_127 (by decide) (fun c127 => ?_) (fun c127 => absurd (nI_pos' (by omega)) c127)
      refine zz_iload hX dL_degree_135 9 rfl ?_
      refine zz_iret hX hr rfl (Nat.le_of_ble_eq_true rfl) (Nat.le_of_ble_eq_true rfl) dL_degree_137 ?_
      exact ⟨by rw [← ql_deg hI hi hj hf, ha, hb]; rw [zs_val_ix (by omega)], rfl, rfl, rfl⟩
    · skip
      refine zz_lcl (ls' := [(0, .ref 104), (1, .ref 105), (2, .int (nI i)), (3, .int (nI j)), (4, .int (nI f)), (5, .int (nI (zs_pf (zv_st S i) f))), (6, .int (nI (18 * i + 6 * j))), (7, .int (nI x)), (8, .int (nI y))]) (by rw [ha, hb]) ?_
      refine zz_iload hX dL_degree_54 7 rfl ?_
      refine zz_if_ge hX 66 dL_degree_56 (by decide) (fun c56 => ?_) (fun c56 => absurd (nI_pos' (by omega)) c56)
      refine zz_aload_n hX dL_degree_66 1 rfl rfl ?_
      refine zz_iload hX dL_degree_67 6 rfl ?_
      refine zz_iload hX dL_degree_69 7 rfl ?_
      refine zz_if_ge hX 79 dL_degree_71 (by decide) (fun c71 => ?_) (fun c71 => absurd (nI_pos' (by omega)) c71)
      refine zz_iload hX dL_degree_79 7 rfl ?_
      refine zz_iadd (z := nI (18 * i + 6 * j + x)) hX dL_degree_81 (nI_add _ _) ?_
      refine zz_iald (x := mi 105 (18 * i + 6 * j + x)) hX (ql_s105 hI) (18 * i + 6 * j + x) rfl (by omega) (by decide) rfl dL_degree_82 ?_
      refine zz_iconst (v := nI 1) hX dL_degree_83 rfl ?_
      refine zz_isub (z := (mi 105 (18 * i + 6 * j + x)) - (nI 1)) hX dL_degree_84 rfl ?_
      refine zz_istore (ls' := [(0, .ref 104), (1, .ref 105), (2, .int (nI i)), (3, .int (nI j)), (4, .int (nI f)), (5, .int (nI (zs_pf (zv_st S i) f))), (6, .int (nI (18 * i + 6 * j))), (7, .int (nI x)), (8, .int (nI y)), (9, .int ((mi 105 (18 * i + 6 * j + x)) - (nI 1)))]) hX dL_degree_85 (Nat.le_of_ble_eq_true rfl) rfl ?_
      refine zz_aload_n hX dL_degree_87 1 rfl rfl ?_
      refine zz_iload hX dL_degree_88 6 rfl ?_
      refine zz_iload hX dL_degree_90 8 rfl ?_
      refine zz_if_ge hX 100 dL_degree_92 (by decide) (fun c92 => ?_) (fun c92 => absurd (nI_pos' (by omega)) c92)
      refine zz_iload hX dL_degree_100 8 rfl ?_
      refine zz_iadd (z := nI (18 * i + 6 * j + y)) hX dL_degree_102 (nI_add _ _) ?_
      refine zz_iald (x := mi 105 (18 * i + 6 * j + y)) hX (ql_s105 hI) (18 * i + 6 * j + y) rfl (by omega) (by decide) rfl dL_degree_103 ?_
      refine zz_iconst (v := nI 1) hX dL_degree_104 rfl ?_
      refine zz_isub (z := (mi 105 (18 * i + 6 * j + y)) - (nI 1)) hX dL_degree_105 rfl ?_
      refine zz_istore (ls' := [(0, .ref 104), (1, .ref 105), (2, .int (nI i)), (3, .int (nI j)), (4, .int (nI f)), (5, .int (nI (zs_pf (zv_st S i) f))), (6, .int (nI (18 * i + 6 * j))), (7, .int (nI x)), (8, .int (nI y)), (9, .int ((mi 105 (18 * i + 6 * j + x)) - (nI 1))), (10, .int ((mi 105 (18 * i + 6 * j + y)) - (nI 1)))]) hX dL_degree_106 (Nat.le_of_ble_eq_true rfl) rfl ?_
      refine zz_iload hX dL_degree_108 7 rfl ?_
      refine zz_if_lt hX 125 dL_degree_110 (by decide) (fun c110 => absurd c110 (nI_pos (by omega))) (fun c110 => ?_)
      refine zz_iload hX dL_degree_113 8 rfl ?_
      refine zz_if_lt hX 125 dL_degree_115 (by decide) (fun c115 => absurd c115 (nI_pos (by omega))) (fun c115 => ?_)
      refine zz_iload hX dL_degree_118 7 rfl ?_
      refine zz_iload hX dL_degree_120 8 rfl ?_
      refine zz_icmp_neN hX (by omega) (by omega) 138 dL_degree_122 (by decide) (fun c122 => ?_) (fun c122 => ?_)
      · skip
        have K162 : zz Γ (D, E, 14, ad, sh) (zz_End Γ (D, E, 14, ad, sh) (zz_q (some (.int (zp_deg S i j f))) sh mi mr) zz_none 0 0) 0 0 sh mi mr 162 [(0, .ref 104), (1, .ref 105), (2, .int (nI i)), (3, .int (nI j)), (4, .int (nI f)), (5, .int (nI (zs_pf (zv_st S i) f))), (6, .int (nI (18 * i + 6 * j))), (7, .int (nI x)), (8, .int (nI y)), (9, .int ((mi 105 (18 * i + 6 * j + x)) - (nI 1))), (10, .int ((mi 105 (18 * i + 6 * j + y)) - (nI 1)))] [.int (ql_up (mi 105 (18 * i + 6 * j + x) - nI 1) (mi 105 (18 * i + 6 * j + y) - nI 1))] := by
          refine zz_istore (ls' := [(0, .ref 104), (1, .ref 105), (2, .int (nI i)), (3, .int (nI j)), (4, .int (nI f)), (5, .int (nI (zs_pf (zv_st S i) f))), (6, .int (nI (18 * i + 6 * j))), (7, .int (nI x)), (8, .int (nI y)), (9, .int ((mi 105 (18 * i + 6 * j + x)) - (nI 1))), (10, .int ((mi 105 (18 * i + 6 * j + y)) - (nI 1))), (11, .int (ql_up (mi 105 (18 * i + 6 * j + x) - nI 1) (mi 105 (18 * i + 6 * j + y) - nI 1)))]) hX dL_degree_162 (Nat.le_of_ble_eq_true rfl) rfl ?_
          have K208 : zz Γ (D, E, 14, ad, sh) (zz_End Γ (D, E, 14, ad, sh) (zz_q (some (.int (zp_deg S i j f))) sh mi mr) zz_none 0 0) 0 0 sh mi mr 208 [(0, .ref 104), (1, .ref 105), (2, .int (nI i)), (3, .int (nI j)), (4, .int (nI f)), (5, .int (nI (zs_pf (zv_st S i) f))), (6, .int (nI (18 * i + 6 * j))), (7, .int (nI x)), (8, .int (nI y)), (9, .int ((mi 105 (18 * i + 6 * j + x)) - (nI 1))), (10, .int ((mi 105 (18 * i + 6 * j + y)) - (nI 1))), (11, .int (ql_up (mi 105 (18 * i + 6 * j + x) - nI 1) (mi 105 (18 * i + 6 * j + y) - nI 1)))] [.int (ql_gone (mi 105 (18 * i + 6 * j + x) - nI 1) (mi 105 (18 * i + 6 * j + y) - nI 1) (nI (zs_pf (zv_st S i) f - x)) (nI (y - x)))] := by
            refine zz_istore (ls' := [(0, .ref 104), (1, .ref 105), (2, .int (nI i)), (3, .int (nI j)), (4, .int (nI f)), (5, .int (nI (zs_pf (zv_st S i) f))), (6, .int (nI (18 * i + 6 * j))), (7, .int (nI x)), (8, .int (nI y)), (9, .int ((mi 105 (18 * i + 6 * j + x)) - (nI 1))), (10, .int ((mi 105 (18 * i + 6 * j + y)) - (nI 1))), (11, .int (ql_up (mi 105 (18 * i + 6 * j + x) - nI 1) (mi 105 (18 * i + 6 * j + y) - nI 1))), (12, .int (ql_gone (mi 105 (18 * i + 6 * j + x) - nI 1) (mi 105 (18 * i + 6 * j + y) - nI 1) (nI (zs_pf (zv_st S i) f - x)) (nI (y - x))))]) hX dL_degree_208 (Nat.le_of_ble_eq_true rfl) rfl ?_
            refine zz_iload hX dL_degree_210 9 rfl ?_
            refine zz_iload hX dL_degree_212 12 rfl ?_
            refine zz_iadd (z := ((mi 105 (18 * i + 6 * j + x)) - (nI 1)) + (ql_gone (mi 105 (18 * i + 6 * j + x) - nI 1) (mi 105 (18 * i + 6 * j + y) - nI 1) (nI (zs_pf (zv_st S i) f - x)) (nI (y - x)))) hX dL_degree_214 rfl ?_
            refine zz_istore (ls' := [(0, .ref 104), (1, .ref 105), (2, .int (nI i)), (3, .int (nI j)), (4, .int (nI f)), (5, .int (nI (zs_pf (zv_st S i) f))), (6, .int (nI (18 * i + 6 * j))), (7, .int (nI x)), (8, .int (nI y)), (9, .int ((mi 105 (18 * i + 6 * j + x)) - (nI 1))), (10, .int ((mi 105 (18 * i + 6 * j + y)) - (nI 1))), (11, .int (ql_up (mi 105 (18 * i + 6 * j + x) - nI 1) (mi 105 (18 * i + 6 * j + y) - nI 1))), (12, .int (ql_gone (mi 105 (18 * i + 6 * j + x) - nI 1) (mi 105 (18 * i + 6 * j + y) - nI 1) (nI (zs_pf (zv_st S i) f - x)) (nI (y - x)))), (13, .int (((mi 105 (18 * i + 6 * j + x)) - (nI 1)) + (ql_gone (mi 105 (18 * i + 6 * j + x) - nI 1) (mi 105 (18 * i + 6 * j + y) - nI 1) (nI (zs_pf (zv_st S i) f - x)) (nI (y - x)))))]) hX dL_degree_215 (Nat.le_of_ble_eq_true rfl) rfl ?_
            refine zz_iload hX dL_degree_217 13 rfl ?_
            refine zz_if_ge hX 231 dL_degree_219 (by decide) (fun c219 => ?_) (fun c219 => ?_)
            · skip
              refine zz_iload hX dL_degree_231 13 rfl ?_
              refine zz_sipush (v := nI 359) hX dL_degree_233 rfl ?_
              refine zz_icmp_le hX 248 dL_degree_236 (by decide) (fun c236 => ?_) (fun c236 => ?_)
              · skip
                refine zz_iload hX dL_degree_248 13 rfl ?_
                refine zz_iret hX hr rfl (Nat.le_of_ble_eq_true rfl) (Nat.le_of_ble_eq_true rfl) dL_degree_250 ?_
                exact ⟨by rw [← ql_deg hI hi hj hf, ha, hb]; rw [zs_val_mx (by omega) (by omega) (by omega), ← ql_mix_eq (ql_degk hI hi hj (by omega) gx) (ql_degk hI hi hj (by omega) gy) (by omega) (by omega)]; unfold ql_fin; rw [if_neg (zs_nlt9 c219), if_pos c236], rfl, rfl, rfl⟩
              · skip
                refine zz_iload hX dL_degree_239 13 rfl ?_
                refine zz_sipush (v := nI 360) hX dL_degree_241 rfl ?_
                refine zz_isub (z := (((mi 105 (18 * i + 6 * j + x)) - (nI 1)) + (ql_gone (mi 105 (18 * i + 6 * j + x) - nI 1) (mi 105 (18 * i + 6 * j + y) - nI 1) (nI (zs_pf (zv_st S i) f - x)) (nI (y - x)))) - (nI 360)) hX dL_degree_244 rfl ?_
                refine zz_goto hX 250 dL_degree_245 (by decide) ?_
                refine zz_iret hX hr rfl (Nat.le_of_ble_eq_true rfl) (Nat.le_of_ble_eq_true rfl) dL_degree_250 ?_
                exact ⟨by rw [← ql_deg hI hi hj hf, ha, hb]; rw [zs_val_mx (by omega) (by omega) (by omega), ← ql_mix_eq (ql_degk hI hi hj (by omega) gx) (ql_degk hI hi hj (by omega) gy) (by omega) (by omega)]; unfold ql_fin; rw [if_neg (zs_nlt9 c219), if_neg c236], rfl, rfl, rfl⟩
            · skip
              refine zz_iload hX dL_degree_222 13 rfl ?_
              refine zz_sipush (v := nI 360) hX dL_degree_224 rfl ?_
              refine zz_iadd (z := (((mi 105 (18 * i + 6 * j + x)) - (nI 1)) + (ql_gone (mi 105 (18 * i + 6 * j + x) - nI 1) (mi 105 (18 * i + 6 * j + y) - nI 1) (nI (zs_pf (zv_st S i) f - x)) (nI (y - x)))) + (nI 360)) hX dL_degree_227 rfl ?_
              refine zz_goto hX 250 dL_degree_228 (by decide) ?_
              refine zz_iret hX hr rfl (Nat.le_of_ble_eq_true rfl) (Nat.le_of_ble_eq_true rfl) dL_degree_250 ?_
              exact ⟨by rw [← ql_deg hI hi hj hf, ha, hb]; rw [zs_val_mx (by omega) (by omega) (by omega), ← ql_mix_eq (ql_degk hI hi hj (by omega) gx) (ql_degk hI hi hj (by omega) gy) (by omega) (by omega)]; unfold ql_fin; rw [if_pos (zs_nle9 c219)], rfl, rfl, rfl⟩
          refine zz_iload hX dL_degree_164 11 rfl ?_
          refine zz_sipush (v := nI 180) hX dL_degree_166 rfl ?_
          refine zz_icmp_gt hX 189 dL_degree_169 (by decide) (fun c169 => ?_) (fun c169 => ?_)
          · skip
            refine zz_sipush (v := nI 360) hX dL_degree_189 rfl ?_
            refine zz_iload hX dL_degree_192 11 rfl ?_
            refine zz_isub (z := (nI 360) - (ql_up (mi 105 (18 * i + 6 * j + x) - nI 1) (mi 105 (18 * i + 6 * j + y) - nI 1))) hX dL_degree_194 rfl ?_
            refine zz_iload hX dL_degree_195 5 rfl ?_
            refine zz_iload hX dL_degree_197 7 rfl ?_
            refine zz_isub (z := nI (zs_pf (zv_st S i) f - x)) hX dL_degree_199 (pk_sub (by omega)) ?_
            refine zz_imul (z := ((nI 360) - (ql_up (mi 105 (18 * i + 6 * j + x) - nI 1) (mi 105 (18 * i + 6 * j + y) - nI 1))) * (nI (zs_pf (zv_st S i) f - x))) hX dL_degree_200 rfl ?_
            refine zz_iload hX dL_degree_201 8 rfl ?_
            refine zz_iload hX dL_degree_203 7 rfl ?_
            refine zz_isub (z := nI (y - x)) hX dL_degree_205 (pk_sub (by omega)) ?_
            refine zz_idiv (z := (((nI 360) - (ql_up (mi 105 (18 * i + 6 * j + x) - nI 1) (mi 105 (18 * i + 6 * j + y) - nI 1))) * (nI (zs_pf (zv_st S i) f - x))) / (nI (y - x))) hX dL_degree_206 (nI_ne0 (by omega) (by omega)) rfl ?_
            refine zz_ineg (z := -((((nI 360) - (ql_up (mi 105 (18 * i + 6 * j + x) - nI 1) (mi 105 (18 * i + 6 * j + y) - nI 1))) * (nI (zs_pf (zv_st S i) f - x))) / (nI (y - x)))) hX dL_degree_207 rfl ?_
            exact zz_top (by unfold ql_gone; rw [if_neg (fun h => by rw [zs_le] at h; rw [zs_lt] at c169; omega)]) K208
          · skip
            refine zz_iload hX dL_degree_172 11 rfl ?_
            refine zz_iload hX dL_degree_174 5 rfl ?_
            refine zz_iload hX dL_degree_176 7 rfl ?_
            refine zz_isub (z := nI (zs_pf (zv_st S i) f - x)) hX dL_degree_178 (pk_sub (by omega)) ?_
            refine zz_imul (z := (ql_up (mi 105 (18 * i + 6 * j + x) - nI 1) (mi 105 (18 * i + 6 * j + y) - nI 1)) * (nI (zs_pf (zv_st S i) f - x))) hX dL_degree_179 rfl ?_
            refine zz_iload hX dL_degree_180 8 rfl ?_
            refine zz_iload hX dL_degree_182 7 rfl ?_
            refine zz_isub (z := nI (y - x)) hX dL_degree_184 (pk_sub (by omega)) ?_
            refine zz_idiv (z := ((ql_up (mi 105 (18 * i + 6 * j + x) - nI 1) (mi 105 (18 * i + 6 * j + y) - nI 1)) * (nI (zs_pf (zv_st S i) f - x))) / (nI (y - x))) hX dL_degree_185 (nI_ne0 (by omega) (by omega)) rfl ?_
            refine zz_goto hX 208 dL_degree_186 (by decide) ?_
            exact zz_top (by unfold ql_gone; rw [if_pos (zs_if142 c169)]) K208
        refine zz_iload hX dL_degree_138 10 rfl ?_
        refine zz_iload hX dL_degree_140 9 rfl ?_
        refine zz_icmp_lt hX 153 dL_degree_142 (by decide) (fun c142 => ?_) (fun c142 => ?_)
        · skip
          refine zz_iload hX dL_degree_153 10 rfl ?_
          refine zz_iload hX dL_degree_155 9 rfl ?_
          refine zz_isub (z := ((mi 105 (18 * i + 6 * j + y)) - (nI 1)) - ((mi 105 (18 * i + 6 * j + x)) - (nI 1))) hX dL_degree_157 rfl ?_
          refine zz_sipush (v := nI 360) hX dL_degree_158 rfl ?_
          refine zz_iadd (z := (((mi 105 (18 * i + 6 * j + y)) - (nI 1)) - ((mi 105 (18 * i + 6 * j + x)) - (nI 1))) + (nI 360)) hX dL_degree_161 rfl ?_
          exact zz_top (by unfold ql_up; rw [if_neg (fun h => by rw [zs_le] at h; rw [zs_lt] at c142; omega)]) K162
        · skip
          refine zz_iload hX dL_degree_145 10 rfl ?_
          refine zz_iload hX dL_degree_147 9 rfl ?_
          refine zz_isub (z := ((mi 105 (18 * i + 6 * j + y)) - (nI 1)) - ((mi 105 (18 * i + 6 * j + x)) - (nI 1))) hX dL_degree_149 rfl ?_
          refine zz_goto hX 162 dL_degree_150 (by decide) ?_
          exact zz_top (by unfold ql_up; rw [if_pos (zs_if142 c142)]) K162
      · skip
        refine zz_iload hX dL_degree_125 7 rfl ?_
        refine zz_if_ge hX 135 dL_degree_127 (by decide) (fun c127 => ?_) (fun c127 => absurd (nI_pos' (by omega)) c127)
        refine zz_iload hX dL_degree_135 9 rfl ?_
        refine zz_iret hX hr rfl (Nat.le_of_ble_eq_true rfl) (Nat.le_of_ble_eq_true rfl) dL_degree_137 ?_
        exact ⟨by rw [← ql_deg hI hi hj hf, ha, hb]; rw [zs_val_ij (by omega) (by omega)], rfl, rfl, rfl⟩
  refine zz_aload_n hX dL_degree_0 0 rfl rfl ?_
  refine zz_iload_n hX dL_degree_1 2 rfl rfl ?_
  refine zz_iload hX dL_degree_2 4 rfl ?_
  refine zz_sI (x := zz_bi (zp_held S i f)) hX zf_M_L_91 (As := [.ref 104, .int (nI i), .int (nI f)]) (st := []) (Q_isHeld n S sh mi mr hI i (by omega) f (by omega)) rfl rfl (by decide) (Nat.le_of_ble_eq_true rfl) (Nat.le_of_ble_eq_true rfl) (Nat.le_of_ble_eq_true rfl) dL_degree_4 ?_
  refine zz_if_eqB hX 17 dL_degree_7 (by decide) (fun c7 => ?_) (fun c7 => ?_)
  · skip
    refine zz_iload hX dL_degree_17 4 rfl ?_
    exact zz_top (congrArg nI (Classical.not_not.mp c7).symm) K19
  · skip
    refine zz_iload hX dL_degree_10 4 rfl ?_
    refine zz_iconst (v := nI 1) hX dL_degree_12 rfl ?_
    refine zz_isub (z := nI (f - 1)) hX dL_degree_13 (pk_sub (by have := zs_pf_held0 c7; omega)) ?_
    refine zz_goto hX 19 dL_degree_14 (by decide) ?_
    exact zz_top (congrArg nI (zs_pf_of_held c7).symm) K19

set_option maxRecDepth 20000 in
theorem Q_place (n : Nat) (S : zS) (sh : zm_Sh) (mi : zm_Mi) (mr : zm_Mr) (hI : ql_I n S sh mi) (i : Nat) (hi : i < zv_ns S) (f : Nat) (hf : f < zv_fr S i) : zz_Con yL_place (.code yL_place cL_place 7 (some Jvm.ClassFile.FieldType.int)) 1 0 0 [.ref 106, .int (nI i), .int (nI f)] sh mi mr (zz_q (some (.int (zp_place S i f))) sh mi mr) zz_none := by
  refine zz_begin RL [(0, .ref 106), (1, .int (nI i)), (2, .int (nI f))] (by decide) rfl rfl (Nat.le_of_ble_eq_true rfl) rfl ?_
  intro Γ D E ad hX hr hN hT
  have hw9 := ql_hw_lt hI hi
  obtain ⟨q1, q2, q3, q4, q5, q6, q7, q8, q9, q10, q11, q12⟩ := ql_shot hI hi
  refine zz_aload_n hX dL_place_0 0 rfl rfl ?_
  refine zz_bipush (v := nI 6) hX dL_place_1 rfl ?_
  refine zz_iload_n hX dL_place_3 1 rfl rfl ?_
  refine zz_imul (z := nI (6 * i)) hX dL_place_4 (pk_mul _ _) ?_
  refine zz_iload_n hX dL_place_5 2 rfl rfl ?_
  refine zz_iconst (v := (-1)) hX dL_place_6 rfl ?_
  refine zz_sI (x := zs_up (fun x => ¬ mi 106 (6 * i + x) = 0) (f + 1)) hX zf_M_L_97 (As := [.ref 106, .int (nI (6 * i)), .int (nI f), .int (-1)]) (st := []) (Q_nearD 106 (6 * i) 19 f sh mi mr (ql_s106 hI) (by omega) (by decide) (by omega)) rfl rfl (by decide) (Nat.le_of_ble_eq_true rfl) (Nat.le_of_ble_eq_true rfl) (Nat.le_of_ble_eq_true rfl) dL_place_7 ?_
  refine zz_istore_n (ls' := [(0, .ref 106), (1, .int (nI i)), (2, .int (nI f)), (3, .int (zs_up (fun x => ¬ mi 106 (6 * i + x) = 0) (f + 1)))]) hX dL_place_10 rfl (Nat.le_of_ble_eq_true rfl) rfl ?_
  refine zz_aload_n hX dL_place_11 0 rfl rfl ?_
  refine zz_bipush (v := nI 6) hX dL_place_12 rfl ?_
  refine zz_iload_n hX dL_place_14 1 rfl rfl ?_
  refine zz_imul (z := nI (6 * i)) hX dL_place_15 (pk_mul _ _) ?_
  refine zz_iload_n hX dL_place_16 2 rfl rfl ?_
  refine zz_iconst (v := nI 1) hX dL_place_17 rfl ?_
  refine zz_sI (x := zs_fst (fun x => ¬ mi 106 (6 * i + x) = 0) nI (6 - f) f) hX zf_M_L_97 (As := [.ref 106, .int (nI (6 * i)), .int (nI f), .int (nI 1)]) (st := []) (Q_nearU 106 (6 * i) 19 f sh mi mr (ql_s106 hI) (by omega) (by decide) (by omega)) rfl rfl (by decide) (Nat.le_of_ble_eq_true rfl) (Nat.le_of_ble_eq_true rfl) (Nat.le_of_ble_eq_true rfl) dL_place_18 ?_
  refine zz_istore (ls' := [(0, .ref 106), (1, .int (nI i)), (2, .int (nI f)), (3, .int (zs_up (fun x => ¬ mi 106 (6 * i + x) = 0) (f + 1))), (4, .int (zs_fst (fun x => ¬ mi 106 (6 * i + x) = 0) nI (6 - f) f))]) hX dL_place_21 (Nat.le_of_ble_eq_true rfl) rfl ?_
  rcases zs_up_cases (fun x => ¬ mi 106 (6 * i + x) = 0) (f + 1) with ⟨ha, na⟩ | ⟨x, hx, gx, ha, na⟩ <;> rcases zs_fst_cases (fun x => ¬ mi 106 (6 * i + x) = 0) nI (6 - f) f with ⟨hb, nb⟩ | ⟨y, hy1, hy2, gy, hb, nb⟩
  · skip
    refine zz_lcl (ls' := [(0, .ref 106), (1, .int (nI i)), (2, .int (nI f)), (3, .int (-1)), (4, .int (-1))]) (by rw [ha, hb]) ?_
    refine zz_iload_n hX dL_place_23 3 rfl rfl ?_
    refine zz_if_ge hX 34 dL_place_24 (by decide) (fun c => absurd c (by decide)) (fun _ => ?_)
    refine zz_iload hX dL_place_27 4 rfl ?_
    refine zz_if_ge hX 34 dL_place_29 (by decide) (fun c => absurd c (by decide)) (fun _ => ?_)
    refine zz_iconst (v := nI 0) hX dL_place_32 rfl ?_
    refine zz_iret hX hr rfl (Nat.le_of_ble_eq_true rfl) (Nat.le_of_ble_eq_true rfl) dL_place_33 ?_
    exact ⟨by rw [← ql_plc hI hi hf, ha, hb]; rfl, rfl, rfl, rfl⟩
  · skip
    refine zz_lcl (ls' := [(0, .ref 106), (1, .int (nI i)), (2, .int (nI f)), (3, .int (-1)), (4, .int (nI y))]) (by rw [ha, hb]) ?_
    refine zz_iload_n hX dL_place_23 3 rfl rfl ?_
    refine zz_if_ge hX 34 dL_place_24 (by decide) (fun c => absurd c (by decide)) (fun _ => ?_)
    refine zz_iload hX dL_place_27 4 rfl ?_
    refine zz_if_ge hX 34 dL_place_29 (by decide) (fun c29 => ?_) (fun c29 => absurd (nI_pos' (by omega)) c29)
    refine zz_aload_n hX dL_place_34 0 rfl rfl ?_
    refine zz_bipush (v := nI 6) hX dL_place_35 rfl ?_
    refine zz_iload_n hX dL_place_37 1 rfl rfl ?_
    refine zz_imul (z := nI (6 * i)) hX dL_place_38 (pk_mul _ _) ?_
    refine zz_iload_n hX dL_place_39 3 rfl rfl ?_
    refine zz_if_ge hX 48 dL_place_40 (by decide) (fun c => absurd c (by decide)) (fun _ => ?_)
    refine zz_iload hX dL_place_43 4 rfl ?_
    refine zz_goto hX 49 dL_place_45 (by decide) ?_
    refine zz_iadd (z := nI (6 * i + y)) hX dL_place_49 (nI_add _ _) ?_
    refine zz_iald (x := mi 106 (6 * i + y)) hX (ql_s106 hI) (6 * i + y) rfl (by omega) (by decide) rfl dL_place_50 ?_
    refine zz_sipush (v := nI 1000) hX dL_place_51 rfl ?_
    refine zz_isub (z := (mi 106 (6 * i + y)) - (nI 1000)) hX dL_place_54 rfl ?_
    refine zz_istore (ls' := [(0, .ref 106), (1, .int (nI i)), (2, .int (nI f)), (3, .int (-1)), (4, .int (nI y)), (5, .int ((mi 106 (6 * i + y)) - (nI 1000)))]) hX dL_place_55 (Nat.le_of_ble_eq_true rfl) rfl ?_
    refine zz_aload_n hX dL_place_57 0 rfl rfl ?_
    refine zz_bipush (v := nI 6) hX dL_place_58 rfl ?_
    refine zz_iload_n hX dL_place_60 1 rfl rfl ?_
    refine zz_imul (z := nI (6 * i)) hX dL_place_61 (pk_mul _ _) ?_
    refine zz_iload hX dL_place_62 4 rfl ?_
    refine zz_if_ge hX 71 dL_place_64 (by decide) (fun c64 => ?_) (fun c64 => absurd (nI_pos' (by omega)) c64)
    refine zz_iload hX dL_place_71 4 rfl ?_
    refine zz_iadd (z := nI (6 * i + y)) hX dL_place_73 (nI_add _ _) ?_
    refine zz_iald (x := mi 106 (6 * i + y)) hX (ql_s106 hI) (6 * i + y) rfl (by omega) (by decide) rfl dL_place_74 ?_
    refine zz_sipush (v := nI 1000) hX dL_place_75 rfl ?_
    refine zz_isub (z := (mi 106 (6 * i + y)) - (nI 1000)) hX dL_place_78 rfl ?_
    refine zz_istore (ls' := [(0, .ref 106), (1, .int (nI i)), (2, .int (nI f)), (3, .int (-1)), (4, .int (nI y)), (5, .int ((mi 106 (6 * i + y)) - (nI 1000))), (6, .int ((mi 106 (6 * i + y)) - (nI 1000)))]) hX dL_place_79 (Nat.le_of_ble_eq_true rfl) rfl ?_
    refine zz_iload_n hX dL_place_81 3 rfl rfl ?_
    refine zz_if_lt hX 96 dL_place_82 (by decide) (fun _ => ?_) (fun c => absurd c (by decide))
    refine zz_iload_n hX dL_place_96 3 rfl rfl ?_
    refine zz_if_ge hX 105 dL_place_97 (by decide) (fun c => absurd c (by decide)) (fun _ => ?_)
    refine zz_iload hX dL_place_100 6 rfl ?_
    refine zz_goto hX 127 dL_place_102 (by decide) ?_
    refine zz_iret hX hr rfl (Nat.le_of_ble_eq_true rfl) (Nat.le_of_ble_eq_true rfl) dL_place_127 ?_
    exact ⟨by rw [← ql_plc hI hi hf, ha, hb]; rw [zs_val_nj (by omega)], rfl, rfl, rfl⟩
  · skip
    refine zz_lcl (ls' := [(0, .ref 106), (1, .int (nI i)), (2, .int (nI f)), (3, .int (nI x)), (4, .int (-1))]) (by rw [ha, hb]) ?_
    refine zz_iload_n hX dL_place_23 3 rfl rfl ?_
    refine zz_if_ge hX 34 dL_place_24 (by decide) (fun c24 => ?_) (fun c24 => absurd (nI_pos' (by omega)) c24)
    refine zz_aload_n hX dL_place_34 0 rfl rfl ?_
    refine zz_bipush (v := nI 6) hX dL_place_35 rfl ?_
    refine zz_iload_n hX dL_place_37 1 rfl rfl ?_
    refine zz_imul (z := nI (6 * i)) hX dL_place_38 (pk_mul _ _) ?_
    refine zz_iload_n hX dL_place_39 3 rfl rfl ?_
    refine zz_if_ge hX 48 dL_place_40 (by decide) (fun c40 => ?_) (fun c40 => absurd (nI_pos' (by omega)) c40)
    refine zz_iload_n hX dL_place_48 3 rfl rfl ?_
    refine zz_iadd (z := nI (6 * i + x)) hX dL_place_49 (nI_add _ _) ?_
    refine zz_iald (x := mi 106 (6 * i + x)) hX (ql_s106 hI) (6 * i + x) rfl (by omega) (by decide) rfl dL_place_50 ?_
    refine zz_sipush (v := nI 1000) hX dL_place_51 rfl ?_
    refine zz_isub (z := (mi 106 (6 * i + x)) - (nI 1000)) hX dL_place_54 rfl ?_
    refine zz_istore (ls' := [(0, .ref 106), (1, .int (nI i)), (2, .int (nI f)), (3, .int (nI x)), (4, .int (-1)), (5, .int ((mi 106 (6 * i + x)) - (nI 1000)))]) hX dL_place_55 (Nat.le_of_ble_eq_true rfl) rfl ?_
    refine zz_aload_n hX dL_place_57 0 rfl rfl ?_
    refine zz_bipush (v := nI 6) hX dL_place_58 rfl ?_
    refine zz_iload_n hX dL_place_60 1 rfl rfl ?_
    refine zz_imul (z := nI (6 * i)) hX dL_place_61 (pk_mul _ _) ?_
    refine zz_iload hX dL_place_62 4 rfl ?_
    refine zz_if_ge hX 71 dL_place_64 (by decide) (fun c => absurd c (by decide)) (fun _ => ?_)
    refine zz_iload_n hX dL_place_67 3 rfl rfl ?_
    refine zz_goto hX 73 dL_place_68 (by decide) ?_
    refine zz_iadd (z := nI (6 * i + x)) hX dL_place_73 (nI_add _ _) ?_
    refine zz_iald (x := mi 106 (6 * i + x)) hX (ql_s106 hI) (6 * i + x) rfl (by omega) (by decide) rfl dL_place_74 ?_
    refine zz_sipush (v := nI 1000) hX dL_place_75 rfl ?_
    refine zz_isub (z := (mi 106 (6 * i + x)) - (nI 1000)) hX dL_place_78 rfl ?_
    refine zz_istore (ls' := [(0, .ref 106), (1, .int (nI i)), (2, .int (nI f)), (3, .int (nI x)), (4, .int (-1)), (5, .int ((mi 106 (6 * i + x)) - (nI 1000))), (6, .int ((mi 106 (6 * i + x)) - (nI 1000)))]) hX dL_place_79 (Nat.le_of_ble_eq_true rfl) rfl ?_
    refine zz_iload_n hX dL_place_81 3 rfl rfl ?_
    refine zz_if_lt hX 96 dL_place_82 (by decide) (fun c82 => absurd c82 (nI_pos (by omega))) (fun c82 => ?_)
    refine zz_iload hX dL_place_85 4 rfl ?_
    refine zz_if_lt hX 96 dL_place_87 (by decide) (fun _ => ?_) (fun c => absurd c (by decide))
    refine zz_iload_n hX dL_place_96 3 rfl rfl ?_
    refine zz_if_ge hX 105 dL_place_97 (by decide) (fun c97 => ?_) (fun c97 => absurd (nI_pos' (by omega)) c97)
    refine zz_iload hX dL_place_105 5 rfl ?_
    refine zz_goto hX 127 dL_place_107 (by decide) ?_
    refine zz_iret hX hr rfl (Nat.le_of_ble_eq_true rfl) (Nat.le_of_ble_eq_true rfl) dL_place_127 ?_
    exact ⟨by rw [← ql_plc hI hi hf, ha, hb]; rw [zs_val_ix (by omega)], rfl, rfl, rfl⟩
  · skip
    refine zz_lcl (ls' := [(0, .ref 106), (1, .int (nI i)), (2, .int (nI f)), (3, .int (nI x)), (4, .int (nI y))]) (by rw [ha, hb]) ?_
    refine zz_iload_n hX dL_place_23 3 rfl rfl ?_
    refine zz_if_ge hX 34 dL_place_24 (by decide) (fun c24 => ?_) (fun c24 => absurd (nI_pos' (by omega)) c24)
    refine zz_aload_n hX dL_place_34 0 rfl rfl ?_
    refine zz_bipush (v := nI 6) hX dL_place_35 rfl ?_
    refine zz_iload_n hX dL_place_37 1 rfl rfl ?_
    refine zz_imul (z := nI (6 * i)) hX dL_place_38 (pk_mul _ _) ?_
    refine zz_iload_n hX dL_place_39 3 rfl rfl ?_
    refine zz_if_ge hX 48 dL_place_40 (by decide) (fun c40 => ?_) (fun c40 => absurd (nI_pos' (by omega)) c40)
    refine zz_iload_n hX dL_place_48 3 rfl rfl ?_
    refine zz_iadd (z := nI (6 * i + x)) hX dL_place_49 (nI_add _ _) ?_
    refine zz_iald (x := mi 106 (6 * i + x)) hX (ql_s106 hI) (6 * i + x) rfl (by omega) (by decide) rfl dL_place_50 ?_
    refine zz_sipush (v := nI 1000) hX dL_place_51 rfl ?_
    refine zz_isub (z := (mi 106 (6 * i + x)) - (nI 1000)) hX dL_place_54 rfl ?_
    refine zz_istore (ls' := [(0, .ref 106), (1, .int (nI i)), (2, .int (nI f)), (3, .int (nI x)), (4, .int (nI y)), (5, .int ((mi 106 (6 * i + x)) - (nI 1000)))]) hX dL_place_55 (Nat.le_of_ble_eq_true rfl) rfl ?_
    refine zz_aload_n hX dL_place_57 0 rfl rfl ?_
    refine zz_bipush (v := nI 6) hX dL_place_58 rfl ?_
    refine zz_iload_n hX dL_place_60 1 rfl rfl ?_
    refine zz_imul (z := nI (6 * i)) hX dL_place_61 (pk_mul _ _) ?_
    refine zz_iload hX dL_place_62 4 rfl ?_
    refine zz_if_ge hX 71 dL_place_64 (by decide) (fun c64 => ?_) (fun c64 => absurd (nI_pos' (by omega)) c64)
    refine zz_iload hX dL_place_71 4 rfl ?_
    refine zz_iadd (z := nI (6 * i + y)) hX dL_place_73 (nI_add _ _) ?_
    refine zz_iald (x := mi 106 (6 * i + y)) hX (ql_s106 hI) (6 * i + y) rfl (by omega) (by decide) rfl dL_place_74 ?_
    refine zz_sipush (v := nI 1000) hX dL_place_75 rfl ?_
    refine zz_isub (z := (mi 106 (6 * i + y)) - (nI 1000)) hX dL_place_78 rfl ?_
    refine zz_istore (ls' := [(0, .ref 106), (1, .int (nI i)), (2, .int (nI f)), (3, .int (nI x)), (4, .int (nI y)), (5, .int ((mi 106 (6 * i + x)) - (nI 1000))), (6, .int ((mi 106 (6 * i + y)) - (nI 1000)))]) hX dL_place_79 (Nat.le_of_ble_eq_true rfl) rfl ?_
    refine zz_iload_n hX dL_place_81 3 rfl rfl ?_
    refine zz_if_lt hX 96 dL_place_82 (by decide) (fun c82 => absurd c82 (nI_pos (by omega))) (fun c82 => ?_)
    refine zz_iload hX dL_place_85 4 rfl ?_
    refine zz_if_lt hX 96 dL_place_87 (by decide) (fun c87 => absurd c87 (nI_pos (by omega))) (fun c87 => ?_)
    refine zz_iload_n hX dL_place_90 3 rfl rfl ?_
    refine zz_iload hX dL_place_91 4 rfl ?_
    refine zz_icmp_neN hX (by omega) (by omega) 110 dL_place_93 (by decide) (fun c93 => ?_) (fun c93 => ?_)
    · skip
      refine zz_iload hX dL_place_110 5 rfl ?_
      refine zz_iload hX dL_place_112 6 rfl ?_
      refine zz_iload hX dL_place_114 5 rfl ?_
      refine zz_isub (z := ((mi 106 (6 * i + y)) - (nI 1000)) - ((mi 106 (6 * i + x)) - (nI 1000))) hX dL_place_116 rfl ?_
      refine zz_iload_n hX dL_place_117 2 rfl rfl ?_
      refine zz_iload_n hX dL_place_118 3 rfl rfl ?_
      refine zz_isub (z := nI (f - x)) hX dL_place_119 (pk_sub (by omega)) ?_
      refine zz_imul (z := (((mi 106 (6 * i + y)) - (nI 1000)) - ((mi 106 (6 * i + x)) - (nI 1000))) * (nI (f - x))) hX dL_place_120 rfl ?_
      refine zz_iload hX dL_place_121 4 rfl ?_
      refine zz_iload_n hX dL_place_123 3 rfl rfl ?_
      refine zz_isub (z := nI (y - x)) hX dL_place_124 (pk_sub (by omega)) ?_
      refine zz_idiv (z := ((((mi 106 (6 * i + y)) - (nI 1000)) - ((mi 106 (6 * i + x)) - (nI 1000))) * (nI (f - x))) / (nI (y - x))) hX dL_place_125 (nI_ne0 (by omega) (by omega)) rfl ?_
      refine zz_iadd (z := ((mi 106 (6 * i + x)) - (nI 1000)) + (((((mi 106 (6 * i + y)) - (nI 1000)) - ((mi 106 (6 * i + x)) - (nI 1000))) * (nI (f - x))) / (nI (y - x)))) hX dL_place_126 rfl ?_
      refine zz_iret hX hr rfl (Nat.le_of_ble_eq_true rfl) (Nat.le_of_ble_eq_true rfl) dL_place_127 ?_
      exact ⟨by rw [← ql_plc hI hi hf, ha, hb]; rw [zs_val_mx (by omega) (by omega) (by omega)]; rfl, rfl, rfl, rfl⟩
    · skip
      refine zz_iload_n hX dL_place_96 3 rfl rfl ?_
      refine zz_if_ge hX 105 dL_place_97 (by decide) (fun c97 => ?_) (fun c97 => absurd (nI_pos' (by omega)) c97)
      refine zz_iload hX dL_place_105 5 rfl ?_
      refine zz_goto hX 127 dL_place_107 (by decide) ?_
      refine zz_iret hX hr rfl (Nat.le_of_ble_eq_true rfl) (Nat.le_of_ble_eq_true rfl) dL_place_127 ?_
      exact ⟨by rw [← ql_plc hI hi hf, ha, hb]; rw [zs_val_ij (by omega) (by omega)], rfl, rfl, rfl⟩

theorem zs_sum_s {f : Nat → Int32} {n : Nat} (k : Nat) (hk : k < n) (hn : n ≤ 6) (h : ∀ q, q < n → zv_in (f q) 1 24) : (zs_sum f (k + 1)).toInt = (zs_sum f k).toInt + (f k).toInt ∧ 1 ≤ (f k).toInt := by
  have h1 := zs_sum_in (f := f) (n := n) k (by omega) (by omega) h
  have h2 := h k hk
  unfold zv_in at h2
  exact ⟨zs_small (a := zs_sum f k) (b := f k) (by omega) (by omega), h2.1⟩
set_option maxRecDepth 20000 in
theorem Q_mouth (n : Nat) (S : zS) (sh : zm_Sh) (mi : zm_Mi) (mr : zm_Mr) (hI : ql_I n S sh mi) (i : Nat) (hi : i < zv_ns S) (f : Nat) (hf : f < zv_fr S i) : zz_Con yL_mouth (.code yL_mouth cL_mouth 10 (some Jvm.ClassFile.FieldType.int)) 1 0 0 [.ref 104, .ref 103, .int (nI i), .int (nI f)] sh mi mr (zz_q (some (.int (zp_mouth S i f))) sh mi mr) zz_none := by
  refine zz_begin RL [(0, .ref 104), (1, .ref 103), (2, .int (nI i)), (3, .int (nI f))] (by decide) rfl rfl (Nat.le_of_ble_eq_true rfl) rfl ?_
  intro Γ D E ad hX hr hN hT
  have hw9 := ql_hw_lt hI hi
  obtain ⟨q1, q2, q3, q4, q5, q6, q7, q8, q9, q10, q11, q12⟩ := ql_shot hI hi
  refine zz_aload_n hX dL_mouth_0 0 rfl rfl ?_
  refine zz_iload_n hX dL_mouth_1 2 rfl rfl ?_
  refine zz_iald (x := nI (ql_hw S i)) hX (ql_s104 hI) i rfl (by omega) (by decide) ((ql_rd_h hI (by omega))) dL_mouth_2 ?_
  refine zz_sipush (v := nI 128) hX dL_mouth_3 rfl ?_
  refine zz_idiv (z := nI ((ql_hw S i) / 128)) hX dL_mouth_6 (by decide) (pk_div (by omega) (by decide) (by decide)) ?_
  refine zz_bipush (v := nI 8) hX dL_mouth_7 rfl ?_
  refine zz_irem (z := nI (((ql_hw S i) / 128) % 8)) hX dL_mouth_9 (by decide) (pk_rem (by omega) (by decide) (by decide)) ?_
  refine zz_iconst (v := nI 1) hX dL_mouth_10 rfl ?_
  refine zz_isub (z := S 13 i) hX dL_mouth_11 ((congrArg (fun z => nI z - nI 1) (ql_hw_vo hI hi)).trans (ql_vo hI hi)) ?_
  refine zz_istore (ls' := [(0, .ref 104), (1, .ref 103), (2, .int (nI i)), (3, .int (nI f)), (4, .int (S 13 i))]) hX dL_mouth_12 (Nat.le_of_ble_eq_true rfl) rfl ?_
  have K30 : zz Γ (D, E, 10, ad, sh) (zz_End Γ (D, E, 10, ad, sh) (zz_q (some (.int (zp_mouth S i f))) sh mi mr) zz_none 0 0) 0 0 sh mi mr 30 [(0, .ref 104), (1, .ref 103), (2, .int (nI i)), (3, .int (nI f)), (4, .int (S 13 i))] [.int (nI (zs_pf (zv_st S i) f))] := by
    have hpf9 := zs_pf_le (zv_st S i) f
    refine zz_istore (ls' := [(0, .ref 104), (1, .ref 103), (2, .int (nI i)), (3, .int (nI f)), (4, .int (S 13 i)), (5, .int (nI (zs_pf (zv_st S i) f)))]) hX dL_mouth_30 (Nat.le_of_ble_eq_true rfl) rfl ?_
    refine zz_iconst (v := (-1)) hX dL_mouth_32 rfl ?_
    refine zz_istore (ls' := [(0, .ref 104), (1, .ref 103), (2, .int (nI i)), (3, .int (nI f)), (4, .int (S 13 i)), (5, .int (nI (zs_pf (zv_st S i) f))), (6, .int (-1))]) hX dL_mouth_33 (Nat.le_of_ble_eq_true rfl) rfl ?_
    refine zz_iconst (v := nI 0) hX dL_mouth_35 rfl ?_
    refine zz_istore (ls' := [(0, .ref 104), (1, .ref 103), (2, .int (nI i)), (3, .int (nI f)), (4, .int (S 13 i)), (5, .int (nI (zs_pf (zv_st S i) f))), (6, .int (-1)), (7, .int (nI 0))]) hX dL_mouth_36 (Nat.le_of_ble_eq_true rfl) rfl ?_
    refine zz_iconst (v := nI 0) hX dL_mouth_38 rfl ?_
    refine zz_istore (ls' := [(0, .ref 104), (1, .ref 103), (2, .int (nI i)), (3, .int (nI f)), (4, .int (S 13 i)), (5, .int (nI (zs_pf (zv_st S i) f))), (6, .int (-1)), (7, .int (nI 0)), (8, .int (nI 0))]) hX dL_mouth_39 (Nat.le_of_ble_eq_true rfl) rfl ?_
    by_cases hv : S 13 i = -1
    · skip
      refine zz_lcl (ls' := [(0, .ref 104), (1, .ref 103), (2, .int (nI i)), (3, .int (nI f)), (4, .int (-1)), (5, .int (nI (zs_pf (zv_st S i) f))), (6, .int (-1)), (7, .int (nI 0)), (8, .int (nI 0))]) (by rw [hv]) ?_
      refine zz_iload hX dL_mouth_41 4 rfl ?_
      refine zz_if_lt hX 118 dL_mouth_43 (by decide) (fun _ => ?_) (fun c => absurd c (by decide))
      refine zz_iload hX dL_mouth_118 6 rfl ?_
      refine zz_iret hX hr rfl (Nat.le_of_ble_eq_true rfl) (Nat.le_of_ble_eq_true rfl) dL_mouth_120 ?_
      exact ⟨by rw [show zp_mouth S i f = -1 from if_pos hv], rfl, rfl, rfl⟩
    · skip
      have hnm := ql_num hI
      obtain ⟨v, hv9, hv8⟩ := zs_ix_of (((ql_W hI).2.2.1.2.2.1 i hi).2.2.2.2.2.2.2.2.1.resolve_left hv) (by omega)
      have z_v : zn (S 13 i) = v := by rw [hv8]; exact nI_clamp (n := v) (by omega)
      have hn9 := (ql_BB hI).2.1
      have hnv := hn9.1
      have hsc := hn9.2 v (by omega)
      have v4 := (ql_W hI).2.1.2.2.2.2
      refine zz_lcl (ls' := [(0, .ref 104), (1, .ref 103), (2, .int (nI i)), (3, .int (nI f)), (4, .int (nI v)), (5, .int (nI (zs_pf (zv_st S i) f))), (6, .int (-1)), (7, .int (zs_sum (fun q => S 8 (12 * v + q)) 0)), (8, .int (nI 0))]) (by rw [hv8]; rfl) ?_
      have L41 : ∀ (k41 : Nat) (k : Nat) (x : Int32), zv_sc S v - k < k41 → (k ≤ zv_sc S v) → ((zs_sum (fun q => S 8 (12 * v + q)) k ≤ nI (zs_pf (zv_st S i) f) ∧ x = -1 ∧ zs_fst (fun k => nI (zs_pf (zv_st S i) f) < zs_sum (fun q => S 8 (12 * v + q)) (k + 1)) (fun k => S 7 (12 * v + k)) (zv_sc S v) 0 = zs_fst (fun k => nI (zs_pf (zv_st S i) f) < zs_sum (fun q => S 8 (12 * v + q)) (k + 1)) (fun k => S 7 (12 * v + k)) (zv_sc S v - k) k) ∨ (nI (zs_pf (zv_st S i) f) < zs_sum (fun q => S 8 (12 * v + q)) k ∧ x = zs_fst (fun k => nI (zs_pf (zv_st S i) f) < zs_sum (fun q => S 8 (12 * v + q)) (k + 1)) (fun k => S 7 (12 * v + k)) (zv_sc S v) 0)) → zz Γ (D, E, 10, ad, sh) (zz_End Γ (D, E, 10, ad, sh) (zz_q (some (.int (zp_mouth S i f))) sh mi mr) zz_none 0 0) 0 0 sh mi mr 41 [(0, .ref 104), (1, .ref 103), (2, .int (nI i)), (3, .int (nI f)), (4, .int (nI v)), (5, .int (nI (zs_pf (zv_st S i) f))), (6, .int x), (7, .int (zs_sum (fun q => S 8 (12 * v + q)) k)), (8, .int (nI k))] [] := by
        intro k41
        induction k41 with
        | zero => intro k x hk41; exact absurd hk41 (Nat.not_lt_zero _)
        | succ k41 ih41 =>
          intro k x hk41 hk9 hq
          refine zz_iload hX dL_mouth_41 4 rfl ?_
          refine zz_if_lt hX 118 dL_mouth_43 (by decide) (fun c43 => absurd c43 (nI_pos (by omega))) (fun c43 => ?_)
          refine zz_iload hX dL_mouth_46 8 rfl ?_
          refine zz_aload_n hX dL_mouth_48 1 rfl rfl ?_
          refine zz_bipush (v := nI 18) hX dL_mouth_49 rfl ?_
          refine zz_iload hX dL_mouth_51 4 rfl ?_
          refine zz_iadd (z := nI (18 + v)) hX dL_mouth_53 (nI_add _ _) ?_
          refine zz_iald (x := nI (zv_sc S v)) hX (ql_s103 hI) (18 + v) rfl (by omega) (by decide) ((ql_g103 hI (by omega))) dL_mouth_54 ?_
          refine zz_icmp_geN hX (by omega) (by omega) 118 dL_mouth_55 (by decide) (fun c55 => ?_) (fun c55 => ?_)
          · skip
            refine zz_iload hX dL_mouth_118 6 rfl ?_
            refine zz_iret hX hr rfl (Nat.le_of_ble_eq_true rfl) (Nat.le_of_ble_eq_true rfl) dL_mouth_120 ?_
            have e9 : zp_mouth S i f = x := by
              unfold zp_mouth
              rw [if_neg hv, z_v]
              exact hq.elim (fun h => (h.2.2.trans (zs_fst_end (by omega))).trans h.2.1.symm) (fun h => h.2.symm)
            exact ⟨congrArg (fun z => some (Value.int z)) (e9.symm), rfl, rfl, rfl⟩
          · skip
            refine zz_aload_n hX dL_mouth_58 1 rfl rfl ?_
            refine zz_bipush (v := nI 6) hX dL_mouth_59 rfl ?_
            refine zz_iload hX dL_mouth_61 4 rfl ?_
            refine zz_imul (z := nI (6 * v)) hX dL_mouth_63 (pk_mul _ _) ?_
            refine zz_iload hX dL_mouth_64 8 rfl ?_
            refine zz_iadd (z := nI (6 * v + k)) hX dL_mouth_66 (nI_add _ _) ?_
            refine zz_iald (x := S 7 (12 * v + k) + nI 16 * S 8 (12 * v + k)) hX (ql_s103 hI) (6 * v + k) rfl (by omega) (by decide) (((ql_Nv hI).2 v k (by omega) (by omega))) dL_mouth_67 ?_
            refine zz_istore (ls' := [(0, .ref 104), (1, .ref 103), (2, .int (nI i)), (3, .int (nI f)), (4, .int (nI v)), (5, .int (nI (zs_pf (zv_st S i) f))), (6, .int x), (7, .int (zs_sum (fun q => S 8 (12 * v + q)) k)), (8, .int (nI k)), (9, .int (S 7 (12 * v + k) + nI 16 * S 8 (12 * v + k)))]) hX dL_mouth_68 (Nat.le_of_ble_eq_true rfl) rfl ?_
            refine zz_iload hX dL_mouth_70 5 rfl ?_
            refine zz_iload hX dL_mouth_72 7 rfl ?_
            refine zz_icmp_lt hX 98 dL_mouth_74 (by decide) (fun c74 => ?_) (fun c74 => ?_)
            · skip
              refine zz_iload hX dL_mouth_98 6 rfl ?_
              refine zz_istore (ls' := [(0, .ref 104), (1, .ref 103), (2, .int (nI i)), (3, .int (nI f)), (4, .int (nI v)), (5, .int (nI (zs_pf (zv_st S i) f))), (6, .int x), (7, .int (zs_sum (fun q => S 8 (12 * v + q)) k)), (8, .int (nI k)), (9, .int (S 7 (12 * v + k) + nI 16 * S 8 (12 * v + k)))]) hX dL_mouth_100 (Nat.le_of_ble_eq_true rfl) rfl ?_
              refine zz_iload hX dL_mouth_102 7 rfl ?_
              refine zz_iload hX dL_mouth_104 9 rfl ?_
              refine zz_bipush (v := nI 16) hX dL_mouth_106 rfl ?_
              refine zz_idiv (z := S 8 (12 * v + k)) hX dL_mouth_108 (by decide) (ql_vwd (v4 v k (by omega) c55).1 (v4 v k (by omega) c55).2) ?_
              refine zz_iadd (z := (zs_sum (fun q => S 8 (12 * v + q)) k) + (S 8 (12 * v + k))) hX dL_mouth_109 rfl ?_
              refine zz_istore (ls' := [(0, .ref 104), (1, .ref 103), (2, .int (nI i)), (3, .int (nI f)), (4, .int (nI v)), (5, .int (nI (zs_pf (zv_st S i) f))), (6, .int x), (7, .int ((zs_sum (fun q => S 8 (12 * v + q)) k) + (S 8 (12 * v + k)))), (8, .int (nI k)), (9, .int (S 7 (12 * v + k) + nI 16 * S 8 (12 * v + k)))]) hX dL_mouth_110 (Nat.le_of_ble_eq_true rfl) rfl ?_
              refine zz_iinc (v := nI (k + 1)) (ls' := [(0, .ref 104), (1, .ref 103), (2, .int (nI i)), (3, .int (nI f)), (4, .int (nI v)), (5, .int (nI (zs_pf (zv_st S i) f))), (6, .int x), (7, .int ((zs_sum (fun q => S 8 (12 * v + q)) k) + (S 8 (12 * v + k)))), (8, .int (nI (k + 1))), (9, .int (S 7 (12 * v + k) + nI 16 * S 8 (12 * v + k)))]) hX dL_mouth_112 8 rfl (nI_1 _) (Nat.le_of_ble_eq_true rfl) rfl ?_
              refine zz_goto hX 41 dL_mouth_115 (by decide) ?_
              refine zz_pick (ls' := [(0, .ref 104), (1, .ref 103), (2, .int (nI i)), (3, .int (nI f)), (4, .int (nI v)), (5, .int (nI (zs_pf (zv_st S i) f))), (6, .int x), (7, .int (zs_sum (fun q => S 8 (12 * v + q)) (k + 1))), (8, .int (nI (k + 1)))]) [0, 1, 2, 3, 4, 5, 6, 7, 8] rfl ?_
              exact ih41 (k + 1) x (by omega) (by omega) (Or.inr ⟨by rw [zs_lt]; rw [zs_lt] at c74; have e := zs_sum_s (f := fun q => S 8 (12 * v + q)) k c55 hsc (fun q h => (v4 v q (by omega) h).2); omega, hq.elim (fun h => absurd (zs_le.mp h.1) (by rw [zs_lt] at c74; omega)) (fun h => h.2)⟩)
            · skip
              refine zz_iload hX dL_mouth_77 5 rfl ?_
              refine zz_iload hX dL_mouth_79 7 rfl ?_
              refine zz_iload hX dL_mouth_81 9 rfl ?_
              refine zz_bipush (v := nI 16) hX dL_mouth_83 rfl ?_
              refine zz_idiv (z := S 8 (12 * v + k)) hX dL_mouth_85 (by decide) (ql_vwd (v4 v k (by omega) c55).1 (v4 v k (by omega) c55).2) ?_
              refine zz_iadd (z := (zs_sum (fun q => S 8 (12 * v + q)) k) + (S 8 (12 * v + k))) hX dL_mouth_86 rfl ?_
              refine zz_icmp_ge hX 98 dL_mouth_87 (by decide) (fun c87 => ?_) (fun c87 => ?_)
              · skip
                refine zz_iload hX dL_mouth_98 6 rfl ?_
                refine zz_istore (ls' := [(0, .ref 104), (1, .ref 103), (2, .int (nI i)), (3, .int (nI f)), (4, .int (nI v)), (5, .int (nI (zs_pf (zv_st S i) f))), (6, .int x), (7, .int (zs_sum (fun q => S 8 (12 * v + q)) k)), (8, .int (nI k)), (9, .int (S 7 (12 * v + k) + nI 16 * S 8 (12 * v + k)))]) hX dL_mouth_100 (Nat.le_of_ble_eq_true rfl) rfl ?_
                refine zz_iload hX dL_mouth_102 7 rfl ?_
                refine zz_iload hX dL_mouth_104 9 rfl ?_
                refine zz_bipush (v := nI 16) hX dL_mouth_106 rfl ?_
                refine zz_idiv (z := S 8 (12 * v + k)) hX dL_mouth_108 (by decide) (ql_vwd (v4 v k (by omega) c55).1 (v4 v k (by omega) c55).2) ?_
                refine zz_iadd (z := (zs_sum (fun q => S 8 (12 * v + q)) k) + (S 8 (12 * v + k))) hX dL_mouth_109 rfl ?_
                refine zz_istore (ls' := [(0, .ref 104), (1, .ref 103), (2, .int (nI i)), (3, .int (nI f)), (4, .int (nI v)), (5, .int (nI (zs_pf (zv_st S i) f))), (6, .int x), (7, .int ((zs_sum (fun q => S 8 (12 * v + q)) k) + (S 8 (12 * v + k)))), (8, .int (nI k)), (9, .int (S 7 (12 * v + k) + nI 16 * S 8 (12 * v + k)))]) hX dL_mouth_110 (Nat.le_of_ble_eq_true rfl) rfl ?_
                refine zz_iinc (v := nI (k + 1)) (ls' := [(0, .ref 104), (1, .ref 103), (2, .int (nI i)), (3, .int (nI f)), (4, .int (nI v)), (5, .int (nI (zs_pf (zv_st S i) f))), (6, .int x), (7, .int ((zs_sum (fun q => S 8 (12 * v + q)) k) + (S 8 (12 * v + k)))), (8, .int (nI (k + 1))), (9, .int (S 7 (12 * v + k) + nI 16 * S 8 (12 * v + k)))]) hX dL_mouth_112 8 rfl (nI_1 _) (Nat.le_of_ble_eq_true rfl) rfl ?_
                refine zz_goto hX 41 dL_mouth_115 (by decide) ?_
                refine zz_pick (ls' := [(0, .ref 104), (1, .ref 103), (2, .int (nI i)), (3, .int (nI f)), (4, .int (nI v)), (5, .int (nI (zs_pf (zv_st S i) f))), (6, .int x), (7, .int (zs_sum (fun q => S 8 (12 * v + q)) (k + 1))), (8, .int (nI (k + 1)))]) [0, 1, 2, 3, 4, 5, 6, 7, 8] rfl ?_
                exact ih41 (k + 1) x (by omega) (by omega) (Or.inl ⟨c87, hq.elim (fun h => h.2.1) (fun h => absurd h.1 c74), hq.elim (fun h => h.2.2.trans (zs_fst_step (g := (fun k => nI (zs_pf (zv_st S i) f) < zs_sum (fun q => S 8 (12 * v + q)) (k + 1))) (v := (fun k => S 7 (12 * v + k))) (c := zv_sc S v) (by omega) (fun h2 => absurd (zs_lt.mp h2) (by have h3 := zs_le.mp c87; show ¬ (nI (zs_pf (zv_st S i) f)).toInt < (zs_sum (fun q => S 8 (12 * v + q)) k + S 8 (12 * v + k)).toInt; omega)))) (fun h => absurd h.1 c74)⟩)
              · skip
                refine zz_iload hX dL_mouth_90 9 rfl ?_
                refine zz_bipush (v := nI 16) hX dL_mouth_92 rfl ?_
                refine zz_irem (z := S 7 (12 * v + k)) hX dL_mouth_94 (by decide) (ql_vwr (v4 v k (by omega) c55).1 (v4 v k (by omega) c55).2) ?_
                refine zz_goto hX 100 dL_mouth_95 (by decide) ?_
                refine zz_istore (ls' := [(0, .ref 104), (1, .ref 103), (2, .int (nI i)), (3, .int (nI f)), (4, .int (nI v)), (5, .int (nI (zs_pf (zv_st S i) f))), (6, .int (S 7 (12 * v + k))), (7, .int (zs_sum (fun q => S 8 (12 * v + q)) k)), (8, .int (nI k)), (9, .int (S 7 (12 * v + k) + nI 16 * S 8 (12 * v + k)))]) hX dL_mouth_100 (Nat.le_of_ble_eq_true rfl) rfl ?_
                refine zz_iload hX dL_mouth_102 7 rfl ?_
                refine zz_iload hX dL_mouth_104 9 rfl ?_
                refine zz_bipush (v := nI 16) hX dL_mouth_106 rfl ?_
                refine zz_idiv (z := S 8 (12 * v + k)) hX dL_mouth_108 (by decide) (ql_vwd (v4 v k (by omega) c55).1 (v4 v k (by omega) c55).2) ?_
                refine zz_iadd (z := (zs_sum (fun q => S 8 (12 * v + q)) k) + (S 8 (12 * v + k))) hX dL_mouth_109 rfl ?_
                refine zz_istore (ls' := [(0, .ref 104), (1, .ref 103), (2, .int (nI i)), (3, .int (nI f)), (4, .int (nI v)), (5, .int (nI (zs_pf (zv_st S i) f))), (6, .int (S 7 (12 * v + k))), (7, .int ((zs_sum (fun q => S 8 (12 * v + q)) k) + (S 8 (12 * v + k)))), (8, .int (nI k)), (9, .int (S 7 (12 * v + k) + nI 16 * S 8 (12 * v + k)))]) hX dL_mouth_110 (Nat.le_of_ble_eq_true rfl) rfl ?_
                refine zz_iinc (v := nI (k + 1)) (ls' := [(0, .ref 104), (1, .ref 103), (2, .int (nI i)), (3, .int (nI f)), (4, .int (nI v)), (5, .int (nI (zs_pf (zv_st S i) f))), (6, .int (S 7 (12 * v + k))), (7, .int ((zs_sum (fun q => S 8 (12 * v + q)) k) + (S 8 (12 * v + k)))), (8, .int (nI (k + 1))), (9, .int (S 7 (12 * v + k) + nI 16 * S 8 (12 * v + k)))]) hX dL_mouth_112 8 rfl (nI_1 _) (Nat.le_of_ble_eq_true rfl) rfl ?_
                refine zz_goto hX 41 dL_mouth_115 (by decide) ?_
                refine zz_pick (ls' := [(0, .ref 104), (1, .ref 103), (2, .int (nI i)), (3, .int (nI f)), (4, .int (nI v)), (5, .int (nI (zs_pf (zv_st S i) f))), (6, .int (S 7 (12 * v + k))), (7, .int (zs_sum (fun q => S 8 (12 * v + q)) (k + 1))), (8, .int (nI (k + 1)))]) [0, 1, 2, 3, 4, 5, 6, 7, 8] rfl ?_
                exact ih41 (k + 1) (S 7 (12 * v + k)) (by omega) (by omega) (Or.inr ⟨zs_nle9 c87, (hq.elim (fun h => h.2.2.trans (zs_fst_hit (g := (fun k => nI (zs_pf (zv_st S i) f) < zs_sum (fun q => S 8 (12 * v + q)) (k + 1))) (v := (fun k => S 7 (12 * v + k))) (c := zv_sc S v) (by omega) (zs_nle9 c87))) (fun h => absurd h.1 c74)).symm⟩)
      exact L41 ((zv_sc S v - 0 + 1)) 0 (-1) (by omega) (Nat.zero_le _) (Or.inl ⟨(show (0 : Int32) ≤ nI (zs_pf (zv_st S i) f) from nI_pos' (by omega)), rfl, rfl⟩)
  refine zz_aload_n hX dL_mouth_14 0 rfl rfl ?_
  refine zz_iload_n hX dL_mouth_15 2 rfl rfl ?_
  refine zz_iload_n hX dL_mouth_16 3 rfl rfl ?_
  refine zz_sI (x := zz_bi (zp_held S i f)) hX zf_M_L_91 (As := [.ref 104, .int (nI i), .int (nI f)]) (st := []) (Q_isHeld n S sh mi mr hI i (by omega) f (by omega)) rfl rfl (by decide) (Nat.le_of_ble_eq_true rfl) (Nat.le_of_ble_eq_true rfl) (Nat.le_of_ble_eq_true rfl) dL_mouth_17 ?_
  refine zz_if_eqB hX 29 dL_mouth_20 (by decide) (fun c20 => ?_) (fun c20 => ?_)
  · skip
    refine zz_iload_n hX dL_mouth_29 3 rfl rfl ?_
    exact zz_top (congrArg nI (Classical.not_not.mp c20).symm) K30
  · skip
    refine zz_iload_n hX dL_mouth_23 3 rfl rfl ?_
    refine zz_iconst (v := nI 1) hX dL_mouth_24 rfl ?_
    refine zz_isub (z := nI (f - 1)) hX dL_mouth_25 (pk_sub (by have := zs_pf_held0 c20; omega)) ?_
    refine zz_goto hX 30 dL_mouth_26 (by decide) ?_
    exact zz_top (congrArg nI (zs_pf_of_held c20).symm) K30

set_option maxRecDepth 20000 in
theorem Q_wanted (n : Nat) (S : zS) (sh : zm_Sh) (mi : zm_Mi) (mr : zm_Mr) (hI : ql_I n S sh mi) (i : Nat) (hi : i < zv_ns S) (hk : zv_sk S i < zv_fr S i) : zz_Con yL_wanted (.code yL_wanted cL_wanted 7 (some Jvm.ClassFile.FieldType.int)) 2 0 0 [.ref 104, .ref 103, .ref 108, .int (nI i)] sh mi mr (zz_q (some (.int (zp_want S i (zv_sk S i)))) sh mi mr) zz_none := by
  refine zz_begin RL [(0, .ref 104), (1, .ref 103), (2, .ref 108), (3, .int (nI i))] (by decide) rfl rfl (Nat.le_of_ble_eq_true rfl) rfl ?_
  intro Γ D E ad hX hr hN hT
  have hw9 := ql_hw_lt hI hi
  obtain ⟨q1, q2, q3, q4, q5, q6, q7, q8, q9, q10, q11, q12⟩ := ql_shot hI hi
  refine zz_aload_n hX dL_wanted_0 0 rfl rfl ?_
  refine zz_iload_n hX dL_wanted_1 3 rfl rfl ?_
  refine zz_sI (x := nI (zv_sk S i)) hX zf_M_L_101 (As := [.ref 104, .int (nI i)]) (st := []) (Q_struck n S sh mi mr hI i (by omega)) rfl rfl (by decide) (Nat.le_of_ble_eq_true rfl) (Nat.le_of_ble_eq_true rfl) (Nat.le_of_ble_eq_true rfl) dL_wanted_2 ?_
  refine zz_istore (ls' := [(0, .ref 104), (1, .ref 103), (2, .ref 108), (3, .int (nI i)), (4, .int (nI (zv_sk S i)))]) hX dL_wanted_5 (Nat.le_of_ble_eq_true rfl) rfl ?_
  refine zz_aload_n hX dL_wanted_7 0 rfl rfl ?_
  refine zz_aload_n hX dL_wanted_8 1 rfl rfl ?_
  refine zz_iload_n hX dL_wanted_9 3 rfl rfl ?_
  refine zz_iload hX dL_wanted_10 4 rfl ?_
  refine zz_sI (x := zp_mouth S i (zv_sk S i)) hX zf_M_L_108 (As := [.ref 104, .ref 103, .int (nI i), .int (nI (zv_sk S i))]) (st := []) (Q_mouth n S sh mi mr hI i (by omega) (zv_sk S i) (by omega)) rfl rfl (by decide) (Nat.le_of_ble_eq_true rfl) (Nat.le_of_ble_eq_true rfl) (Nat.le_of_ble_eq_true rfl) dL_wanted_12 ?_
  refine zz_istore (ls' := [(0, .ref 104), (1, .ref 103), (2, .ref 108), (3, .int (nI i)), (4, .int (nI (zv_sk S i))), (5, .int (zp_mouth S i (zv_sk S i)))]) hX dL_wanted_15 (Nat.le_of_ble_eq_true rfl) rfl ?_
  refine zz_iload hX dL_wanted_17 4 rfl ?_
  refine zz_if_neN hX (by omega) 26 dL_wanted_19 (by decide) (fun c19 => ?_) (fun c19 => ?_)
  · skip
    refine zz_aload_n hX dL_wanted_26 2 rfl rfl ?_
    refine zz_bipush (v := nI 6) hX dL_wanted_27 rfl ?_
    refine zz_iload_n hX dL_wanted_29 3 rfl rfl ?_
    refine zz_imul (z := nI (6 * i)) hX dL_wanted_30 (pk_mul _ _) ?_
    refine zz_iload hX dL_wanted_31 4 rfl ?_
    refine zz_iadd (z := nI (6 * i + zv_sk S i)) hX dL_wanted_33 (nI_add _ _) ?_
    refine zz_iconst (v := nI 1) hX dL_wanted_34 rfl ?_
    refine zz_isub (z := nI (6 * i + zv_sk S i - 1)) hX dL_wanted_35 (pk_sub (by omega)) ?_
    refine zz_iald (x := ql_ew (S 23 (48 * i + (zv_sk S i - 1))) (S 25 (48 * i + (zv_sk S i - 1))) (S 26 (48 * i + (zv_sk S i - 1)))) hX (ql_s108 hI) (6 * i + zv_sk S i - 1) rfl (by omega) (by decide) (((congrArg (mi 108) (show 6 * i + zv_sk S i - 1 = 6 * i + (zv_sk S i - 1) by omega)).trans ((ql_Ne hI).1 i (zv_sk S i - 1) hi (by omega)).1)) dL_wanted_36 ?_
    refine zz_bipush (v := nI 16) hX dL_wanted_37 rfl ?_
    refine zz_irem (z := (ql_ew (S 23 (48 * i + (zv_sk S i - 1))) (S 25 (48 * i + (zv_sk S i - 1))) (S 26 (48 * i + (zv_sk S i - 1)))) - (ql_ew (S 23 (48 * i + (zv_sk S i - 1))) (S 25 (48 * i + (zv_sk S i - 1))) (S 26 (48 * i + (zv_sk S i - 1)))) / (nI 16) * (nI 16)) hX dL_wanted_39 (by decide) rfl ?_
    refine zz_iconst (v := nI 1) hX dL_wanted_40 rfl ?_
    refine zz_isub (z := S 23 (48 * i + (zv_sk S i - 1))) hX dL_wanted_41 (ql_ewm ((ql_BB hI).2.2.2.2.2.2 i (zv_sk S i - 1) hi (by omega)).1 ((ql_BB hI).2.2.2.2.2.2 i (zv_sk S i - 1) hi (by omega)).2.1 ((ql_BB hI).2.2.2.2.2.2 i (zv_sk S i - 1) hi (by omega)).2.2) ?_
    refine zz_istore (ls' := [(0, .ref 104), (1, .ref 103), (2, .ref 108), (3, .int (nI i)), (4, .int (nI (zv_sk S i))), (5, .int (zp_mouth S i (zv_sk S i))), (6, .int (S 23 (48 * i + (zv_sk S i - 1))))]) hX dL_wanted_42 (Nat.le_of_ble_eq_true rfl) rfl ?_
    refine zz_iload hX dL_wanted_44 5 rfl ?_
    refine zz_iload hX dL_wanted_46 6 rfl ?_
    refine zz_icmp_ne hX 55 dL_wanted_48 (by decide) (fun c48 => ?_) (fun c48 => ?_)
    · skip
      refine zz_iload hX dL_wanted_55 5 rfl ?_
      refine zz_iret hX hr rfl (Nat.le_of_ble_eq_true rfl) (Nat.le_of_ble_eq_true rfl) dL_wanted_57 ?_
      have e8 : zp_last S i = S 23 (48 * i + (zv_sk S i - 1)) := if_neg c19
      have e9 : zp_want S i (zv_sk S i) = if zp_mouth S i (zv_sk S i) = zp_last S i then -1 else zp_mouth S i (zv_sk S i) := rfl
      rw [e8] at e9
      rw [if_neg c48] at e9
      exact ⟨congrArg (fun z => some (Value.int z)) (e9.symm), rfl, rfl, rfl⟩
    · skip
      refine zz_iconst (v := (-1)) hX dL_wanted_51 rfl ?_
      refine zz_goto hX 57 dL_wanted_52 (by decide) ?_
      refine zz_iret hX hr rfl (Nat.le_of_ble_eq_true rfl) (Nat.le_of_ble_eq_true rfl) dL_wanted_57 ?_
      have e8 : zp_last S i = S 23 (48 * i + (zv_sk S i - 1)) := if_neg c19
      have e9 : zp_want S i (zv_sk S i) = if zp_mouth S i (zv_sk S i) = zp_last S i then -1 else zp_mouth S i (zv_sk S i) := rfl
      rw [e8] at e9
      rw [if_pos c48] at e9
      exact ⟨congrArg (fun z => some (Value.int z)) (e9.symm), rfl, rfl, rfl⟩
  · skip
    refine zz_iconst (v := (-1)) hX dL_wanted_22 rfl ?_
    refine zz_goto hX 42 dL_wanted_23 (by decide) ?_
    refine zz_istore (ls' := [(0, .ref 104), (1, .ref 103), (2, .ref 108), (3, .int (nI i)), (4, .int (nI (zv_sk S i))), (5, .int (zp_mouth S i (zv_sk S i))), (6, .int (-1))]) hX dL_wanted_42 (Nat.le_of_ble_eq_true rfl) rfl ?_
    refine zz_iload hX dL_wanted_44 5 rfl ?_
    refine zz_iload hX dL_wanted_46 6 rfl ?_
    refine zz_icmp_ne hX 55 dL_wanted_48 (by decide) (fun c48 => ?_) (fun c48 => ?_)
    · skip
      refine zz_iload hX dL_wanted_55 5 rfl ?_
      refine zz_iret hX hr rfl (Nat.le_of_ble_eq_true rfl) (Nat.le_of_ble_eq_true rfl) dL_wanted_57 ?_
      have e8 : zp_last S i = -1 := if_pos c19
      have e9 : zp_want S i (zv_sk S i) = if zp_mouth S i (zv_sk S i) = zp_last S i then -1 else zp_mouth S i (zv_sk S i) := rfl
      rw [e8] at e9
      rw [if_neg c48] at e9
      exact ⟨congrArg (fun z => some (Value.int z)) (e9.symm), rfl, rfl, rfl⟩
    · skip
      refine zz_iconst (v := (-1)) hX dL_wanted_51 rfl ?_
      refine zz_goto hX 57 dL_wanted_52 (by decide) ?_
      refine zz_iret hX hr rfl (Nat.le_of_ble_eq_true rfl) (Nat.le_of_ble_eq_true rfl) dL_wanted_57 ?_
      have e8 : zp_last S i = -1 := if_pos c19
      have e9 : zp_want S i (zv_sk S i) = if zp_mouth S i (zv_sk S i) = zp_last S i then -1 else zp_mouth S i (zv_sk S i) := rfl
      rw [e8] at e9
      rw [if_pos c48] at e9
      exact ⟨congrArg (fun z => some (Value.int z)) (e9.symm), rfl, rfl, rfl⟩

theorem ql_dw_s {S : zS} {k : Nat} (hk : k < zv_nf S) : ql_dw S (zv_nf S - k) k = (zv_fl S k + 1) + 10 * ql_dw S (zv_nf S - (k + 1)) (k + 1) := by
  rw [show zv_nf S - k = (zv_nf S - (k + 1)) + 1 by omega]; rfl
theorem ql_dw_lt {S : zS} (h : ∀ k, k < zv_nf S → zv_fl S k < 8) : ∀ m q, q + m ≤ zv_nf S → ql_dw S m q < 10 ^ m
  | 0, _, _ => by show 0 < 1; decide
  | m + 1, q, hq => by
    have ih := ql_dw_lt h m (q + 1) (by omega)
    have h1 := h q (by omega)
    show (zv_fl S q + 1) + 10 * ql_dw S m (q + 1) < 10 ^ (m + 1)
    rw [Nat.pow_succ]
    omega
section ZL5
variable {n : Nat} {S : zS} {sh : zm_Sh} {mi : zm_Mi} {mr : zm_Mr}
theorem ql_film (h : ql_I n S sh mi) {k : Nat} (hk : k < zv_nf S) : zv_fl S k < zv_ns S ∧ zv_fl S k < 3 ∧ S 29 k = nI (zv_fl S k) := by
  have h1 := (ql_W h).2.2.2.2.2.2.2.1 k hk
  have h2 := (ql_num h).2.2.1
  exact ⟨h1.2, by omega, h1.1⟩
theorem ql_dwb (h : ql_I n S sh mi) (k : Nat) (hk : k ≤ zv_nf S) : ql_dw S (zv_nf S - k) k < 100000000 := by
  have h1 := ql_dw_lt (S := S) (fun q hq => by have := (ql_film h hq).2.1; omega) (zv_nf S - k) k (by omega)
  have h2 : 10 ^ (zv_nf S - k) ≤ 10 ^ 8 := Nat.pow_le_pow_right (by decide) (by have := (ql_num h).2.2.2; omega)
  exact Nat.lt_of_lt_of_le h1 h2
theorem ql_dw0 {k : Nat} (hk : k ≤ zv_nf S) : (ql_dw S (zv_nf S - k) k = 0 ↔ zv_nf S ≤ k) := by
  by_cases h : k < zv_nf S
  · rw [ql_dw_s h]; omega
  · rw [show zv_nf S - k = 0 by omega]; exact ⟨fun _ => by omega, fun _ => rfl⟩
end ZL5
set_option maxRecDepth 20000 in
theorem Q_inFilm (n : Nat) (S : zS) (sh : zm_Sh) (mi : zm_Mi) (mr : zm_Mr) (hI : ql_I n S sh mi) (i : Nat) (hi : i < zv_ns S) : zz_Con yL_inFilm (.code yL_inFilm cL_inFilm 5 (some Jvm.ClassFile.FieldType.int)) 0 0 0 [.ref 109, .int (nI i)] sh mi mr (zz_q (some (.int (zp_cut S (nI i)))) sh mi mr) zz_none := by
  refine zz_begin RL [(0, .ref 109), (1, .int (nI i))] (by decide) rfl rfl (Nat.le_of_ble_eq_true rfl) rfl ?_
  intro Γ D E ad hX hr hN hT
  have hw9 := ql_hw_lt hI hi
  obtain ⟨q1, q2, q3, q4, q5, q6, q7, q8, q9, q10, q11, q12⟩ := ql_shot hI hi
  refine zz_iconst (v := nI 0) hX dL_inFilm_0 rfl ?_
  refine zz_istore_n (ls' := [(0, .ref 109), (1, .int (nI i)), (2, .int (nI 0))]) hX dL_inFilm_1 rfl (Nat.le_of_ble_eq_true rfl) rfl ?_
  refine zz_aload_n hX dL_inFilm_2 0 rfl rfl ?_
  refine zz_bipush (v := nI 6) hX dL_inFilm_3 rfl ?_
  refine zz_iald (x := nI (ql_dw S (zv_nf S) 0)) hX (ql_s109 hI) 6 rfl (by decide) (by decide) ((ql_g6 hI)) dL_inFilm_5 ?_
  refine zz_istore_n (ls' := [(0, .ref 109), (1, .int (nI i)), (2, .int (nI 0)), (3, .int (nI (ql_dw S (zv_nf S) 0)))]) hX dL_inFilm_6 rfl (Nat.le_of_ble_eq_true rfl) rfl ?_
  have L7 : ∀ (k7 : Nat) (k : Nat), zv_nf S - k < k7 → (k ≤ zv_nf S) → (zp_cut S (nI i) = zs_fst (fun k => S 29 k = nI i) nI (zv_nf S - k) k) → zz Γ (D, E, 5, ad, sh) (zz_End Γ (D, E, 5, ad, sh) (zz_q (some (.int (zp_cut S (nI i)))) sh mi mr) zz_none 0 0) 0 0 sh mi mr 7 [(0, .ref 109), (1, .int (nI i)), (2, .int (nI k)), (3, .int (nI (ql_dw S (zv_nf S - k) k)))] [] := by
    intro k7
    induction k7 with
    | zero => intro k hk7; exact absurd hk7 (Nat.not_lt_zero _)
    | succ k7 ih7 =>
      intro k hk7 hk9 hq
      have hnm := ql_num hI
      have hb9 := ql_dwb hI k hk9
      have hz9 := ql_dw0 (S := S) hk9
      refine zz_iload_n hX dL_inFilm_7 3 rfl rfl ?_
      refine zz_if_leN hX (by omega) 32 dL_inFilm_8 (by decide) (fun c8 => ?_) (fun c8 => ?_)
      · skip
        refine zz_aload_n hX dL_inFilm_32 0 rfl rfl ?_
        refine zz_bipush (v := nI 6) hX dL_inFilm_33 rfl ?_
        refine zz_iald (x := nI (ql_dw S (zv_nf S) 0)) hX (ql_s109 hI) 6 rfl (by decide) (by decide) ((ql_g6 hI)) dL_inFilm_35 ?_
        refine zz_istore_n (ls' := [(0, .ref 109), (1, .int (nI i)), (2, .int (nI k)), (3, .int (nI (ql_dw S (zv_nf S) 0)))]) hX dL_inFilm_36 rfl (Nat.le_of_ble_eq_true rfl) rfl ?_
        refine zz_iconst (v := nI 0) hX dL_inFilm_37 rfl ?_
        refine zz_istore (ls' := [(0, .ref 109), (1, .int (nI i)), (2, .int (nI k)), (3, .int (nI (ql_dw S (zv_nf S) 0))), (4, .int (nI 0))]) hX dL_inFilm_38 (Nat.le_of_ble_eq_true rfl) rfl ?_
        have L40 : ∀ (k40 : Nat) (m : Nat), k - m < k40 → (m ≤ k) → zz Γ (D, E, 5, ad, sh) (zz_End Γ (D, E, 5, ad, sh) (zz_q (some (.int (zp_cut S (nI i)))) sh mi mr) zz_none 0 0) 0 0 sh mi mr 40 [(0, .ref 109), (1, .int (nI i)), (2, .int (nI k)), (3, .int (nI (ql_dw S (zv_nf S - m) m))), (4, .int (nI m))] [] := by
          intro k40
          induction k40 with
          | zero => intro m hk40; exact absurd hk40 (Nat.not_lt_zero _)
          | succ k40 ih40 =>
            intro m hk40 hm9
            have hbm := ql_dwb hI m (by omega)
            refine zz_iload hX dL_inFilm_40 4 rfl ?_
            refine zz_iload_n hX dL_inFilm_42 2 rfl rfl ?_
            refine zz_icmp_geN hX (by omega) (by omega) 57 dL_inFilm_43 (by decide) (fun c43 => ?_) (fun c43 => ?_)
            · skip
              refine zz_iload_n hX dL_inFilm_57 3 rfl rfl ?_
              refine zz_if_leN hX (by omega) 65 dL_inFilm_58 (by decide) (fun c58 => ?_) (fun c58 => absurd c58 (by have e9 : m = k := (by omega); subst e9; omega))
              refine zz_iconst (v := (-1)) hX dL_inFilm_65 rfl ?_
              refine zz_iret hX hr rfl (Nat.le_of_ble_eq_true rfl) (Nat.le_of_ble_eq_true rfl) dL_inFilm_66 ?_
              exact ⟨congrArg (fun z => some (Value.int z)) ((hq.trans (zs_fst_end (by omega))).symm), rfl, rfl, rfl⟩
            · skip
              have hsm := ql_dw_s (S := S) (k := m) (by omega)
              have hfm := ql_film hI (k := m) (by omega)
              refine zz_iload_n hX dL_inFilm_46 3 rfl rfl ?_
              refine zz_bipush (v := nI 10) hX dL_inFilm_47 rfl ?_
              refine zz_idiv (z := nI ((ql_dw S (zv_nf S - m) m) / 10)) hX dL_inFilm_49 (by decide) (pk_div (by omega) (by decide) (by decide)) ?_
              refine zz_istore_n (ls' := [(0, .ref 109), (1, .int (nI i)), (2, .int (nI k)), (3, .int (nI ((ql_dw S (zv_nf S - m) m) / 10))), (4, .int (nI m))]) hX dL_inFilm_50 rfl (Nat.le_of_ble_eq_true rfl) rfl ?_
              refine zz_iinc (v := nI (m + 1)) (ls' := [(0, .ref 109), (1, .int (nI i)), (2, .int (nI k)), (3, .int (nI ((ql_dw S (zv_nf S - m) m) / 10))), (4, .int (nI (m + 1)))]) hX dL_inFilm_51 4 rfl (nI_1 _) (Nat.le_of_ble_eq_true rfl) rfl ?_
              refine zz_goto hX 40 dL_inFilm_54 (by decide) ?_
              refine zz_lcl (ls' := [(0, .ref 109), (1, .int (nI i)), (2, .int (nI k)), (3, .int (nI (ql_dw S (zv_nf S - (m + 1)) (m + 1)))), (4, .int (nI (m + 1)))]) (congrArg (fun z => [((0 : Nat), Value.ref 109), (1, Value.int (nI i)), (2, Value.int (nI k)), (3, Value.int (nI z)), (4, Value.int (nI (m + 1)))]) (show ql_dw S (zv_nf S - m) m / 10 = ql_dw S (zv_nf S - (m + 1)) (m + 1) by omega)) ?_
              exact ih40 (m + 1) (by omega) (by omega)
        exact L40 ((k - 0 + 1)) 0 (by omega) (Nat.zero_le _)
      · skip
        have hk8 : k < zv_nf S := by omega
        have hs9 := ql_dw_s hk8
        have hf9 := ql_film hI hk8
        have hb8 := ql_dwb hI (k + 1) (by omega)
        refine zz_iload_n hX dL_inFilm_11 3 rfl rfl ?_
        refine zz_bipush (v := nI 10) hX dL_inFilm_12 rfl ?_
        refine zz_irem (z := nI ((ql_dw S (zv_nf S - k) k) % 10)) hX dL_inFilm_14 (by decide) (pk_rem (by omega) (by decide) (by decide)) ?_
        refine zz_iload_n hX dL_inFilm_15 1 rfl rfl ?_
        refine zz_iconst (v := nI 1) hX dL_inFilm_16 rfl ?_
        refine zz_iadd (z := nI (i + 1)) hX dL_inFilm_17 (nI_add _ _) ?_
        refine zz_icmp_eqN hX (by omega) (by omega) 32 dL_inFilm_18 (by decide) (fun c18 => ?_) (fun c18 => ?_)
        · skip
          refine zz_aload_n hX dL_inFilm_32 0 rfl rfl ?_
          refine zz_bipush (v := nI 6) hX dL_inFilm_33 rfl ?_
          refine zz_iald (x := nI (ql_dw S (zv_nf S) 0)) hX (ql_s109 hI) 6 rfl (by decide) (by decide) ((ql_g6 hI)) dL_inFilm_35 ?_
          refine zz_istore_n (ls' := [(0, .ref 109), (1, .int (nI i)), (2, .int (nI k)), (3, .int (nI (ql_dw S (zv_nf S) 0)))]) hX dL_inFilm_36 rfl (Nat.le_of_ble_eq_true rfl) rfl ?_
          refine zz_iconst (v := nI 0) hX dL_inFilm_37 rfl ?_
          refine zz_istore (ls' := [(0, .ref 109), (1, .int (nI i)), (2, .int (nI k)), (3, .int (nI (ql_dw S (zv_nf S) 0))), (4, .int (nI 0))]) hX dL_inFilm_38 (Nat.le_of_ble_eq_true rfl) rfl ?_
          have L40 : ∀ (k40 : Nat) (m : Nat), k - m < k40 → (m ≤ k) → zz Γ (D, E, 5, ad, sh) (zz_End Γ (D, E, 5, ad, sh) (zz_q (some (.int (zp_cut S (nI i)))) sh mi mr) zz_none 0 0) 0 0 sh mi mr 40 [(0, .ref 109), (1, .int (nI i)), (2, .int (nI k)), (3, .int (nI (ql_dw S (zv_nf S - m) m))), (4, .int (nI m))] [] := by
            intro k40
            induction k40 with
            | zero => intro m hk40; exact absurd hk40 (Nat.not_lt_zero _)
            | succ k40 ih40 =>
              intro m hk40 hm9
              have hbm := ql_dwb hI m (by omega)
              refine zz_iload hX dL_inFilm_40 4 rfl ?_
              refine zz_iload_n hX dL_inFilm_42 2 rfl rfl ?_
              refine zz_icmp_geN hX (by omega) (by omega) 57 dL_inFilm_43 (by decide) (fun c43 => ?_) (fun c43 => ?_)
              · skip
                refine zz_iload_n hX dL_inFilm_57 3 rfl rfl ?_
                refine zz_if_leN hX (by omega) 65 dL_inFilm_58 (by decide) (fun c58 => absurd c58 (by have e9 : m = k := (by omega); subst e9; omega)) (fun c58 => ?_)
                refine zz_iload_n hX dL_inFilm_61 2 rfl rfl ?_
                refine zz_goto hX 66 dL_inFilm_62 (by decide) ?_
                refine zz_iret hX hr rfl (Nat.le_of_ble_eq_true rfl) (Nat.le_of_ble_eq_true rfl) dL_inFilm_66 ?_
                exact ⟨congrArg (fun z => some (Value.int z)) ((hq.trans (zs_fst_hit (g := (fun k => S 29 k = nI i)) (v := nI) (c := zv_nf S) hk8 (show S 29 k = nI i by rw [hf9.2.2]; exact congrArg nI (by omega)))).symm), rfl, rfl, rfl⟩
              · skip
                have hsm := ql_dw_s (S := S) (k := m) (by omega)
                have hfm := ql_film hI (k := m) (by omega)
                refine zz_iload_n hX dL_inFilm_46 3 rfl rfl ?_
                refine zz_bipush (v := nI 10) hX dL_inFilm_47 rfl ?_
                refine zz_idiv (z := nI ((ql_dw S (zv_nf S - m) m) / 10)) hX dL_inFilm_49 (by decide) (pk_div (by omega) (by decide) (by decide)) ?_
                refine zz_istore_n (ls' := [(0, .ref 109), (1, .int (nI i)), (2, .int (nI k)), (3, .int (nI ((ql_dw S (zv_nf S - m) m) / 10))), (4, .int (nI m))]) hX dL_inFilm_50 rfl (Nat.le_of_ble_eq_true rfl) rfl ?_
                refine zz_iinc (v := nI (m + 1)) (ls' := [(0, .ref 109), (1, .int (nI i)), (2, .int (nI k)), (3, .int (nI ((ql_dw S (zv_nf S - m) m) / 10))), (4, .int (nI (m + 1)))]) hX dL_inFilm_51 4 rfl (nI_1 _) (Nat.le_of_ble_eq_true rfl) rfl ?_
                refine zz_goto hX 40 dL_inFilm_54 (by decide) ?_
                refine zz_lcl (ls' := [(0, .ref 109), (1, .int (nI i)), (2, .int (nI k)), (3, .int (nI (ql_dw S (zv_nf S - (m + 1)) (m + 1)))), (4, .int (nI (m + 1)))]) (congrArg (fun z => [((0 : Nat), Value.ref 109), (1, Value.int (nI i)), (2, Value.int (nI k)), (3, Value.int (nI z)), (4, Value.int (nI (m + 1)))]) (show ql_dw S (zv_nf S - m) m / 10 = ql_dw S (zv_nf S - (m + 1)) (m + 1) by omega)) ?_
                exact ih40 (m + 1) (by omega) (by omega)
          exact L40 ((k - 0 + 1)) 0 (by omega) (Nat.zero_le _)
        · skip
          refine zz_iinc (v := nI (k + 1)) (ls' := [(0, .ref 109), (1, .int (nI i)), (2, .int (nI (k + 1))), (3, .int (nI (ql_dw S (zv_nf S - k) k)))]) hX dL_inFilm_21 2 rfl (nI_1 _) (Nat.le_of_ble_eq_true rfl) rfl ?_
          refine zz_iload_n hX dL_inFilm_24 3 rfl rfl ?_
          refine zz_bipush (v := nI 10) hX dL_inFilm_25 rfl ?_
          refine zz_idiv (z := nI ((ql_dw S (zv_nf S - k) k) / 10)) hX dL_inFilm_27 (by decide) (pk_div (by omega) (by decide) (by decide)) ?_
          refine zz_istore_n (ls' := [(0, .ref 109), (1, .int (nI i)), (2, .int (nI (k + 1))), (3, .int (nI ((ql_dw S (zv_nf S - k) k) / 10)))]) hX dL_inFilm_28 rfl (Nat.le_of_ble_eq_true rfl) rfl ?_
          refine zz_goto hX 7 dL_inFilm_29 (by decide) ?_
          refine zz_lcl (ls' := [(0, .ref 109), (1, .int (nI i)), (2, .int (nI (k + 1))), (3, .int (nI (ql_dw S (zv_nf S - (k + 1)) (k + 1))))]) (congrArg (fun z => [((0 : Nat), Value.ref 109), (1, Value.int (nI i)), (2, Value.int (nI (k + 1))), (3, Value.int (nI z))]) (show ql_dw S (zv_nf S - k) k / 10 = ql_dw S (zv_nf S - (k + 1)) (k + 1) by omega)) ?_
          exact ih7 (k + 1) (by omega) (by omega) (hq.trans (zs_fst_step (g := (fun k => S 29 k = nI i)) (v := nI) (c := zv_nf S) hk8 (fun h => c18 (by have h2 : S 29 k = nI i := h; rw [hf9.2.2, nI_eq (by omega) (by omega)] at h2; omega))))
  exact L7 ((zv_nf S - 0 + 1)) 0 (by omega) (Nat.zero_le _) rfl

set_option maxRecDepth 20000 in
theorem Q_inAll (n : Nat) (S : zS) (sh : zm_Sh) (mi : zm_Mi) (mr : zm_Mr) (hI : ql_I n S sh mi)  : zz_Con yL_inAll (.code yL_inAll cL_inAll 4 (some Jvm.ClassFile.FieldType.int)) 1 0 0 [.ref 104, .ref 109] sh mi mr (zz_q (some (.int (zp_film S))) sh mi mr) zz_none := by
  refine zz_begin RL [(0, .ref 104), (1, .ref 109)] (by decide) rfl rfl (Nat.le_of_ble_eq_true rfl) rfl ?_
  intro Γ D E ad hX hr hN hT
  refine zz_iconst (v := nI 0) hX dL_inAll_0 rfl ?_
  refine zz_istore_n (ls' := [(0, .ref 104), (1, .ref 109), (2, .int (nI 0))]) hX dL_inAll_1 rfl (Nat.le_of_ble_eq_true rfl) rfl ?_
  refine zz_aload_n hX dL_inAll_2 1 rfl rfl ?_
  refine zz_bipush (v := nI 6) hX dL_inAll_3 rfl ?_
  refine zz_iald (x := nI (ql_dw S (zv_nf S) 0)) hX (ql_s109 hI) 6 rfl (by decide) (by decide) ((ql_g6 hI)) dL_inAll_5 ?_
  refine zz_istore_n (ls' := [(0, .ref 104), (1, .ref 109), (2, .int (nI 0)), (3, .int (nI (ql_dw S (zv_nf S) 0)))]) hX dL_inAll_6 rfl (Nat.le_of_ble_eq_true rfl) rfl ?_
  refine zz_lcl (ls' := [(0, .ref 104), (1, .ref 109), (2, .int (zs_sum (fun k => S 11 (zv_fl S k)) 0)), (3, .int (nI (ql_dw S (zv_nf S - 0) 0)))]) rfl ?_
  have L7 : ∀ (k7 : Nat) (k : Nat), zv_nf S - k < k7 → (k ≤ zv_nf S) → zz Γ (D, E, 4, ad, sh) (zz_End Γ (D, E, 4, ad, sh) (zz_q (some (.int (zp_film S))) sh mi mr) zz_none 0 0) 0 0 sh mi mr 7 [(0, .ref 104), (1, .ref 109), (2, .int (zs_sum (fun k => S 11 (zv_fl S k)) k)), (3, .int (nI (ql_dw S (zv_nf S - k) k)))] [] := by
    intro k7
    induction k7 with
    | zero => intro k hk7; exact absurd hk7 (Nat.not_lt_zero _)
    | succ k7 ih7 =>
      intro k hk7 hk9
      have hnm := ql_num hI
      have hb9 := ql_dwb hI k hk9
      have hz9 := ql_dw0 (S := S) hk9
      refine zz_iload_n hX dL_inAll_7 3 rfl rfl ?_
      refine zz_if_leN hX (by omega) 32 dL_inAll_8 (by decide) (fun c8 => ?_) (fun c8 => ?_)
      · skip
        refine zz_iload_n hX dL_inAll_32 2 rfl rfl ?_
        refine zz_iret hX hr rfl (Nat.le_of_ble_eq_true rfl) (Nat.le_of_ble_eq_true rfl) dL_inAll_33 ?_
        exact ⟨congrArg (fun z => some (Value.int z)) (by rw [show k = zv_nf S by omega]; rfl), rfl, rfl, rfl⟩
      · skip
        have hk8 : k < zv_nf S := by omega
        have hs9 := ql_dw_s hk8
        have hf9 := ql_film hI hk8
        have hb8 := ql_dwb hI (k + 1) (by omega)
        refine zz_iload_n hX dL_inAll_11 2 rfl rfl ?_
        refine zz_aload_n hX dL_inAll_12 0 rfl rfl ?_
        refine zz_iload_n hX dL_inAll_13 3 rfl rfl ?_
        refine zz_bipush (v := nI 10) hX dL_inAll_14 rfl ?_
        refine zz_irem (z := nI ((ql_dw S (zv_nf S - k) k) % 10)) hX dL_inAll_16 (by decide) (pk_rem (by omega) (by decide) (by decide)) ?_
        refine zz_iconst (v := nI 1) hX dL_inAll_17 rfl ?_
        refine zz_isub (z := nI (zv_fl S k)) hX dL_inAll_18 ((pk_sub (by omega)).trans (congrArg nI (by omega))) ?_
        refine zz_sI (x := S 11 (zv_fl S k)) hX zf_M_L_105 (As := [.ref 104, .int (nI (zv_fl S k))]) (st := [.int (zs_sum (fun k => S 11 (zv_fl S k)) k)]) (Q_frames11 n S sh mi mr hI (zv_fl S k) hf9.1) rfl rfl (by decide) (Nat.le_of_ble_eq_true rfl) (Nat.le_of_ble_eq_true rfl) (Nat.le_of_ble_eq_true rfl) dL_inAll_19 ?_
        refine zz_iadd (z := (zs_sum (fun k => S 11 (zv_fl S k)) k) + (S 11 (zv_fl S k))) hX dL_inAll_22 rfl ?_
        refine zz_istore_n (ls' := [(0, .ref 104), (1, .ref 109), (2, .int ((zs_sum (fun k => S 11 (zv_fl S k)) k) + (S 11 (zv_fl S k)))), (3, .int (nI (ql_dw S (zv_nf S - k) k)))]) hX dL_inAll_23 rfl (Nat.le_of_ble_eq_true rfl) rfl ?_
        refine zz_iload_n hX dL_inAll_24 3 rfl rfl ?_
        refine zz_bipush (v := nI 10) hX dL_inAll_25 rfl ?_
        refine zz_idiv (z := nI ((ql_dw S (zv_nf S - k) k) / 10)) hX dL_inAll_27 (by decide) (pk_div (by omega) (by decide) (by decide)) ?_
        refine zz_istore_n (ls' := [(0, .ref 104), (1, .ref 109), (2, .int ((zs_sum (fun k => S 11 (zv_fl S k)) k) + (S 11 (zv_fl S k)))), (3, .int (nI ((ql_dw S (zv_nf S - k) k) / 10)))]) hX dL_inAll_28 rfl (Nat.le_of_ble_eq_true rfl) rfl ?_
        refine zz_goto hX 7 dL_inAll_29 (by decide) ?_
        refine zz_lcl (ls' := [(0, .ref 104), (1, .ref 109), (2, .int (zs_sum (fun k => S 11 (zv_fl S k)) (k + 1))), (3, .int (nI (ql_dw S (zv_nf S - (k + 1)) (k + 1))))]) (congrArg (fun z => [((0 : Nat), Value.ref 104), (1, Value.ref 109), (2, Value.int (zs_sum (fun k => S 11 (zv_fl S k)) (k + 1))), (3, Value.int (nI z))]) (show ql_dw S (zv_nf S - k) k / 10 = ql_dw S (zv_nf S - (k + 1)) (k + 1) by omega)) ?_
        exact ih7 (k + 1) (by omega) (by omega)
  exact L7 ((zv_nf S - 0 + 1)) 0 (by omega) (Nat.zero_le _)

