/-! ===== the class's public methods, said of the state ===== -/
def zr_out (l : Nat) : Prop := l < 2 ∨ (8 ≤ l ∧ l < 200)
def zq_ok (A B C : Prop) (a : Int32) (S' : zS) (sh : zm_Sh) (mi : zm_Mi) (mr : zm_Mr) : Option Value → zm_Sh → zm_Mi → zm_Mr → Prop := fun v s i m => (A ∧ B ∧ C) ∧ v = some (.int a) ∧ zR S' s i m ∧ zr_same zr_out sh mi mr s i m
def zq_no (A B C : Prop) (sh : zm_Sh) (mi : zm_Mi) (mr : zm_Mr) : String → zm_Sh → zm_Mi → zm_Mr → Prop := fun e s i m => ((e = zx_I ∧ ¬ A) ∨ (e = zx_A ∧ A ∧ ¬ B) ∨ (e = zx_S ∧ A ∧ B ∧ ¬ C)) ∧ s = sh ∧ i = mi ∧ m = mr
theorem zr_fr {P : Nat → Prop} {sh s : zm_Sh} {mi i : zm_Mi} {mr m : zm_Mr} {l k : Nat} {x : Int32} (h : zr_same P sh mi mr s i m) (hl : ¬ P l) : zr_same P sh mi mr s (zm_u2 i l k x) m := fun q hq => ⟨(h q hq).1, (zm_u2r (fun (e : q = l) => hl (e ▸ hq))).trans (h q hq).2.1, (h q hq).2.2⟩
theorem zs_rng_of {x : Int32} {n : Nat} (h : nI 0 ≤ x ∧ x ≤ nI n) (hn : n < 2 ^ 31) : zs_ix x (n + 1) := by
  have h1 := zs_le.mp h.1
  have h2 := zs_le.mp h.2
  rw [nI_toInt (by omega)] at h1 h2
  exact ⟨by omega, by omega⟩
theorem zs_rng_nI {t n : Nat} (h : t < n + 1) (hn : n < 2 ^ 31) : nI 0 ≤ nI t ∧ nI t ≤ nI n := by
  rw [zs_le, zs_le, nI_toInt (by omega), nI_toInt (by omega), nI_toInt hn]
  exact ⟨by omega, by omega⟩
set_option maxRecDepth 20000 in
theorem P_bars (S : zS) (sh : zm_Sh) (mi : zm_Mi) (mr : zm_Mr) (hW : zW S) (hR : zR S sh mi mr) (s : Int32) : zz_Con yX5_bars (.code yX5_bars cX5_bars 2 (some Jvm.ClassFile.FieldType.int)) 10 10 60 [.ref 2, .int s] sh mi mr (zq_ok ((zs_ix s (zv_ns S))) (True) (True) (nI (zp_bar S (zn s))) S sh mi mr) (zq_no ((zs_ix s (zv_ns S))) (True) (True) sh mi mr) := by
  refine zz_begin RX5 [(0, .ref 2), (1, .int s)] (by decide) rfl rfl (Nat.le_of_ble_eq_true rfl) rfl ?_
  intro Γ D E ad hX hr hN hT
  obtain ⟨hRm, hRp, hRv, hRs, hRf⟩ := id hR
  obtain ⟨m1, m2, m3, m4, m5, m6, m7, m8, m9, m10, m11, m12, m13, m14, m15, m16, m17, m18, m19, m20⟩ := hRm
  obtain ⟨hWp, hWv, hWs, hWk, hWr, hWf⟩ := id hW
  obtain ⟨p0, p1, p2, p3, p4, p5⟩ := hWp
  obtain ⟨v0, v1, v2, v3, v4⟩ := hWv
  obtain ⟨s0, s1, s2, s3⟩ := hWs
  obtain ⟨f0, f1, f2, f3⟩ := hWf
  refine zz_aload_n hX dX5_bars_0 0 rfl rfl ?_
  refine zz_aload_n hX dX5_bars_1 0 rfl rfl ?_
  refine zz_iload_n hX dX5_bars_2 1 rfl rfl ?_
  refine zz_callV hX zf_M_X5_106 (As := [.int s]) (st := [.ref 2]) (K_shotAt S sh mi mr hW hR s) m1 rfl rfl rfl (by decide) (Nat.le_of_ble_eq_true rfl) (Nat.le_of_ble_eq_true rfl) (Nat.le_of_ble_eq_true rfl) dX5_bars_3 ?_ ?_
  rotate_left
  · rintro e9 s9 i9 m9 ⟨x3, rfl, rfl, rfl, rfl⟩ -; exact zz_out hX hT (Nat.le_of_ble_eq_true rfl) (Nat.le_of_ble_eq_true rfl) (by unfold zq_no; skip; exact ⟨Or.inl ⟨rfl, fun h => x3 (h)⟩, rfl, rfl, rfl⟩)
  rintro v9 s9 i9 m9 ⟨i, hi, rfl, rfl, e2, e3, e4⟩ -
  obtain rfl := e2.symm
  obtain rfl := e3.symm
  obtain rfl := e4.symm
  have z_i : zn (nI i) = i := nI_clamp (n := i) (by omega)
  obtain ⟨a1, a2, a3, a4, a5, a6, a7, a8⟩ := zR_sh hW hR hi
  obtain ⟨t1, t2, t3, t4, t5, t6, t7, t8, t9, t10⟩ := a3
  obtain ⟨r1, r2, r3, r4, r5, r6, r7, r8, r9, r10, r11, r12, r13, r14, r15⟩ := t10
  obtain ⟨u1, u2, u3, u4, u5, u6, u7, u8, u9, u10⟩ := hRs i hi
  obtain ⟨b1, b2, b3, b4, b5, b6, b7, b8, b9, b10, b11, b12, b13⟩ := s2 i hi
  refine zz_vI (x := nI (zp_bar S i)) hX zf_M_X5_175 (As := [.ref (1000 + 100 * i)]) (st := []) (K_barOf S sh mi mr hW hR i hi) m1 rfl rfl rfl (by decide) (Nat.le_of_ble_eq_true rfl) (Nat.le_of_ble_eq_true rfl) (Nat.le_of_ble_eq_true rfl) dX5_bars_6 ?_
  refine zz_iret hX hr rfl (Nat.le_of_ble_eq_true rfl) (Nat.le_of_ble_eq_true rfl) dX5_bars_9 ?_
  unfold zq_ok
  try simp only [z_i]
  exact ⟨⟨zs_ix_nI hi (by omega), trivial, trivial⟩, rfl, hR, zr_same.rfl'⟩

set_option maxRecDepth 20000 in
theorem P_struck (S : zS) (sh : zm_Sh) (mi : zm_Mi) (mr : zm_Mr) (hW : zW S) (hR : zR S sh mi mr) (s : Int32) : zz_Con yX5_struck (.code yX5_struck cX5_struck 2 (some Jvm.ClassFile.FieldType.int)) 10 10 60 [.ref 2, .int s] sh mi mr (zq_ok ((zs_ix s (zv_ns S))) (True) (True) (nI (zv_sk S (zn s))) S sh mi mr) (zq_no ((zs_ix s (zv_ns S))) (True) (True) sh mi mr) := by
  refine zz_begin RX5 [(0, .ref 2), (1, .int s)] (by decide) rfl rfl (Nat.le_of_ble_eq_true rfl) rfl ?_
  intro Γ D E ad hX hr hN hT
  obtain ⟨hRm, hRp, hRv, hRs, hRf⟩ := id hR
  obtain ⟨m1, m2, m3, m4, m5, m6, m7, m8, m9, m10, m11, m12, m13, m14, m15, m16, m17, m18, m19, m20⟩ := hRm
  obtain ⟨hWp, hWv, hWs, hWk, hWr, hWf⟩ := id hW
  obtain ⟨p0, p1, p2, p3, p4, p5⟩ := hWp
  obtain ⟨v0, v1, v2, v3, v4⟩ := hWv
  obtain ⟨s0, s1, s2, s3⟩ := hWs
  obtain ⟨f0, f1, f2, f3⟩ := hWf
  refine zz_aload_n hX dX5_struck_0 0 rfl rfl ?_
  refine zz_iload_n hX dX5_struck_1 1 rfl rfl ?_
  refine zz_callV hX zf_M_X5_106 (As := [.int s]) (st := []) (K_shotAt S sh mi mr hW hR s) m1 rfl rfl rfl (by decide) (Nat.le_of_ble_eq_true rfl) (Nat.le_of_ble_eq_true rfl) (Nat.le_of_ble_eq_true rfl) dX5_struck_2 ?_ ?_
  rotate_left
  · rintro e9 s9 i9 m9 ⟨x2, rfl, rfl, rfl, rfl⟩ -; exact zz_out hX hT (Nat.le_of_ble_eq_true rfl) (Nat.le_of_ble_eq_true rfl) (by unfold zq_no; skip; exact ⟨Or.inl ⟨rfl, fun h => x2 (h)⟩, rfl, rfl, rfl⟩)
  rintro v9 s9 i9 m9 ⟨i, hi, rfl, rfl, e2, e3, e4⟩ -
  obtain rfl := e2.symm
  obtain rfl := e3.symm
  obtain rfl := e4.symm
  have z_i : zn (nI i) = i := nI_clamp (n := i) (by omega)
  obtain ⟨a1, a2, a3, a4, a5, a6, a7, a8⟩ := zR_sh hW hR hi
  obtain ⟨t1, t2, t3, t4, t5, t6, t7, t8, t9, t10⟩ := a3
  obtain ⟨r1, r2, r3, r4, r5, r6, r7, r8, r9, r10, r11, r12, r13, r14, r15⟩ := t10
  obtain ⟨u1, u2, u3, u4, u5, u6, u7, u8, u9, u10⟩ := hRs i hi
  obtain ⟨b1, b2, b3, b4, b5, b6, b7, b8, b9, b10, b11, b12, b13⟩ := s2 i hi
  refine zz_getR (y := (1000 + 100 * i + 5)) hX zf_F_X5_182 t1 rfl t5 dX5_struck_5 ?_
  refine zz_getI (x := nI (zv_sk S i)) hX zf_F_X5_186.r r1 rfl (a6) dX5_struck_8 ?_
  refine zz_iret hX hr rfl (Nat.le_of_ble_eq_true rfl) (Nat.le_of_ble_eq_true rfl) dX5_struck_11 ?_
  unfold zq_ok
  try simp only [z_i]
  exact ⟨⟨zs_ix_nI hi (by omega), trivial, trivial⟩, rfl, hR, zr_same.rfl'⟩

set_option maxRecDepth 20000 in
theorem P_light (S : zS) (sh : zm_Sh) (mi : zm_Mi) (mr : zm_Mr) (hW : zW S) (hR : zR S sh mi mr)  : zz_Con yX5_light (.code yX5_light cX5_light 1 (some Jvm.ClassFile.FieldType.int)) 10 10 60 [.ref 2] sh mi mr (zq_ok (True) (True) (True) (zp_light S) S sh mi mr) (zq_no (True) (True) (True) sh mi mr) := by
  refine zz_begin RX5 [(0, .ref 2)] (by decide) rfl rfl (Nat.le_of_ble_eq_true rfl) rfl ?_
  intro Γ D E ad hX hr hN hT
  obtain ⟨hRm, hRp, hRv, hRs, hRf⟩ := id hR
  obtain ⟨m1, m2, m3, m4, m5, m6, m7, m8, m9, m10, m11, m12, m13, m14, m15, m16, m17, m18, m19, m20⟩ := hRm
  obtain ⟨hWp, hWv, hWs, hWk, hWr, hWf⟩ := id hW
  obtain ⟨p0, p1, p2, p3, p4, p5⟩ := hWp
  obtain ⟨v0, v1, v2, v3, v4⟩ := hWv
  obtain ⟨s0, s1, s2, s3⟩ := hWs
  obtain ⟨f0, f1, f2, f3⟩ := hWf
  refine zz_aload_n hX dX5_light_0 0 rfl rfl ?_
  refine zz_vI (x := zp_light S) hX zf_M_X5_195 (As := []) (st := []) (K_lampLight S sh mi mr hW hR) m1 rfl rfl rfl (by decide) (Nat.le_of_ble_eq_true rfl) (Nat.le_of_ble_eq_true rfl) (Nat.le_of_ble_eq_true rfl) dX5_light_1 ?_
  refine zz_iret hX hr rfl (Nat.le_of_ble_eq_true rfl) (Nat.le_of_ble_eq_true rfl) dX5_light_4 ?_
  unfold zq_ok
  skip
  exact ⟨⟨trivial, trivial, trivial⟩, rfl, hR, zr_same.rfl'⟩

set_option maxRecDepth 20000 in
theorem P_degree (S : zS) (sh : zm_Sh) (mi : zm_Mi) (mr : zm_Mr) (hW : zW S) (hR : zR S sh mi mr) (s jx fx : Int32) : zz_Con yX5_degree (.code yX5_degree cX5_degree 5 (some Jvm.ClassFile.FieldType.int)) 10 10 60 [.ref 2, .int s, .int jx, .int fx] sh mi mr (zq_ok ((zs_ix s (zv_ns S)) ∧ (zs_ix jx (zv_jn S (zv_pu S (zn s)))) ∧ (zs_ix fx (zv_fr S (zn s)))) (True) (True) (zp_deg S (zn s) (zn jx) (zn fx)) S sh mi mr) (zq_no ((zs_ix s (zv_ns S)) ∧ (zs_ix jx (zv_jn S (zv_pu S (zn s)))) ∧ (zs_ix fx (zv_fr S (zn s)))) (True) (True) sh mi mr) := by
  refine zz_begin RX5 [(0, .ref 2), (1, .int s), (2, .int jx), (3, .int fx)] (by decide) rfl rfl (Nat.le_of_ble_eq_true rfl) rfl ?_
  intro Γ D E ad hX hr hN hT
  obtain ⟨hRm, hRp, hRv, hRs, hRf⟩ := id hR
  obtain ⟨m1, m2, m3, m4, m5, m6, m7, m8, m9, m10, m11, m12, m13, m14, m15, m16, m17, m18, m19, m20⟩ := hRm
  obtain ⟨hWp, hWv, hWs, hWk, hWr, hWf⟩ := id hW
  obtain ⟨p0, p1, p2, p3, p4, p5⟩ := hWp
  obtain ⟨v0, v1, v2, v3, v4⟩ := hWv
  obtain ⟨s0, s1, s2, s3⟩ := hWs
  obtain ⟨f0, f1, f2, f3⟩ := hWf
  refine zz_aload_n hX dX5_degree_0 0 rfl rfl ?_
  refine zz_iload_n hX dX5_degree_1 1 rfl rfl ?_
  refine zz_callV hX zf_M_X5_106 (As := [.int s]) (st := []) (K_shotAt S sh mi mr hW hR s) m1 rfl rfl rfl (by decide) (Nat.le_of_ble_eq_true rfl) (Nat.le_of_ble_eq_true rfl) (Nat.le_of_ble_eq_true rfl) dX5_degree_2 ?_ ?_
  rotate_left
  · rintro e9 s9 i9 m9 ⟨x2, rfl, rfl, rfl, rfl⟩ -; exact zz_out hX hT (Nat.le_of_ble_eq_true rfl) (Nat.le_of_ble_eq_true rfl) (by unfold zq_no; skip; exact ⟨Or.inl ⟨rfl, fun h => x2 (h.1)⟩, rfl, rfl, rfl⟩)
  rintro v9 s9 i9 m9 ⟨i, hi, rfl, rfl, e2, e3, e4⟩ -
  obtain rfl := e2.symm
  obtain rfl := e3.symm
  obtain rfl := e4.symm
  have z_i : zn (nI i) = i := nI_clamp (n := i) (by omega)
  obtain ⟨a1, a2, a3, a4, a5, a6, a7, a8⟩ := zR_sh hW hR hi
  obtain ⟨t1, t2, t3, t4, t5, t6, t7, t8, t9, t10⟩ := a3
  obtain ⟨r1, r2, r3, r4, r5, r6, r7, r8, r9, r10, r11, r12, r13, r14, r15⟩ := t10
  obtain ⟨u1, u2, u3, u4, u5, u6, u7, u8, u9, u10⟩ := hRs i hi
  obtain ⟨b1, b2, b3, b4, b5, b6, b7, b8, b9, b10, b11, b12, b13⟩ := s2 i hi
  refine zz_astore (ls' := [(0, .ref 2), (1, .int (nI i)), (2, .int jx), (3, .int fx), (4, .ref (1000 + 100 * i))]) hX dX5_degree_5 (Nat.le_of_ble_eq_true rfl) rfl ?_
  refine zz_aload hX dX5_degree_7 4 rfl ?_
  refine zz_getR (y := (200 + 4 * zv_pu S i)) hX zf_F_X5_134 t1 rfl t2 dX5_degree_9 ?_
  refine zz_iload_n hX dX5_degree_12 2 rfl rfl ?_
  refine zz_sC hX zf_M_X5_138 (As := [.ref (200 + 4 * zv_pu S i), .int jx]) (st := []) (K_needJoint S sh mi mr hW hR (zv_pu S i) b2 jx) rfl rfl (by decide) (Nat.le_of_ble_eq_true rfl) (Nat.le_of_ble_eq_true rfl) (Nat.le_of_ble_eq_true rfl) dX5_degree_13 (fun p13 => ?_) (fun x13 => zz_out hX hT (Nat.le_of_ble_eq_true rfl) (Nat.le_of_ble_eq_true rfl) (by unfold zq_no; try simp only [z_i]; exact ⟨Or.inl ⟨rfl, fun h => x13 (h.2.1)⟩, rfl, rfl, rfl⟩))
  obtain ⟨j, hj, rfl⟩ := zs_ix_of p13 (by omega)
  have z_j : zn (nI j) = j := nI_clamp (n := j) (by omega)
  refine zz_aload hX dX5_degree_16 4 rfl ?_
  refine zz_iload_n hX dX5_degree_18 3 rfl rfl ?_
  refine zz_sC hX zf_M_X5_142 (As := [.ref (1000 + 100 * i), .int fx]) (st := []) (K_needFrame S sh mi mr hW hR i hi fx) rfl rfl (by decide) (Nat.le_of_ble_eq_true rfl) (Nat.le_of_ble_eq_true rfl) (Nat.le_of_ble_eq_true rfl) dX5_degree_19 (fun p19 => ?_) (fun x19 => zz_out hX hT (Nat.le_of_ble_eq_true rfl) (Nat.le_of_ble_eq_true rfl) (by unfold zq_no; try simp only [z_i, z_j]; exact ⟨Or.inl ⟨rfl, fun h => x19 (h.2.2)⟩, rfl, rfl, rfl⟩))
  obtain ⟨f, hf, rfl⟩ := zs_ix_of p19 (by omega)
  have z_f : zn (nI f) = f := nI_clamp (n := f) (by omega)
  refine zz_aload hX dX5_degree_22 4 rfl ?_
  refine zz_iload_n hX dX5_degree_24 2 rfl rfl ?_
  refine zz_iload_n hX dX5_degree_25 3 rfl rfl ?_
  refine zz_vI (x := zp_deg S i j f) hX zf_M_X5_154 (As := [.int (nI j), .int (nI f)]) (st := []) (K_sheetDegree S sh mi mr hW hR i hi j hj f (by omega)) t1 rfl rfl rfl (by decide) (Nat.le_of_ble_eq_true rfl) (Nat.le_of_ble_eq_true rfl) (Nat.le_of_ble_eq_true rfl) dX5_degree_26 ?_
  refine zz_iret hX hr rfl (Nat.le_of_ble_eq_true rfl) (Nat.le_of_ble_eq_true rfl) dX5_degree_29 ?_
  unfold zq_ok
  try simp only [z_i, z_j, z_f]
  exact ⟨⟨⟨zs_ix_nI hi (by omega), zs_ix_nI hj (by omega), zs_ix_nI hf (by omega)⟩, trivial, trivial⟩, rfl, hR, zr_same.rfl'⟩

set_option maxRecDepth 20000 in
theorem P_mouth (S : zS) (sh : zm_Sh) (mi : zm_Mi) (mr : zm_Mr) (hW : zW S) (hR : zR S sh mi mr) (s fx : Int32) : zz_Con yX5_mouth (.code yX5_mouth cX5_mouth 4 (some Jvm.ClassFile.FieldType.int)) 10 10 60 [.ref 2, .int s, .int fx] sh mi mr (zq_ok ((zs_ix s (zv_ns S)) ∧ (zs_ix fx (zv_fr S (zn s)))) (True) (True) (zp_mouth S (zn s) (zn fx)) S sh mi mr) (zq_no ((zs_ix s (zv_ns S)) ∧ (zs_ix fx (zv_fr S (zn s)))) (True) (True) sh mi mr) := by
  refine zz_begin RX5 [(0, .ref 2), (1, .int s), (2, .int fx)] (by decide) rfl rfl (Nat.le_of_ble_eq_true rfl) rfl ?_
  intro Γ D E ad hX hr hN hT
  obtain ⟨hRm, hRp, hRv, hRs, hRf⟩ := id hR
  obtain ⟨m1, m2, m3, m4, m5, m6, m7, m8, m9, m10, m11, m12, m13, m14, m15, m16, m17, m18, m19, m20⟩ := hRm
  obtain ⟨hWp, hWv, hWs, hWk, hWr, hWf⟩ := id hW
  obtain ⟨p0, p1, p2, p3, p4, p5⟩ := hWp
  obtain ⟨v0, v1, v2, v3, v4⟩ := hWv
  obtain ⟨s0, s1, s2, s3⟩ := hWs
  obtain ⟨f0, f1, f2, f3⟩ := hWf
  refine zz_aload_n hX dX5_mouth_0 0 rfl rfl ?_
  refine zz_iload_n hX dX5_mouth_1 1 rfl rfl ?_
  refine zz_callV hX zf_M_X5_106 (As := [.int s]) (st := []) (K_shotAt S sh mi mr hW hR s) m1 rfl rfl rfl (by decide) (Nat.le_of_ble_eq_true rfl) (Nat.le_of_ble_eq_true rfl) (Nat.le_of_ble_eq_true rfl) dX5_mouth_2 ?_ ?_
  rotate_left
  · rintro e9 s9 i9 m9 ⟨x2, rfl, rfl, rfl, rfl⟩ -; exact zz_out hX hT (Nat.le_of_ble_eq_true rfl) (Nat.le_of_ble_eq_true rfl) (by unfold zq_no; skip; exact ⟨Or.inl ⟨rfl, fun h => x2 (h.1)⟩, rfl, rfl, rfl⟩)
  rintro v9 s9 i9 m9 ⟨i, hi, rfl, rfl, e2, e3, e4⟩ -
  obtain rfl := e2.symm
  obtain rfl := e3.symm
  obtain rfl := e4.symm
  have z_i : zn (nI i) = i := nI_clamp (n := i) (by omega)
  obtain ⟨a1, a2, a3, a4, a5, a6, a7, a8⟩ := zR_sh hW hR hi
  obtain ⟨t1, t2, t3, t4, t5, t6, t7, t8, t9, t10⟩ := a3
  obtain ⟨r1, r2, r3, r4, r5, r6, r7, r8, r9, r10, r11, r12, r13, r14, r15⟩ := t10
  obtain ⟨u1, u2, u3, u4, u5, u6, u7, u8, u9, u10⟩ := hRs i hi
  obtain ⟨b1, b2, b3, b4, b5, b6, b7, b8, b9, b10, b11, b12, b13⟩ := s2 i hi
  refine zz_astore_n (ls' := [(0, .ref 2), (1, .int (nI i)), (2, .int fx), (3, .ref (1000 + 100 * i))]) hX dX5_mouth_5 rfl (Nat.le_of_ble_eq_true rfl) rfl ?_
  refine zz_aload_n hX dX5_mouth_6 3 rfl rfl ?_
  refine zz_iload_n hX dX5_mouth_7 2 rfl rfl ?_
  refine zz_sC hX zf_M_X5_142 (As := [.ref (1000 + 100 * i), .int fx]) (st := []) (K_needFrame S sh mi mr hW hR i hi fx) rfl rfl (by decide) (Nat.le_of_ble_eq_true rfl) (Nat.le_of_ble_eq_true rfl) (Nat.le_of_ble_eq_true rfl) dX5_mouth_8 (fun p8 => ?_) (fun x8 => zz_out hX hT (Nat.le_of_ble_eq_true rfl) (Nat.le_of_ble_eq_true rfl) (by unfold zq_no; try simp only [z_i]; exact ⟨Or.inl ⟨rfl, fun h => x8 (h.2)⟩, rfl, rfl, rfl⟩))
  obtain ⟨f, hf, rfl⟩ := zs_ix_of p8 (by omega)
  have z_f : zn (nI f) = f := nI_clamp (n := f) (by omega)
  refine zz_aload_n hX dX5_mouth_11 0 rfl rfl ?_
  refine zz_aload_n hX dX5_mouth_12 3 rfl rfl ?_
  refine zz_iload_n hX dX5_mouth_13 2 rfl rfl ?_
  refine zz_vI (x := zp_mouth S i f) hX zf_M_X5_231 (As := [.ref (1000 + 100 * i), .int (nI f)]) (st := []) (K_sheetMouth S sh mi mr hW hR i hi f (by omega)) m1 rfl rfl rfl (by decide) (Nat.le_of_ble_eq_true rfl) (Nat.le_of_ble_eq_true rfl) (Nat.le_of_ble_eq_true rfl) dX5_mouth_14 ?_
  refine zz_iret hX hr rfl (Nat.le_of_ble_eq_true rfl) (Nat.le_of_ble_eq_true rfl) dX5_mouth_17 ?_
  unfold zq_ok
  try simp only [z_i, z_f]
  exact ⟨⟨⟨zs_ix_nI hi (by omega), zs_ix_nI hf (by omega)⟩, trivial, trivial⟩, rfl, hR, zr_same.rfl'⟩

set_option maxRecDepth 20000 in
theorem P_place (S : zS) (sh : zm_Sh) (mi : zm_Mi) (mr : zm_Mr) (hW : zW S) (hR : zR S sh mi mr) (s fx : Int32) : zz_Con yX5_place (.code yX5_place cX5_place 4 (some Jvm.ClassFile.FieldType.int)) 10 10 60 [.ref 2, .int s, .int fx] sh mi mr (zq_ok ((zs_ix s (zv_ns S)) ∧ (zs_ix fx (zv_fr S (zn s)))) (True) (True) (zp_place S (zn s) (zn fx)) S sh mi mr) (zq_no ((zs_ix s (zv_ns S)) ∧ (zs_ix fx (zv_fr S (zn s)))) (True) (True) sh mi mr) := by
  refine zz_begin RX5 [(0, .ref 2), (1, .int s), (2, .int fx)] (by decide) rfl rfl (Nat.le_of_ble_eq_true rfl) rfl ?_
  intro Γ D E ad hX hr hN hT
  obtain ⟨hRm, hRp, hRv, hRs, hRf⟩ := id hR
  obtain ⟨m1, m2, m3, m4, m5, m6, m7, m8, m9, m10, m11, m12, m13, m14, m15, m16, m17, m18, m19, m20⟩ := hRm
  obtain ⟨hWp, hWv, hWs, hWk, hWr, hWf⟩ := id hW
  obtain ⟨p0, p1, p2, p3, p4, p5⟩ := hWp
  obtain ⟨v0, v1, v2, v3, v4⟩ := hWv
  obtain ⟨s0, s1, s2, s3⟩ := hWs
  obtain ⟨f0, f1, f2, f3⟩ := hWf
  refine zz_aload_n hX dX5_place_0 0 rfl rfl ?_
  refine zz_iload_n hX dX5_place_1 1 rfl rfl ?_
  refine zz_callV hX zf_M_X5_106 (As := [.int s]) (st := []) (K_shotAt S sh mi mr hW hR s) m1 rfl rfl rfl (by decide) (Nat.le_of_ble_eq_true rfl) (Nat.le_of_ble_eq_true rfl) (Nat.le_of_ble_eq_true rfl) dX5_place_2 ?_ ?_
  rotate_left
  · rintro e9 s9 i9 m9 ⟨x2, rfl, rfl, rfl, rfl⟩ -; exact zz_out hX hT (Nat.le_of_ble_eq_true rfl) (Nat.le_of_ble_eq_true rfl) (by unfold zq_no; skip; exact ⟨Or.inl ⟨rfl, fun h => x2 (h.1)⟩, rfl, rfl, rfl⟩)
  rintro v9 s9 i9 m9 ⟨i, hi, rfl, rfl, e2, e3, e4⟩ -
  obtain rfl := e2.symm
  obtain rfl := e3.symm
  obtain rfl := e4.symm
  have z_i : zn (nI i) = i := nI_clamp (n := i) (by omega)
  obtain ⟨a1, a2, a3, a4, a5, a6, a7, a8⟩ := zR_sh hW hR hi
  obtain ⟨t1, t2, t3, t4, t5, t6, t7, t8, t9, t10⟩ := a3
  obtain ⟨r1, r2, r3, r4, r5, r6, r7, r8, r9, r10, r11, r12, r13, r14, r15⟩ := t10
  obtain ⟨u1, u2, u3, u4, u5, u6, u7, u8, u9, u10⟩ := hRs i hi
  obtain ⟨b1, b2, b3, b4, b5, b6, b7, b8, b9, b10, b11, b12, b13⟩ := s2 i hi
  refine zz_astore_n (ls' := [(0, .ref 2), (1, .int (nI i)), (2, .int fx), (3, .ref (1000 + 100 * i))]) hX dX5_place_5 rfl (Nat.le_of_ble_eq_true rfl) rfl ?_
  refine zz_aload_n hX dX5_place_6 3 rfl rfl ?_
  refine zz_iload_n hX dX5_place_7 2 rfl rfl ?_
  refine zz_sC hX zf_M_X5_142 (As := [.ref (1000 + 100 * i), .int fx]) (st := []) (K_needFrame S sh mi mr hW hR i hi fx) rfl rfl (by decide) (Nat.le_of_ble_eq_true rfl) (Nat.le_of_ble_eq_true rfl) (Nat.le_of_ble_eq_true rfl) dX5_place_8 (fun p8 => ?_) (fun x8 => zz_out hX hT (Nat.le_of_ble_eq_true rfl) (Nat.le_of_ble_eq_true rfl) (by unfold zq_no; try simp only [z_i]; exact ⟨Or.inl ⟨rfl, fun h => x8 (h.2)⟩, rfl, rfl, rfl⟩))
  obtain ⟨f, hf, rfl⟩ := zs_ix_of p8 (by omega)
  have z_f : zn (nI f) = f := nI_clamp (n := f) (by omega)
  refine zz_aload_n hX dX5_place_11 3 rfl rfl ?_
  refine zz_getR (y := (1000 + 100 * i + 2)) hX zf_F_X5_167 t1 rfl t4 dX5_place_12 ?_
  refine zz_iload_n hX dX5_place_15 2 rfl rfl ?_
  refine zz_vI (x := zp_place S i f) hX zf_M_X5_171 (As := [.int (nI f)]) (st := []) (K_placeAt S sh mi mr hW hR i hi f (by omega)) t9.1 rfl rfl rfl (by decide) (Nat.le_of_ble_eq_true rfl) (Nat.le_of_ble_eq_true rfl) (Nat.le_of_ble_eq_true rfl) dX5_place_16 ?_
  refine zz_iret hX hr rfl (Nat.le_of_ble_eq_true rfl) (Nat.le_of_ble_eq_true rfl) dX5_place_19 ?_
  unfold zq_ok
  try simp only [z_i, z_f]
  exact ⟨⟨⟨zs_ix_nI hi (by omega), zs_ix_nI hf (by omega)⟩, trivial, trivial⟩, rfl, hR, zr_same.rfl'⟩

