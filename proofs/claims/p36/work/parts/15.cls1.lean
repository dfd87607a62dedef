/-! ===== the class's private methods, said of the state ===== -/
theorem zs_ix_t {x : Int32} {n : Nat} (h1 : ¬ x < 0) (h2 : x < nI n) (hn : n < 2 ^ 31) : zs_ix x n := by
  rw [zs_lt, Int32.toInt_zero] at h1
  rw [zs_lt, nI_toInt hn] at h2
  exact ⟨by omega, h2⟩
theorem zs_ix_f1 {x : Int32} {n : Nat} (h1 : x < 0) : ¬ zs_ix x n := by
  rw [zs_lt, Int32.toInt_zero] at h1
  exact fun h => by have := h.1; omega
theorem zs_ix_f2 {x : Int32} {n : Nat} (h2 : ¬ x < nI n) (hn : n < 2 ^ 31) : ¬ zs_ix x n := by
  rw [zs_lt, nI_toInt hn] at h2
  exact fun h => h2 h.2
theorem zs_ix_m1 {n : Nat} : ¬ zs_ix (-1) n := fun h => absurd h.1 (by decide)
abbrev zx_I : String := "java/lang/IndexOutOfBoundsException"
abbrev zx_A : String := "java/lang/IllegalArgumentException"
abbrev zx_S : String := "java/lang/IllegalStateException"
def zz_at (n base step : Nat) (x : Int32) (sh : zm_Sh) (mi : zm_Mi) (mr : zm_Mr) : Option Value → zm_Sh → zm_Mi → zm_Mr → Prop := fun v s i m => ∃ q, q < n ∧ x = nI q ∧ v = some (.ref (base + step * q)) ∧ s = sh ∧ i = mi ∧ m = mr
/-! what stands in the way -/
abbrev zp_busy (S : zS) (i : Nat) : Prop := zs_any (fun k => ¬ k = i ∧ zp_on S k ∧ S 14 k = S 14 i) (zv_ns S) = true
abbrev zp_puse (S : zS) (i : Nat) : Prop := zs_any (fun k => ¬ k = i ∧ zp_on S k ∧ zv_pu S k = zv_pu S i) (zv_ns S) = true
abbrev zp_brk (S : zS) (p : Nat) : Prop := zs_any (fun j => nI 1000 ≤ S 3 (6 * p + j)) (zv_jn S p) = true
def zp_pbar (S : zS) (i : Nat) : Nat := if zp_brk S (zv_pu S i) then 5 else if zp_want S i (zv_sk S i) = -1 then 0 else if S 4 (10 * zv_pu S i + zn (zp_want S i (zv_sk S i))) = 0 then 6 else 0
def zp_bar (S : zS) (i : Nat) : Nat := if zv_fr S i ≤ zv_sk S i then 7 else if S 14 i = -1 then 1 else if ¬ S 17 (zn (S 14 i)) = 0 then 2 else if zp_busy S i then 3 else if zp_puse S i then 4 else if zp_held S i (zv_sk S i) then 0 else zp_pbar S i
def zp_cut (S : zS) (s : Int32) : Int32 := zs_fst (fun k => S 29 k = s) nI (zv_nf S) 0
def zp_film (S : zS) : Int32 := zs_sum (fun k => S 11 (zv_fl S k)) (zv_nf S)
set_option maxRecDepth 20000 in
theorem k_needSound (x : Int32) (sh : zm_Sh) (mi : zm_Mi) (mr : zm_Mr) : zz_Con yX5_needSound (.code yX5_needSound cX5_needSound 1 none) 9 1 6 [.int x] sh mi mr (zz_ck (nI 0 ≤ x ∧ x ≤ nI 9) none sh mi mr) (zz_ex (¬ (nI 0 ≤ x ∧ x ≤ nI 9)) "java/lang/IllegalArgumentException" sh mi mr) := by
  refine zz_begin RX5 [(0, .int x)] (by decide) rfl rfl (Nat.le_of_ble_eq_true rfl) rfl ?_
  intro Γ D E ad hX hr hN hT
  refine zz_iload_n hX dX5_needSound_0 0 rfl rfl ?_
  refine zz_iconst (v := nI 0) hX dX5_needSound_1 rfl ?_
  refine zz_bipush (v := nI 9) hX dX5_needSound_2 rfl ?_
  refine zz_sC hX zf_M_X5_59 (As := [.int x, .int (nI 0), .int (nI 9)]) (st := []) (k_needRange x (nI 0) (nI 9) sh mi mr) rfl rfl (by decide) (Nat.le_of_ble_eq_true rfl) (Nat.le_of_ble_eq_true rfl) (Nat.le_of_ble_eq_true rfl) dX5_needSound_4 (fun p4 => ?_) (fun x4 => zz_out hX hT (Nat.le_of_ble_eq_true rfl) (Nat.le_of_ble_eq_true rfl) (by exact ⟨x4, rfl, rfl, rfl, rfl⟩))
  refine zz_vret hX hr (Nat.le_of_ble_eq_true rfl) (Nat.le_of_ble_eq_true rfl) dX5_needSound_7 ?_
  exact ⟨p4, rfl, rfl, rfl, rfl⟩

set_option maxRecDepth 20000 in
theorem k_needAnimator (x : Int32) (sh : zm_Sh) (mi : zm_Mi) (mr : zm_Mr) : zz_Con yX5_needAnimator (.code yX5_needAnimator cX5_needAnimator 1 none) 6 1 6 [.int x] sh mi mr (zz_ck (zs_ix x 5) none sh mi mr) (zz_ex (¬ (zs_ix x 5)) "java/lang/IndexOutOfBoundsException" sh mi mr) := by
  refine zz_begin RX5 [(0, .int x)] (by decide) rfl rfl (Nat.le_of_ble_eq_true rfl) rfl ?_
  intro Γ D E ad hX hr hN hT
  refine zz_iload_n hX dX5_needAnimator_0 0 rfl rfl ?_
  refine zz_if_lt hX 9 dX5_needAnimator_1 (by decide) (fun c1 => ?_) (fun c1 => ?_)
  · skip
    refine zz_throwW hX hT zf_T_X5_281 dX5_needAnimator_9 dX5_needAnimator_12 dX5_needAnimator_13 dX5_needAnimator_16 dX5_needAnimator_19 (by decide) (Nat.le_of_ble_eq_true rfl) (Nat.le_of_ble_eq_true rfl) (Nat.le_of_ble_eq_true rfl) ?_
    exact ⟨by first | exact zs_ix_f1 c1 | exact zs_ix_f2 c6 (by omega), rfl, rfl, rfl, rfl⟩
  · skip
    refine zz_iload_n hX dX5_needAnimator_4 0 rfl rfl ?_
    refine zz_iconst (v := nI 5) hX dX5_needAnimator_5 rfl ?_
    refine zz_icmp_lt hX 20 dX5_needAnimator_6 (by decide) (fun c6 => ?_) (fun c6 => ?_)
    · skip
      refine zz_vret hX hr (Nat.le_of_ble_eq_true rfl) (Nat.le_of_ble_eq_true rfl) dX5_needAnimator_20 ?_
      exact ⟨zs_ix_t c1 c6 (by omega), rfl, rfl, rfl, rfl⟩
    · skip
      refine zz_throwW hX hT zf_T_X5_281 dX5_needAnimator_9 dX5_needAnimator_12 dX5_needAnimator_13 dX5_needAnimator_16 dX5_needAnimator_19 (by decide) (Nat.le_of_ble_eq_true rfl) (Nat.le_of_ble_eq_true rfl) (Nat.le_of_ble_eq_true rfl) ?_
      exact ⟨by first | exact zs_ix_f1 c1 | exact zs_ix_f2 c6 (by omega), rfl, rfl, rfl, rfl⟩

set_option maxRecDepth 20000 in
theorem K_needVoice (S : zS) (sh : zm_Sh) (mi : zm_Mi) (mr : zm_Mr) (hW : zW S) (hR : zR S sh mi mr) (x : Int32) : zz_Con yX5_needVoiceOrNone (.code yX5_needVoiceOrNone cX5_needVoiceOrNone 2 none) 6 1 6 [.ref 2, .int x] sh mi mr (zz_ck (x = -1 ∨ zs_ix x (zv_nv S)) none sh mi mr) (zz_ex (¬ (x = -1 ∨ zs_ix x (zv_nv S))) "java/lang/IndexOutOfBoundsException" sh mi mr) := by
  refine zz_begin RX5 [(0, .ref 2), (1, .int x)] (by decide) rfl rfl (Nat.le_of_ble_eq_true rfl) rfl ?_
  intro Γ D E ad hX hr hN hT
  obtain ⟨hRm, hRp, hRv, hRs, hRf⟩ := id hR
  obtain ⟨m1, m2, m3, m4, m5, m6, m7, m8, m9, m10, m11, m12, m13, m14, m15, m16, m17, m18, m19, m20⟩ := hRm
  obtain ⟨hWp, hWv, hWs, hWk, hWr, hWf⟩ := id hW
  obtain ⟨p0, p1, p2, p3, p4, p5⟩ := hWp
  obtain ⟨v0, v1, v2, v3, v4⟩ := hWv
  obtain ⟨s0, s1, s2, s3⟩ := hWs
  obtain ⟨f0, f1, f2, f3⟩ := hWf
  refine zz_iload_n hX dX5_needVoiceOrNone_0 1 rfl rfl ?_
  refine zz_iconst (v := (-1)) hX dX5_needVoiceOrNone_1 rfl ?_
  refine zz_icmp_eq hX 28 dX5_needVoiceOrNone_2 (by decide) (fun c2 => ?_) (fun c2 => ?_)
  · skip
    refine zz_vret hX hr (Nat.le_of_ble_eq_true rfl) (Nat.le_of_ble_eq_true rfl) dX5_needVoiceOrNone_28 ?_
    exact ⟨Or.inl c2, rfl, rfl, rfl, rfl⟩
  · skip
    refine zz_iload_n hX dX5_needVoiceOrNone_5 1 rfl rfl ?_
    refine zz_if_lt hX 17 dX5_needVoiceOrNone_6 (by decide) (fun c6 => ?_) (fun c6 => ?_)
    · skip
      refine zz_throwW hX hT zf_T_X5_283 dX5_needVoiceOrNone_17 dX5_needVoiceOrNone_20 dX5_needVoiceOrNone_21 dX5_needVoiceOrNone_24 dX5_needVoiceOrNone_27 (by decide) (Nat.le_of_ble_eq_true rfl) (Nat.le_of_ble_eq_true rfl) (Nat.le_of_ble_eq_true rfl) ?_
      exact ⟨fun h => h.elim c2 (by first | exact zs_ix_f1 c6 | exact zs_ix_f2 c14 (by omega)), rfl, rfl, rfl, rfl⟩
    · skip
      refine zz_iload_n hX dX5_needVoiceOrNone_9 1 rfl rfl ?_
      refine zz_aload_n hX dX5_needVoiceOrNone_10 0 rfl rfl ?_
      refine zz_getI (x := nI (zv_nv S)) hX zf_F_X5_25.r m1 rfl ((m14.trans v0)) dX5_needVoiceOrNone_11 ?_
      refine zz_icmp_lt hX 28 dX5_needVoiceOrNone_14 (by decide) (fun c14 => ?_) (fun c14 => ?_)
      · skip
        refine zz_vret hX hr (Nat.le_of_ble_eq_true rfl) (Nat.le_of_ble_eq_true rfl) dX5_needVoiceOrNone_28 ?_
        exact ⟨Or.inr (zs_ix_t c6 c14 (by omega)), rfl, rfl, rfl, rfl⟩
      · skip
        refine zz_throwW hX hT zf_T_X5_283 dX5_needVoiceOrNone_17 dX5_needVoiceOrNone_20 dX5_needVoiceOrNone_21 dX5_needVoiceOrNone_24 dX5_needVoiceOrNone_27 (by decide) (Nat.le_of_ble_eq_true rfl) (Nat.le_of_ble_eq_true rfl) (Nat.le_of_ble_eq_true rfl) ?_
        exact ⟨fun h => h.elim c2 (by first | exact zs_ix_f1 c6 | exact zs_ix_f2 c14 (by omega)), rfl, rfl, rfl, rfl⟩

set_option maxRecDepth 20000 in
theorem K_needShot (S : zS) (sh : zm_Sh) (mi : zm_Mi) (mr : zm_Mr) (hW : zW S) (hR : zR S sh mi mr) (x : Int32) : zz_Con yX5_needShot (.code yX5_needShot cX5_needShot 2 none) 6 1 6 [.ref 2, .int x] sh mi mr (zz_ck (zs_ix x (zv_ns S)) none sh mi mr) (zz_ex (¬ (zs_ix x (zv_ns S))) "java/lang/IndexOutOfBoundsException" sh mi mr) := by
  refine zz_begin RX5 [(0, .ref 2), (1, .int x)] (by decide) rfl rfl (Nat.le_of_ble_eq_true rfl) rfl ?_
  intro Γ D E ad hX hr hN hT
  obtain ⟨hRm, hRp, hRv, hRs, hRf⟩ := id hR
  obtain ⟨m1, m2, m3, m4, m5, m6, m7, m8, m9, m10, m11, m12, m13, m14, m15, m16, m17, m18, m19, m20⟩ := hRm
  obtain ⟨hWp, hWv, hWs, hWk, hWr, hWf⟩ := id hW
  obtain ⟨p0, p1, p2, p3, p4, p5⟩ := hWp
  obtain ⟨v0, v1, v2, v3, v4⟩ := hWv
  obtain ⟨s0, s1, s2, s3⟩ := hWs
  obtain ⟨f0, f1, f2, f3⟩ := hWf
  refine zz_iload_n hX dX5_needShot_0 1 rfl rfl ?_
  refine zz_if_lt hX 12 dX5_needShot_1 (by decide) (fun c1 => ?_) (fun c1 => ?_)
  · skip
    refine zz_throwW hX hT zf_T_X5_285 dX5_needShot_12 dX5_needShot_15 dX5_needShot_16 dX5_needShot_19 dX5_needShot_22 (by decide) (Nat.le_of_ble_eq_true rfl) (Nat.le_of_ble_eq_true rfl) (Nat.le_of_ble_eq_true rfl) ?_
    exact ⟨by first | exact zs_ix_f1 c1 | exact zs_ix_f2 c9 (by omega), rfl, rfl, rfl, rfl⟩
  · skip
    refine zz_iload_n hX dX5_needShot_4 1 rfl rfl ?_
    refine zz_aload_n hX dX5_needShot_5 0 rfl rfl ?_
    refine zz_getI (x := nI (zv_ns S)) hX zf_F_X5_39.r m1 rfl ((m15.trans s0)) dX5_needShot_6 ?_
    refine zz_icmp_lt hX 23 dX5_needShot_9 (by decide) (fun c9 => ?_) (fun c9 => ?_)
    · skip
      refine zz_vret hX hr (Nat.le_of_ble_eq_true rfl) (Nat.le_of_ble_eq_true rfl) dX5_needShot_23 ?_
      exact ⟨zs_ix_t c1 c9 (by omega), rfl, rfl, rfl, rfl⟩
    · skip
      refine zz_throwW hX hT zf_T_X5_285 dX5_needShot_12 dX5_needShot_15 dX5_needShot_16 dX5_needShot_19 dX5_needShot_22 (by decide) (Nat.le_of_ble_eq_true rfl) (Nat.le_of_ble_eq_true rfl) (Nat.le_of_ble_eq_true rfl) ?_
      exact ⟨by first | exact zs_ix_f1 c1 | exact zs_ix_f2 c9 (by omega), rfl, rfl, rfl, rfl⟩

set_option maxRecDepth 20000 in
theorem K_needJoint (S : zS) (sh : zm_Sh) (mi : zm_Mi) (mr : zm_Mr) (hW : zW S) (hR : zR S sh mi mr) (p : Nat) (hp : p < zv_np S) (x : Int32) : zz_Con yX5_needJoint (.code yX5_needJoint cX5_needJoint 2 none) 6 1 6 [.ref (200 + 4 * p), .int x] sh mi mr (zz_ck (zs_ix x (zv_jn S p)) none sh mi mr) (zz_ex (¬ (zs_ix x (zv_jn S p))) "java/lang/IndexOutOfBoundsException" sh mi mr) := by
  refine zz_begin RX5 [(0, .ref (200 + 4 * p)), (1, .int x)] (by decide) rfl rfl (Nat.le_of_ble_eq_true rfl) rfl ?_
  intro Γ D E ad hX hr hN hT
  obtain ⟨hRm, hRp, hRv, hRs, hRf⟩ := id hR
  obtain ⟨m1, m2, m3, m4, m5, m6, m7, m8, m9, m10, m11, m12, m13, m14, m15, m16, m17, m18, m19, m20⟩ := hRm
  obtain ⟨hWp, hWv, hWs, hWk, hWr, hWf⟩ := id hW
  obtain ⟨p0, p1, p2, p3, p4, p5⟩ := hWp
  obtain ⟨v0, v1, v2, v3, v4⟩ := hWv
  obtain ⟨s0, s1, s2, s3⟩ := hWs
  obtain ⟨f0, f1, f2, f3⟩ := hWf
  obtain ⟨e1, e2, e3, e4, e5, e6⟩ := hRp p hp
  obtain ⟨g1, g2, g3, g4, g5, g6, g7⟩ := e2
  obtain ⟨h1, h2, h3⟩ := p2 p hp
  refine zz_iload_n hX dX5_needJoint_0 1 rfl rfl ?_
  refine zz_if_lt hX 12 dX5_needJoint_1 (by decide) (fun c1 => ?_) (fun c1 => ?_)
  · skip
    refine zz_throwW hX hT zf_T_X5_290 dX5_needJoint_12 dX5_needJoint_15 dX5_needJoint_16 dX5_needJoint_19 dX5_needJoint_22 (by decide) (Nat.le_of_ble_eq_true rfl) (Nat.le_of_ble_eq_true rfl) (Nat.le_of_ble_eq_true rfl) ?_
    exact ⟨by first | exact zs_ix_f1 c1 | exact zs_ix_f2 c9 (by omega), rfl, rfl, rfl, rfl⟩
  · skip
    refine zz_iload_n hX dX5_needJoint_4 1 rfl rfl ?_
    refine zz_aload_n hX dX5_needJoint_5 0 rfl rfl ?_
    refine zz_getI (x := nI (zv_jn S p)) hX zf_F_X5_287 g1 rfl ((e3.trans h1)) dX5_needJoint_6 ?_
    refine zz_icmp_lt hX 23 dX5_needJoint_9 (by decide) (fun c9 => ?_) (fun c9 => ?_)
    · skip
      refine zz_vret hX hr (Nat.le_of_ble_eq_true rfl) (Nat.le_of_ble_eq_true rfl) dX5_needJoint_23 ?_
      exact ⟨zs_ix_t c1 c9 (by omega), rfl, rfl, rfl, rfl⟩
    · skip
      refine zz_throwW hX hT zf_T_X5_290 dX5_needJoint_12 dX5_needJoint_15 dX5_needJoint_16 dX5_needJoint_19 dX5_needJoint_22 (by decide) (Nat.le_of_ble_eq_true rfl) (Nat.le_of_ble_eq_true rfl) (Nat.le_of_ble_eq_true rfl) ?_
      exact ⟨by first | exact zs_ix_f1 c1 | exact zs_ix_f2 c9 (by omega), rfl, rfl, rfl, rfl⟩

set_option maxRecDepth 20000 in
theorem K_needFrame (S : zS) (sh : zm_Sh) (mi : zm_Mi) (mr : zm_Mr) (hW : zW S) (hR : zR S sh mi mr) (i : Nat) (hi : i < zv_ns S) (x : Int32) : zz_Con yX5_needFrame (.code yX5_needFrame cX5_needFrame 2 none) 6 1 6 [.ref (1000 + 100 * i), .int x] sh mi mr (zz_ck (zs_ix x (zv_fr S i)) none sh mi mr) (zz_ex (¬ (zs_ix x (zv_fr S i))) "java/lang/IndexOutOfBoundsException" sh mi mr) := by
  refine zz_begin RX5 [(0, .ref (1000 + 100 * i)), (1, .int x)] (by decide) rfl rfl (Nat.le_of_ble_eq_true rfl) rfl ?_
  intro Γ D E ad hX hr hN hT
  obtain ⟨hRm, hRp, hRv, hRs, hRf⟩ := id hR
  obtain ⟨m1, m2, m3, m4, m5, m6, m7, m8, m9, m10, m11, m12, m13, m14, m15, m16, m17, m18, m19, m20⟩ := hRm
  obtain ⟨hWp, hWv, hWs, hWk, hWr, hWf⟩ := id hW
  obtain ⟨p0, p1, p2, p3, p4, p5⟩ := hWp
  obtain ⟨v0, v1, v2, v3, v4⟩ := hWv
  obtain ⟨s0, s1, s2, s3⟩ := hWs
  obtain ⟨f0, f1, f2, f3⟩ := hWf
  obtain ⟨a1, a2, a3, a4, a5, a6, a7, a8⟩ := zR_sh hW hR hi
  obtain ⟨t1, t2, t3, t4, t5, t6, t7, t8, t9, t10⟩ := a3
  obtain ⟨r1, r2, r3, r4, r5, r6, r7, r8, r9, r10, r11, r12, r13, r14, r15⟩ := t10
  obtain ⟨u1, u2, u3, u4, u5, u6, u7, u8, u9, u10⟩ := hRs i hi
  obtain ⟨b1, b2, b3, b4, b5, b6, b7, b8, b9, b10, b11, b12, b13⟩ := s2 i hi
  refine zz_iload_n hX dX5_needFrame_0 1 rfl rfl ?_
  refine zz_if_lt hX 12 dX5_needFrame_1 (by decide) (fun c1 => ?_) (fun c1 => ?_)
  · skip
    refine zz_throwW hX hT zf_T_X5_292 dX5_needFrame_12 dX5_needFrame_15 dX5_needFrame_16 dX5_needFrame_19 dX5_needFrame_22 (by decide) (Nat.le_of_ble_eq_true rfl) (Nat.le_of_ble_eq_true rfl) (Nat.le_of_ble_eq_true rfl) ?_
    exact ⟨by first | exact zs_ix_f1 c1 | exact zs_ix_f2 c9 (by omega), rfl, rfl, rfl, rfl⟩
  · skip
    refine zz_iload_n hX dX5_needFrame_4 1 rfl rfl ?_
    refine zz_aload_n hX dX5_needFrame_5 0 rfl rfl ?_
    refine zz_getI (x := nI (zv_fr S i)) hX zf_F_X5_235 t1 rfl (a4) dX5_needFrame_6 ?_
    refine zz_icmp_lt hX 23 dX5_needFrame_9 (by decide) (fun c9 => ?_) (fun c9 => ?_)
    · skip
      refine zz_vret hX hr (Nat.le_of_ble_eq_true rfl) (Nat.le_of_ble_eq_true rfl) dX5_needFrame_23 ?_
      exact ⟨zs_ix_t c1 c9 (by omega), rfl, rfl, rfl, rfl⟩
    · skip
      refine zz_throwW hX hT zf_T_X5_292 dX5_needFrame_12 dX5_needFrame_15 dX5_needFrame_16 dX5_needFrame_19 dX5_needFrame_22 (by decide) (Nat.le_of_ble_eq_true rfl) (Nat.le_of_ble_eq_true rfl) (Nat.le_of_ble_eq_true rfl) ?_
      exact ⟨by first | exact zs_ix_f1 c1 | exact zs_ix_f2 c9 (by omega), rfl, rfl, rfl, rfl⟩

set_option maxRecDepth 20000 in
theorem K_needStruck (S : zS) (sh : zm_Sh) (mi : zm_Mi) (mr : zm_Mr) (hW : zW S) (hR : zR S sh mi mr) (i : Nat) (hi : i < zv_ns S) (x : Int32) : zz_Con yX5_needStruck (.code yX5_needStruck cX5_needStruck 2 none) 6 1 6 [.ref (1000 + 100 * i), .int x] sh mi mr (zz_ck (zs_ix x (zv_sk S i)) none sh mi mr) (zz_ex (¬ (zs_ix x (zv_sk S i))) "java/lang/IndexOutOfBoundsException" sh mi mr) := by
  refine zz_begin RX5 [(0, .ref (1000 + 100 * i)), (1, .int x)] (by decide) rfl rfl (Nat.le_of_ble_eq_true rfl) rfl ?_
  intro Γ D E ad hX hr hN hT
  obtain ⟨hRm, hRp, hRv, hRs, hRf⟩ := id hR
  obtain ⟨m1, m2, m3, m4, m5, m6, m7, m8, m9, m10, m11, m12, m13, m14, m15, m16, m17, m18, m19, m20⟩ := hRm
  obtain ⟨hWp, hWv, hWs, hWk, hWr, hWf⟩ := id hW
  obtain ⟨p0, p1, p2, p3, p4, p5⟩ := hWp
  obtain ⟨v0, v1, v2, v3, v4⟩ := hWv
  obtain ⟨s0, s1, s2, s3⟩ := hWs
  obtain ⟨f0, f1, f2, f3⟩ := hWf
  obtain ⟨a1, a2, a3, a4, a5, a6, a7, a8⟩ := zR_sh hW hR hi
  obtain ⟨t1, t2, t3, t4, t5, t6, t7, t8, t9, t10⟩ := a3
  obtain ⟨r1, r2, r3, r4, r5, r6, r7, r8, r9, r10, r11, r12, r13, r14, r15⟩ := t10
  obtain ⟨u1, u2, u3, u4, u5, u6, u7, u8, u9, u10⟩ := hRs i hi
  obtain ⟨b1, b2, b3, b4, b5, b6, b7, b8, b9, b10, b11, b12, b13⟩ := s2 i hi
  refine zz_iload_n hX dX5_needStruck_0 1 rfl rfl ?_
  refine zz_if_lt hX 12 dX5_needStruck_1 (by decide) (fun c1 => ?_) (fun c1 => ?_)
  · skip
    refine zz_throwW hX hT zf_T_X5_294 dX5_needStruck_12 dX5_needStruck_15 dX5_needStruck_16 dX5_needStruck_19 dX5_needStruck_22 (by decide) (Nat.le_of_ble_eq_true rfl) (Nat.le_of_ble_eq_true rfl) (Nat.le_of_ble_eq_true rfl) ?_
    exact ⟨by first | exact zs_ix_f1 c1 | exact zs_ix_f2 c9 (by omega), rfl, rfl, rfl, rfl⟩
  · skip
    refine zz_aload_n hX dX5_needStruck_4 0 rfl rfl ?_
    refine zz_iload_n hX dX5_needStruck_5 1 rfl rfl ?_
    refine zz_vI (x := zz_bi (x < nI (zv_sk S i))) hX zf_M_X5_208 (As := [.int x]) (st := []) (K_isStruck S sh mi mr hW hR i hi x) t1 rfl rfl rfl (by decide) (Nat.le_of_ble_eq_true rfl) (Nat.le_of_ble_eq_true rfl) (Nat.le_of_ble_eq_true rfl) dX5_needStruck_6 ?_
    refine zz_if_neB hX 23 dX5_needStruck_9 (by decide) (fun c9 => ?_) (fun c9 => ?_)
    · skip
      refine zz_vret hX hr (Nat.le_of_ble_eq_true rfl) (Nat.le_of_ble_eq_true rfl) dX5_needStruck_23 ?_
      exact ⟨zs_ix_t c1 c9 (by omega), rfl, rfl, rfl, rfl⟩
    · skip
      refine zz_throwW hX hT zf_T_X5_294 dX5_needStruck_12 dX5_needStruck_15 dX5_needStruck_16 dX5_needStruck_19 dX5_needStruck_22 (by decide) (Nat.le_of_ble_eq_true rfl) (Nat.le_of_ble_eq_true rfl) (Nat.le_of_ble_eq_true rfl) ?_
      exact ⟨by first | exact zs_ix_f1 c1 | exact zs_ix_f2 c9 (by omega), rfl, rfl, rfl, rfl⟩

set_option maxRecDepth 20000 in
theorem K_needNotStruck (S : zS) (sh : zm_Sh) (mi : zm_Mi) (mr : zm_Mr) (hW : zW S) (hR : zR S sh mi mr) (i : Nat) (hi : i < zv_ns S) (x : Int32) : zz_Con yX5_needNotStruck (.code yX5_needNotStruck cX5_needNotStruck 2 none) 6 1 6 [.ref (1000 + 100 * i), .int x] sh mi mr (zz_ck (¬ x < nI (zv_sk S i)) none sh mi mr) (zz_ex (¬ (¬ x < nI (zv_sk S i))) "java/lang/IllegalStateException" sh mi mr) := by
  refine zz_begin RX5 [(0, .ref (1000 + 100 * i)), (1, .int x)] (by decide) rfl rfl (Nat.le_of_ble_eq_true rfl) rfl ?_
  intro Γ D E ad hX hr hN hT
  obtain ⟨hRm, hRp, hRv, hRs, hRf⟩ := id hR
  obtain ⟨m1, m2, m3, m4, m5, m6, m7, m8, m9, m10, m11, m12, m13, m14, m15, m16, m17, m18, m19, m20⟩ := hRm
  obtain ⟨hWp, hWv, hWs, hWk, hWr, hWf⟩ := id hW
  obtain ⟨p0, p1, p2, p3, p4, p5⟩ := hWp
  obtain ⟨v0, v1, v2, v3, v4⟩ := hWv
  obtain ⟨s0, s1, s2, s3⟩ := hWs
  obtain ⟨f0, f1, f2, f3⟩ := hWf
  obtain ⟨a1, a2, a3, a4, a5, a6, a7, a8⟩ := zR_sh hW hR hi
  obtain ⟨t1, t2, t3, t4, t5, t6, t7, t8, t9, t10⟩ := a3
  obtain ⟨r1, r2, r3, r4, r5, r6, r7, r8, r9, r10, r11, r12, r13, r14, r15⟩ := t10
  obtain ⟨u1, u2, u3, u4, u5, u6, u7, u8, u9, u10⟩ := hRs i hi
  obtain ⟨b1, b2, b3, b4, b5, b6, b7, b8, b9, b10, b11, b12, b13⟩ := s2 i hi
  refine zz_aload_n hX dX5_needNotStruck_0 0 rfl rfl ?_
  refine zz_iload_n hX dX5_needNotStruck_1 1 rfl rfl ?_
  refine zz_vI (x := zz_bi (x < nI (zv_sk S i))) hX zf_M_X5_208 (As := [.int x]) (st := []) (K_isStruck S sh mi mr hW hR i hi x) t1 rfl rfl rfl (by decide) (Nat.le_of_ble_eq_true rfl) (Nat.le_of_ble_eq_true rfl) (Nat.le_of_ble_eq_true rfl) dX5_needNotStruck_2 ?_
  refine zz_if_eqB hX 19 dX5_needNotStruck_5 (by decide) (fun c5 => ?_) (fun c5 => ?_)
  · skip
    refine zz_vret hX hr (Nat.le_of_ble_eq_true rfl) (Nat.le_of_ble_eq_true rfl) dX5_needNotStruck_19 ?_
    exact ⟨c5, rfl, rfl, rfl, rfl⟩
  · skip
    refine zz_throwW hX hT zf_T_X5_296 dX5_needNotStruck_8 dX5_needNotStruck_11 dX5_needNotStruck_12 dX5_needNotStruck_15 dX5_needNotStruck_18 (by decide) (Nat.le_of_ble_eq_true rfl) (Nat.le_of_ble_eq_true rfl) (Nat.le_of_ble_eq_true rfl) ?_
    exact ⟨fun h => h c5, rfl, rfl, rfl, rfl⟩

set_option maxRecDepth 20000 in
theorem K_puppetAt (S : zS) (sh : zm_Sh) (mi : zm_Mi) (mr : zm_Mr) (hW : zW S) (hR : zR S sh mi mr) (x : Int32) : zz_Con yX5_puppetAt (.code yX5_puppetAt cX5_puppetAt 2 (some (Jvm.ClassFile.FieldType.object "FrameClay$Puppet"))) 6 1 6 [.ref 2, .int x] sh mi mr (zz_at (zv_np S) 200 4 x sh mi mr) (zz_ex (¬ zs_ix x (zv_np S)) "java/lang/IndexOutOfBoundsException" sh mi mr) := by
  refine zz_begin RX5 [(0, .ref 2), (1, .int x)] (by decide) rfl rfl (Nat.le_of_ble_eq_true rfl) rfl ?_
  intro Γ D E ad hX hr hN hT
  obtain ⟨hRm, hRp, hRv, hRs, hRf⟩ := id hR
  obtain ⟨m1, m2, m3, m4, m5, m6, m7, m8, m9, m10, m11, m12, m13, m14, m15, m16, m17, m18, m19, m20⟩ := hRm
  obtain ⟨hWp, hWv, hWs, hWk, hWr, hWf⟩ := id hW
  obtain ⟨p0, p1, p2, p3, p4, p5⟩ := hWp
  obtain ⟨v0, v1, v2, v3, v4⟩ := hWv
  obtain ⟨s0, s1, s2, s3⟩ := hWs
  obtain ⟨f0, f1, f2, f3⟩ := hWf
  refine zz_iload_n hX dX5_puppetAt_0 1 rfl rfl ?_
  refine zz_if_lt hX 12 dX5_puppetAt_1 (by decide) (fun c1 => ?_) (fun c1 => ?_)
  · skip
    refine zz_throwW hX hT zf_T_X5_298 dX5_puppetAt_12 dX5_puppetAt_15 dX5_puppetAt_16 dX5_puppetAt_19 dX5_puppetAt_22 (by decide) (Nat.le_of_ble_eq_true rfl) (Nat.le_of_ble_eq_true rfl) (Nat.le_of_ble_eq_true rfl) ?_
    exact ⟨by first | exact zs_ix_f1 c1 | exact zs_ix_f2 c9 (by omega), rfl, rfl, rfl, rfl⟩
  · skip
    refine zz_iload_n hX dX5_puppetAt_4 1 rfl rfl ?_
    refine zz_aload_n hX dX5_puppetAt_5 0 rfl rfl ?_
    refine zz_getI (x := nI (zv_np S)) hX zf_F_X5_15.r m1 rfl ((m13.trans p0)) dX5_puppetAt_6 ?_
    refine zz_icmp_lt hX 23 dX5_puppetAt_9 (by decide) (fun c9 => ?_) (fun c9 => ?_)
    · skip
      obtain ⟨q, hq, rfl⟩ := zs_ix_of (n := zv_np S) (zs_ix_t c1 c9 (by omega)) (by omega)
      refine zz_aload_n hX dX5_puppetAt_23 0 rfl rfl ?_
      refine zz_getR (y := 3) hX zf_F_X5_11.r m1 rfl m2 dX5_puppetAt_24 ?_
      refine zz_iload_n hX dX5_puppetAt_27 1 rfl rfl ?_
      refine zz_aald (y := (200 + 4 * q)) hX m8 (by decide) (by decide) q rfl (by omega) (by decide) (hRp q hq).1 dX5_puppetAt_28 ?_
      refine zz_aret hX hr (by first | exact Or.inl ⟨_, rfl⟩ | exact Or.inr ⟨_, rfl⟩) (Nat.le_of_ble_eq_true rfl) (Nat.le_of_ble_eq_true rfl) dX5_puppetAt_29 ?_
      exact ⟨q, hq, rfl, rfl, rfl, rfl, rfl⟩
    · skip
      refine zz_throwW hX hT zf_T_X5_298 dX5_puppetAt_12 dX5_puppetAt_15 dX5_puppetAt_16 dX5_puppetAt_19 dX5_puppetAt_22 (by decide) (Nat.le_of_ble_eq_true rfl) (Nat.le_of_ble_eq_true rfl) (Nat.le_of_ble_eq_true rfl) ?_
      exact ⟨by first | exact zs_ix_f1 c1 | exact zs_ix_f2 c9 (by omega), rfl, rfl, rfl, rfl⟩

set_option maxRecDepth 20000 in
theorem K_shotAt (S : zS) (sh : zm_Sh) (mi : zm_Mi) (mr : zm_Mr) (hW : zW S) (hR : zR S sh mi mr) (x : Int32) : zz_Con yX5_shotAt (.code yX5_shotAt cX5_shotAt 2 (some (Jvm.ClassFile.FieldType.object "FrameClay$Shot"))) 7 1 6 [.ref 2, .int x] sh mi mr (zz_at (zv_ns S) 1000 100 x sh mi mr) (zz_ex (¬ zs_ix x (zv_ns S)) "java/lang/IndexOutOfBoundsException" sh mi mr) := by
  refine zz_begin RX5 [(0, .ref 2), (1, .int x)] (by decide) rfl rfl (Nat.le_of_ble_eq_true rfl) rfl ?_
  intro Γ D E ad hX hr hN hT
  obtain ⟨hRm, hRp, hRv, hRs, hRf⟩ := id hR
  obtain ⟨m1, m2, m3, m4, m5, m6, m7, m8, m9, m10, m11, m12, m13, m14, m15, m16, m17, m18, m19, m20⟩ := hRm
  obtain ⟨hWp, hWv, hWs, hWk, hWr, hWf⟩ := id hW
  obtain ⟨p0, p1, p2, p3, p4, p5⟩ := hWp
  obtain ⟨v0, v1, v2, v3, v4⟩ := hWv
  obtain ⟨s0, s1, s2, s3⟩ := hWs
  obtain ⟨f0, f1, f2, f3⟩ := hWf
  refine zz_aload_n hX dX5_shotAt_0 0 rfl rfl ?_
  refine zz_iload_n hX dX5_shotAt_1 1 rfl rfl ?_
  refine zz_vC hX zf_M_X5_226 (As := [.int x]) (st := []) (K_needShot S sh mi mr hW hR x) m1 rfl rfl rfl (by decide) (Nat.le_of_ble_eq_true rfl) (Nat.le_of_ble_eq_true rfl) (Nat.le_of_ble_eq_true rfl) dX5_shotAt_2 (fun p2 => ?_) (fun x2 => zz_out hX hT (Nat.le_of_ble_eq_true rfl) (Nat.le_of_ble_eq_true rfl) (by exact ⟨x2, rfl, rfl, rfl, rfl⟩))
  obtain ⟨q, hq, rfl⟩ := zs_ix_of p2 (by omega)
  refine zz_aload_n hX dX5_shotAt_5 0 rfl rfl ?_
  refine zz_getR (y := 5) hX zf_F_X5_35.r m1 rfl m5 dX5_shotAt_6 ?_
  refine zz_iload_n hX dX5_shotAt_9 1 rfl rfl ?_
  refine zz_aald (y := (1000 + 100 * q)) hX m10 (by decide) (by decide) q rfl (by omega) (by decide) (hRs q hq).1 dX5_shotAt_10 ?_
  refine zz_aret hX hr (by first | exact Or.inl ⟨_, rfl⟩ | exact Or.inr ⟨_, rfl⟩) (Nat.le_of_ble_eq_true rfl) (Nat.le_of_ble_eq_true rfl) dX5_shotAt_11 ?_
  exact ⟨q, hq, rfl, rfl, rfl, rfl, rfl⟩

set_option maxRecDepth 20000 in
theorem K_isIll (S : zS) (sh : zm_Sh) (mi : zm_Mi) (mr : zm_Mr) (hW : zW S) (hR : zR S sh mi mr) (x : Int32) (hx : x = -1 ∨ zs_ix x 5) : zz_Con yX5_isIll (.code yX5_isIll cX5_isIll 2 (some Jvm.ClassFile.FieldType.boolean)) 0 0 0 [.ref 2, .int x] sh mi mr (zz_q (some (.int (zz_bi (¬ x = -1 ∧ ¬ S 17 (zn x) = 0)))) sh mi mr) zz_none := by
  refine zz_begin RX5 [(0, .ref 2), (1, .int x)] (by decide) rfl rfl (Nat.le_of_ble_eq_true rfl) rfl ?_
  intro Γ D E ad hX hr hN hT
  obtain ⟨hRm, hRp, hRv, hRs, hRf⟩ := id hR
  obtain ⟨m1, m2, m3, m4, m5, m6, m7, m8, m9, m10, m11, m12, m13, m14, m15, m16, m17, m18, m19, m20⟩ := hRm
  obtain ⟨hWp, hWv, hWs, hWk, hWr, hWf⟩ := id hW
  obtain ⟨p0, p1, p2, p3, p4, p5⟩ := hWp
  obtain ⟨v0, v1, v2, v3, v4⟩ := hWv
  obtain ⟨s0, s1, s2, s3⟩ := hWs
  obtain ⟨f0, f1, f2, f3⟩ := hWf
  refine zz_iload_n hX dX5_isIll_0 1 rfl rfl ?_
  refine zz_iconst (v := (-1)) hX dX5_isIll_1 rfl ?_
  refine zz_icmp_eq hX 18 dX5_isIll_2 (by decide) (fun c2 => ?_) (fun c2 => ?_)
  · skip
    refine zz_iconst (v := nI 0) hX dX5_isIll_18 rfl ?_
    refine zz_iret hX hr rfl (Nat.le_of_ble_eq_true rfl) (Nat.le_of_ble_eq_true rfl) dX5_isIll_19 ?_
    exact ⟨by rw [zz_bi_f (fun h => h.1 c2)]; rfl, rfl, rfl, rfl⟩
  · skip
    obtain ⟨q, hq, rfl⟩ := zs_ix_of (hx.resolve_left c2) (by omega)
    refine zz_aload_n hX dX5_isIll_5 0 rfl rfl ?_
    refine zz_getR (y := 6) hX zf_F_X5_42.r m1 rfl m6 dX5_isIll_6 ?_
    refine zz_iload_n hX dX5_isIll_9 1 rfl rfl ?_
    refine zz_bald (x := S 17 q) hX m11 q rfl (by omega) (by decide) ((m19 q (by omega))) dX5_isIll_10 ?_
    refine zz_if_eq hX 18 dX5_isIll_11 (by decide) (fun c11 => ?_) (fun c11 => ?_)
    · skip
      refine zz_iconst (v := nI 0) hX dX5_isIll_18 rfl ?_
      refine zz_iret hX hr rfl (Nat.le_of_ble_eq_true rfl) (Nat.le_of_ble_eq_true rfl) dX5_isIll_19 ?_
      exact ⟨by rw [zz_bi_f (fun h => h.2 (by rw [show zn (nI q) = q from nI_clamp (n := q) (by omega)]; exact c11))]; rfl, rfl, rfl, rfl⟩
    · skip
      refine zz_iconst (v := nI 1) hX dX5_isIll_14 rfl ?_
      refine zz_goto hX 19 dX5_isIll_15 (by decide) ?_
      refine zz_iret hX hr rfl (Nat.le_of_ble_eq_true rfl) (Nat.le_of_ble_eq_true rfl) dX5_isIll_19 ?_
      exact ⟨by rw [zz_bi_t ⟨c2, by rw [show zn (nI q) = q from nI_clamp (n := q) (by omega)]; exact c11⟩]; rfl, rfl, rfl, rfl⟩

set_option maxRecDepth 20000 in
theorem K_lampLight (S : zS) (sh : zm_Sh) (mi : zm_Mi) (mr : zm_Mr) (hW : zW S) (hR : zR S sh mi mr) : zz_Con yX5_lampLight (.code yX5_lampLight cX5_lampLight 1 (some Jvm.ClassFile.FieldType.int)) 1 0 0 [.ref 2] sh mi mr (zz_q (some (.int (zp_light S))) sh mi mr) zz_none := by
  refine zz_begin RX5 [(0, .ref 2)] (by decide) rfl rfl (Nat.le_of_ble_eq_true rfl) rfl ?_
  intro Γ D E ad hX hr hN hT
  obtain ⟨hRm, hRp, hRv, hRs, hRf⟩ := id hR
  obtain ⟨m1, m2, m3, m4, m5, m6, m7, m8, m9, m10, m11, m12, m13, m14, m15, m16, m17, m18, m19, m20⟩ := hRm
  obtain ⟨hWp, hWv, hWs, hWk, hWr, hWf⟩ := id hW
  obtain ⟨p0, p1, p2, p3, p4, p5⟩ := hWp
  obtain ⟨v0, v1, v2, v3, v4⟩ := hWv
  obtain ⟨s0, s1, s2, s3⟩ := hWs
  obtain ⟨f0, f1, f2, f3⟩ := hWf
  refine zz_sipush (v := nI 500) hX dX5_lampLight_0 rfl ?_
  refine zz_sipush (v := nI 1000) hX dX5_lampLight_3 rfl ?_
  refine zz_aload_n hX dX5_lampLight_6 0 rfl rfl ?_
  refine zz_getI (x := S 21 0) hX zf_F_X5_56.r m1 rfl (m18) dX5_lampLight_7 ?_
  refine zz_iconst (v := nI 3) hX dX5_lampLight_10 rfl ?_
  refine zz_idiv (z := (S 21 0) / (nI 3)) hX dX5_lampLight_11 (by decide) rfl ?_
  refine zz_isub (z := (nI 1000) - ((S 21 0) / (nI 3))) hX dX5_lampLight_12 rfl ?_
  refine zz_max (z := zp_light S) hX zf_M_X5_341 zw_maxs zw_mi zw_maxc (by decide) (Nat.le_of_ble_eq_true rfl) (Nat.le_of_ble_eq_true rfl) (Nat.le_of_ble_eq_true rfl) rfl dX5_lampLight_13 ?_
  refine zz_iret hX hr rfl (Nat.le_of_ble_eq_true rfl) (Nat.le_of_ble_eq_true rfl) dX5_lampLight_16 ?_
  exact ⟨rfl, rfl, rfl, rfl⟩

theorem zs_neqn {x : Int32} {n : Nat} (h : ¬ x = nI n) (hn : n < 2 ^ 31) : ¬ x.toInt = (n : Int) := fun q => h (Int32.toInt_inj.mp (by rw [nI_toInt hn]; exact q))
theorem zs_ix_zn {x : Int32} {n : Nat} (h : zs_ix x n) (hn : n ≤ 2 ^ 31) : zn x < n ∧ x = nI (zn x) := by
  obtain ⟨i, hi, rfl⟩ := zs_ix_of h hn
  rw [show zn (nI i) = i from nI_clamp (n := i) (by omega)]
  exact ⟨hi, rfl⟩
theorem zs_any_congr {p q : Nat → Prop} [DecidablePred p] [DecidablePred q] {n : Nat} (h : ∀ i, i < n → (p i ↔ q i)) : zs_any p n = zs_any q n := by
  rw [Bool.eq_iff_iff, zs_any_iff, zs_any_iff]
  exact ⟨fun ⟨i, a, b⟩ => ⟨i, a, (h i a).mp b⟩, fun ⟨i, a, b⟩ => ⟨i, a, (h i a).mpr b⟩⟩
theorem zs_any_not {p : Nat → Prop} [DecidablePred p] {n : Nat} (h : ∀ i, i < n → ¬ p i) : ¬ zs_any p n = true := fun q => by
  obtain ⟨i, a, b⟩ := (zs_any_iff n).mp q
  exact h i a b
theorem zs_fst_in {g : Nat → Prop} [DecidablePred g] {v : Nat → Int32} {P : Int32 → Prop} (hP : P (-1)) : ∀ k i, (∀ j, i ≤ j → j < i + k → P (v j)) → P (zs_fst g v k i) := by
  intro k i h
  rcases zs_fst_cases g v k i with ⟨e, -⟩ | ⟨j, h1, h2, -, e, -⟩
  · rw [e]; exact hP
  · rw [e]; exact h j h1 h2
theorem zp_mouth_in {S : zS} (hW : zW S) {i : Nat} (hi : i < zv_ns S) (f : Nat) : zp_mouth S i f = -1 ∨ zs_ix (zp_mouth S i f) 10 := by
  unfold zp_mouth
  by_cases h : S 13 i = -1
  · exact Or.inl (if_pos h)
  · rw [if_neg h]
    have b9 := (hW.2.2.1.2.2.1 i hi).2.2.2.2.2.2.2.2.1
    have hv := zs_ix_zn (b9.resolve_left h) (by have := hW.2.1.2.1; omega)
    refine zs_fst_in (P := fun x => x = -1 ∨ zs_ix x 10) (Or.inl rfl) _ _ (fun j _ h2 => Or.inr ?_)
    have := (hW.2.1.2.2.2.2 (zn (S 13 i)) j (by have := hW.2.1.2.1; omega) (by omega)).1
    exact ⟨this.1, by have := this.2; show _ < (10 : Int); omega⟩
theorem zp_want_in {S : zS} (hW : zW S) {i : Nat} (hi : i < zv_ns S) (f : Nat) : zp_want S i f = -1 ∨ zs_ix (zp_want S i f) 10 := by
  unfold zp_want
  split
  · exact Or.inl rfl
  · exact zp_mouth_in hW hi f
theorem K_soundAt (S : zS) (sh : zm_Sh) (mi : zm_Mi) (mr : zm_Mr) (hW : zW S) (hR : zR S sh mi mr) (v : Nat) (hv : v ≤ zv_nv S) (x : Int32) : zz_Con yX4_soundAt (.code yX4_soundAt cX4_soundAt 3 (some Jvm.ClassFile.FieldType.int)) 0 0 0 [.ref (300 + 3 * v), .int x] sh mi mr (zz_q (some (.int (zs_fst (fun k => x < zs_sum (fun q => S 8 (12 * v + q)) (k + 1)) (fun k => S 7 (12 * v + k)) (zv_sc S v) 0))) sh mi mr) zz_none := by
  obtain ⟨q1, q2, q3, q4⟩ := hR.2.2.1.2 v hv
  obtain ⟨g1, g2, g3, g4, g5⟩ := q1
  have hc := hW.2.1.2.2.1 v (by have := hW.2.1.2.1; omega)
  have h := k_soundAt sh mi mr (300 + 3 * v) (300 + 3 * v + 1) (300 + 3 * v + 2) (zv_sc S v) g1 g2 g3 g4 g5 (q2.trans hc.1) hc.2 x
  rw [zs_fst_congr (g' := fun k => x < zs_sum (fun q => S 8 (12 * v + q)) (k + 1)) (v' := fun k => S 7 (12 * v + k)) (zv_sc S v) 0 (fun j _ h2 => by rw [q4 j (by omega)]) (fun j _ h2 _ => q3 j (by omega))] at h
  exact h
theorem K_isBroken (S : zS) (sh : zm_Sh) (mi : zm_Mi) (mr : zm_Mr) (hW : zW S) (hR : zR S sh mi mr) (p : Nat) (hp : p < zv_np S) : zz_Con yX0_isBroken (.code yX0_isBroken cX0_isBroken 2 (some Jvm.ClassFile.FieldType.boolean)) 0 0 0 [.ref (200 + 4 * p)] sh mi mr (zz_q (some (.int (zz_bi (zp_brk S p)))) sh mi mr) zz_none := by
  obtain ⟨e1, e2, e3, e4, e5, e6⟩ := hR.2.1 p hp
  obtain ⟨g1, g2, g3, g4, g5, g6, g7⟩ := e2
  have hj := hW.1.2.2.1 p hp
  have h := k_isBroken sh mi mr (200 + 4 * p) (200 + 4 * p + 2) (200 + 4 * p + 1) (zv_jn S p) hj.2.2 g1 g3 g2 g6 g5 (e3.trans hj.1)
  rw [zs_any_congr (q := fun j => nI 1000 ≤ S 3 (6 * p + j)) (fun j hj => by rw [e5 j hj])] at h
  exact h
set_option maxRecDepth 20000 in
theorem K_sheetMouth (S : zS) (sh : zm_Sh) (mi : zm_Mi) (mr : zm_Mr) (hW : zW S) (hR : zR S sh mi mr) (i : Nat) (hi : i < zv_ns S) (f : Nat) (hf : f < 1000) : zz_Con yX5_sheetMouth (.code yX5_sheetMouth cX5_sheetMouth 3 (some Jvm.ClassFile.FieldType.int)) 1 0 0 [.ref 2, .ref (1000 + 100 * i), .int (nI f)] sh mi mr (zz_q (some (.int (zp_mouth S i f))) sh mi mr) zz_none := by
  refine zz_begin RX5 [(0, .ref 2), (1, .ref (1000 + 100 * i)), (2, .int (nI f))] (by decide) rfl rfl (Nat.le_of_ble_eq_true rfl) rfl ?_
  intro Γ D E ad hX hr hN hT
  obtain ⟨hRm, hRp, hRv, hRs, hRf⟩ := id hR
  obtain ⟨m1, m2, m3, m4, m5, m6, m7, m8, m9, m10, m11, m12, m13, m14, m15, m16, m17, m18, m19, m20⟩ := hRm
  obtain ⟨hWp, hWv, hWs, hWk, hWr, hWf⟩ := id hW
  obtain ⟨p0, p1, p2, p3, p4, p5⟩ := hWp
  obtain ⟨v0, v1, v2, v3, v4⟩ := hWv
  obtain ⟨s0, s1, s2, s3⟩ := hWs
  obtain ⟨f0, f1, f2, f3⟩ := hWf
  obtain ⟨a1, a2, a3, a4, a5, a6, a7, a8⟩ := zR_sh hW hR hi
  obtain ⟨t1, t2, t3, t4, t5, t6, t7, t8, t9, t10⟩ := a3
  obtain ⟨r1, r2, r3, r4, r5, r6, r7, r8, r9, r10, r11, r12, r13, r14, r15⟩ := t10
  obtain ⟨u1, u2, u3, u4, u5, u6, u7, u8, u9, u10⟩ := hRs i hi
  obtain ⟨b1, b2, b3, b4, b5, b6, b7, b8, b9, b10, b11, b12, b13⟩ := s2 i hi
  refine zz_aload_n hX dX5_sheetMouth_0 1 rfl rfl ?_
  refine zz_getI (x := S 13 i) hX zf_F_X5_131.r t1 rfl (u5) dX5_sheetMouth_1 ?_
  refine zz_iconst (v := (-1)) hX dX5_sheetMouth_4 rfl ?_
  refine zz_icmp_ne hX 12 dX5_sheetMouth_5 (by decide) (fun c5 => ?_) (fun c5 => ?_)
  · skip
    have hv9 := zs_ix_zn (b9.resolve_left c5) (by omega)
    refine zz_aload_n hX dX5_sheetMouth_12 0 rfl rfl ?_
    refine zz_getR (y := 4) hX zf_F_X5_21.r m1 rfl m3 dX5_sheetMouth_13 ?_
    refine zz_aload_n hX dX5_sheetMouth_16 1 rfl rfl ?_
    refine zz_getI (x := S 13 i) hX zf_F_X5_131.r t1 rfl (u5) dX5_sheetMouth_17 ?_
    refine zz_aald (y := (300 + 3 * zn (S 13 i))) hX m9 (by decide) (by decide) (zn (S 13 i)) hv9.2 (by omega) (by decide) (hRv.1 (zn (S 13 i)) (by omega)) dX5_sheetMouth_20 ?_
    refine zz_aload_n hX dX5_sheetMouth_21 1 rfl rfl ?_
    refine zz_iload_n hX dX5_sheetMouth_22 2 rfl rfl ?_
    refine zz_vI (x := nI (zs_pf (zv_st S i) f)) hX zf_M_X5_332 (As := [.int (nI f)]) (st := [.ref (300 + 3 * zn (S 13 i))]) (K_posedFrame S sh mi mr hW hR i hi f (by omega)) t1 rfl rfl rfl (by decide) (Nat.le_of_ble_eq_true rfl) (Nat.le_of_ble_eq_true rfl) (Nat.le_of_ble_eq_true rfl) dX5_sheetMouth_23 ?_
    refine zz_vI (x := zs_fst (fun k => nI (zs_pf (zv_st S i) f) < zs_sum (fun q => S 8 (12 * zn (S 13 i) + q)) (k + 1)) (fun k => S 7 (12 * zn (S 13 i) + k)) (zv_sc S (zn (S 13 i))) 0) hX zf_M_X5_335 (As := [.int (nI (zs_pf (zv_st S i) f))]) (st := []) (K_soundAt S sh mi mr hW hR (zn (S 13 i)) (by omega) (nI (zs_pf (zv_st S i) f))) (hRv.2 (zn (S 13 i)) (by omega)).1.1 rfl rfl rfl (by decide) (Nat.le_of_ble_eq_true rfl) (Nat.le_of_ble_eq_true rfl) (Nat.le_of_ble_eq_true rfl) dX5_sheetMouth_26 ?_
    refine zz_iret hX hr rfl (Nat.le_of_ble_eq_true rfl) (Nat.le_of_ble_eq_true rfl) dX5_sheetMouth_29 ?_
    exact ⟨by rw [show zp_mouth S i f = _ from if_neg c5], rfl, rfl, rfl⟩
  · skip
    refine zz_iconst (v := (-1)) hX dX5_sheetMouth_8 rfl ?_
    refine zz_goto hX 29 dX5_sheetMouth_9 (by decide) ?_
    refine zz_iret hX hr rfl (Nat.le_of_ble_eq_true rfl) (Nat.le_of_ble_eq_true rfl) dX5_sheetMouth_29 ?_
    exact ⟨by rw [show zp_mouth S i f = _ from if_pos c5], rfl, rfl, rfl⟩

set_option maxRecDepth 20000 in
theorem K_mouthWanted (S : zS) (sh : zm_Sh) (mi : zm_Mi) (mr : zm_Mr) (hW : zW S) (hR : zR S sh mi mr) (i : Nat) (hi : i < zv_ns S) (f : Nat) (hf : f < 1000) : zz_Con yX5_mouthWanted (.code yX5_mouthWanted cX5_mouthWanted 4 (some Jvm.ClassFile.FieldType.int)) 2 0 0 [.ref 2, .ref (1000 + 100 * i), .int (nI f)] sh mi mr (zz_q (some (.int (zp_want S i f))) sh mi mr) zz_none := by
  refine zz_begin RX5 [(0, .ref 2), (1, .ref (1000 + 100 * i)), (2, .int (nI f))] (by decide) rfl rfl (Nat.le_of_ble_eq_true rfl) rfl ?_
  intro Γ D E ad hX hr hN hT
  obtain ⟨hRm, hRp, hRv, hRs, hRf⟩ := id hR
  obtain ⟨m1, m2, m3, m4, m5, m6, m7, m8, m9, m10, m11, m12, m13, m14, m15, m16, m17, m18, m19, m20⟩ := hRm
  obtain ⟨hWp, hWv, hWs, hWk, hWr, hWf⟩ := id hW
  obtain ⟨p0, p1, p2, p3, p4, p5⟩ := hWp
  obtain ⟨v0, v1, v2, v3, v4⟩ := hWv
  obtain ⟨s0, s1, s2, s3⟩ := hWs
  obtain ⟨f0, f1, f2, f3⟩ := hWf
  obtain ⟨a1, a2, a3, a4, a5, a6, a7, a8⟩ := zR_sh hW hR hi
  obtain ⟨t1, t2, t3, t4, t5, t6, t7, t8, t9, t10⟩ := a3
  obtain ⟨r1, r2, r3, r4, r5, r6, r7, r8, r9, r10, r11, r12, r13, r14, r15⟩ := t10
  obtain ⟨u1, u2, u3, u4, u5, u6, u7, u8, u9, u10⟩ := hRs i hi
  obtain ⟨b1, b2, b3, b4, b5, b6, b7, b8, b9, b10, b11, b12, b13⟩ := s2 i hi
  refine zz_aload_n hX dX5_mouthWanted_0 0 rfl rfl ?_
  refine zz_aload_n hX dX5_mouthWanted_1 1 rfl rfl ?_
  refine zz_iload_n hX dX5_mouthWanted_2 2 rfl rfl ?_
  refine zz_vI (x := zp_mouth S i f) hX zf_M_X5_231 (As := [.ref (1000 + 100 * i), .int (nI f)]) (st := []) (K_sheetMouth S sh mi mr hW hR i hi f (by omega)) m1 rfl rfl rfl (by decide) (Nat.le_of_ble_eq_true rfl) (Nat.le_of_ble_eq_true rfl) (Nat.le_of_ble_eq_true rfl) dX5_mouthWanted_3 ?_
  refine zz_istore_n (ls' := [(0, .ref 2), (1, .ref (1000 + 100 * i)), (2, .int (nI f)), (3, .int (zp_mouth S i f))]) hX dX5_mouthWanted_6 rfl (Nat.le_of_ble_eq_true rfl) rfl ?_
  refine zz_iload_n hX dX5_mouthWanted_7 3 rfl rfl ?_
  refine zz_aload_n hX dX5_mouthWanted_8 1 rfl rfl ?_
  refine zz_getR (y := (1000 + 100 * i + 5)) hX zf_F_X5_182 t1 rfl t5 dX5_mouthWanted_9 ?_
  refine zz_vI (x := zp_last S i) hX zf_M_X5_338 (As := []) (st := [.int (zp_mouth S i f)]) (K_lastMouth S sh mi mr hW hR i hi) r1 rfl rfl rfl (by decide) (Nat.le_of_ble_eq_true rfl) (Nat.le_of_ble_eq_true rfl) (Nat.le_of_ble_eq_true rfl) dX5_mouthWanted_12 ?_
  refine zz_icmp_ne hX 22 dX5_mouthWanted_15 (by decide) (fun c15 => ?_) (fun c15 => ?_)
  · skip
    refine zz_iload_n hX dX5_mouthWanted_22 3 rfl rfl ?_
    refine zz_iret hX hr rfl (Nat.le_of_ble_eq_true rfl) (Nat.le_of_ble_eq_true rfl) dX5_mouthWanted_23 ?_
    exact ⟨by rw [show zp_want S i f = _ from if_neg c15], rfl, rfl, rfl⟩
  · skip
    refine zz_iconst (v := (-1)) hX dX5_mouthWanted_18 rfl ?_
    refine zz_goto hX 23 dX5_mouthWanted_19 (by decide) ?_
    refine zz_iret hX hr rfl (Nat.le_of_ble_eq_true rfl) (Nat.le_of_ble_eq_true rfl) dX5_mouthWanted_23 ?_
    exact ⟨by rw [show zp_want S i f = _ from if_pos c15], rfl, rfl, rfl⟩

set_option maxRecDepth 20000 in
theorem K_barOfPosing (S : zS) (sh : zm_Sh) (mi : zm_Mi) (mr : zm_Mr) (hW : zW S) (hR : zR S sh mi mr) (i : Nat) (hi : i < zv_ns S) : zz_Con yX5_barOfPosing (.code yX5_barOfPosing cX5_barOfPosing 3 (some Jvm.ClassFile.FieldType.int)) 3 0 0 [.ref 2, .ref (1000 + 100 * i)] sh mi mr (zz_q (some (.int (nI (zp_pbar S i)))) sh mi mr) zz_none := by
  refine zz_begin RX5 [(0, .ref 2), (1, .ref (1000 + 100 * i))] (by decide) rfl rfl (Nat.le_of_ble_eq_true rfl) rfl ?_
  intro Γ D E ad hX hr hN hT
  obtain ⟨hRm, hRp, hRv, hRs, hRf⟩ := id hR
  obtain ⟨m1, m2, m3, m4, m5, m6, m7, m8, m9, m10, m11, m12, m13, m14, m15, m16, m17, m18, m19, m20⟩ := hRm
  obtain ⟨hWp, hWv, hWs, hWk, hWr, hWf⟩ := id hW
  obtain ⟨p0, p1, p2, p3, p4, p5⟩ := hWp
  obtain ⟨v0, v1, v2, v3, v4⟩ := hWv
  obtain ⟨s0, s1, s2, s3⟩ := hWs
  obtain ⟨f0, f1, f2, f3⟩ := hWf
  obtain ⟨a1, a2, a3, a4, a5, a6, a7, a8⟩ := zR_sh hW hR hi
  obtain ⟨t1, t2, t3, t4, t5, t6, t7, t8, t9, t10⟩ := a3
  obtain ⟨r1, r2, r3, r4, r5, r6, r7, r8, r9, r10, r11, r12, r13, r14, r15⟩ := t10
  obtain ⟨u1, u2, u3, u4, u5, u6, u7, u8, u9, u10⟩ := hRs i hi
  obtain ⟨b1, b2, b3, b4, b5, b6, b7, b8, b9, b10, b11, b12, b13⟩ := s2 i hi
  refine zz_aload_n hX dX5_barOfPosing_0 1 rfl rfl ?_
  refine zz_getR (y := (200 + 4 * zv_pu S i)) hX zf_F_X5_134 t1 rfl t2 dX5_barOfPosing_1 ?_
  refine zz_vI (x := zz_bi (zp_brk S (zv_pu S i))) hX zf_M_X5_310 (As := []) (st := []) (K_isBroken S sh mi mr hW hR (zv_pu S i) b2) (hRp (zv_pu S i) b2).2.1.1 rfl rfl rfl (by decide) (Nat.le_of_ble_eq_true rfl) (Nat.le_of_ble_eq_true rfl) (Nat.le_of_ble_eq_true rfl) dX5_barOfPosing_4 ?_
  refine zz_if_eqB hX 12 dX5_barOfPosing_7 (by decide) (fun c7 => ?_) (fun c7 => ?_)
  · skip
    refine zz_aload_n hX dX5_barOfPosing_12 0 rfl rfl ?_
    refine zz_aload_n hX dX5_barOfPosing_13 1 rfl rfl ?_
    refine zz_aload_n hX dX5_barOfPosing_14 1 rfl rfl ?_
    refine zz_getR (y := (1000 + 100 * i + 5)) hX zf_F_X5_182 t1 rfl t5 dX5_barOfPosing_15 ?_
    refine zz_getI (x := nI (zv_sk S i)) hX zf_F_X5_186.r r1 rfl (a6) dX5_barOfPosing_18 ?_
    refine zz_vI (x := zp_want S i (zv_sk S i)) hX zf_M_X5_313 (As := [.ref (1000 + 100 * i), .int (nI (zv_sk S i))]) (st := []) (K_mouthWanted S sh mi mr hW hR i hi (zv_sk S i) (by omega)) m1 rfl rfl rfl (by decide) (Nat.le_of_ble_eq_true rfl) (Nat.le_of_ble_eq_true rfl) (Nat.le_of_ble_eq_true rfl) dX5_barOfPosing_21 ?_
    refine zz_istore_n (ls' := [(0, .ref 2), (1, .ref (1000 + 100 * i)), (2, .int (zp_want S i (zv_sk S i)))]) hX dX5_barOfPosing_24 rfl (Nat.le_of_ble_eq_true rfl) rfl ?_
    refine zz_iload_n hX dX5_barOfPosing_25 2 rfl rfl ?_
    refine zz_iconst (v := (-1)) hX dX5_barOfPosing_26 rfl ?_
    refine zz_icmp_eq hX 45 dX5_barOfPosing_27 (by decide) (fun c27 => ?_) (fun c27 => ?_)
    · skip
      refine zz_iconst (v := nI 0) hX dX5_barOfPosing_45 rfl ?_
      refine zz_iret hX hr rfl (Nat.le_of_ble_eq_true rfl) (Nat.le_of_ble_eq_true rfl) dX5_barOfPosing_46 ?_
      exact ⟨by rw [show zp_pbar S i = _ from (if_neg c7).trans (if_pos c27)], rfl, rfl, rfl⟩
    · skip
      have hm9 := zs_ix_zn ((zp_want_in hW hi (zv_sk S i)).resolve_left c27) (by omega)
      refine zz_aload_n hX dX5_barOfPosing_30 1 rfl rfl ?_
      refine zz_getR (y := (200 + 4 * zv_pu S i)) hX zf_F_X5_134 t1 rfl t2 dX5_barOfPosing_31 ?_
      refine zz_getR (y := (200 + 4 * zv_pu S i + 3)) hX zf_F_X5_80 (hRp (zv_pu S i) b2).2.1.1 rfl (hRp (zv_pu S i) b2).2.1.2.2.2.1 dX5_barOfPosing_34 ?_
      refine zz_iload_n hX dX5_barOfPosing_37 2 rfl rfl ?_
      refine zz_iald (x := S 4 (10 * zv_pu S i + (zn (zp_want S i (zv_sk S i))))) hX (hRp (zv_pu S i) b2).2.1.2.2.2.2.2.2 (zn (zp_want S i (zv_sk S i))) hm9.2 (by omega) (by decide) (((hRp (zv_pu S i) b2).2.2.2.2.2 (zn (zp_want S i (zv_sk S i))) (by omega))) dX5_barOfPosing_38 ?_
      refine zz_if_ne hX 45 dX5_barOfPosing_39 (by decide) (fun c39 => ?_) (fun c39 => ?_)
      · skip
        refine zz_iconst (v := nI 0) hX dX5_barOfPosing_45 rfl ?_
        refine zz_iret hX hr rfl (Nat.le_of_ble_eq_true rfl) (Nat.le_of_ble_eq_true rfl) dX5_barOfPosing_46 ?_
        exact ⟨by rw [show zp_pbar S i = _ from (if_neg c7).trans ((if_neg c27).trans (if_neg c39))], rfl, rfl, rfl⟩
      · skip
        refine zz_bipush (v := nI 6) hX dX5_barOfPosing_42 rfl ?_
        refine zz_iret hX hr rfl (Nat.le_of_ble_eq_true rfl) (Nat.le_of_ble_eq_true rfl) dX5_barOfPosing_44 ?_
        exact ⟨by rw [show zp_pbar S i = _ from (if_neg c7).trans ((if_neg c27).trans (if_pos c39))], rfl, rfl, rfl⟩
  · skip
    refine zz_iconst (v := nI 5) hX dX5_barOfPosing_10 rfl ?_
    refine zz_iret hX hr rfl (Nat.le_of_ble_eq_true rfl) (Nat.le_of_ble_eq_true rfl) dX5_barOfPosing_11 ?_
    exact ⟨by rw [show zp_pbar S i = _ from if_pos c7], rfl, rfl, rfl⟩

set_option maxRecDepth 20000 in
theorem K_animatorIsBusy (S : zS) (sh : zm_Sh) (mi : zm_Mi) (mr : zm_Mr) (hW : zW S) (hR : zR S sh mi mr) (i : Nat) (hi : i < zv_ns S) : zz_Con yX5_animatorIsBusy (.code yX5_animatorIsBusy cX5_animatorIsBusy 4 (some Jvm.ClassFile.FieldType.boolean)) 2 0 0 [.ref 2, .ref (1000 + 100 * i)] sh mi mr (zz_q (some (.int (zz_bi (zp_busy S i)))) sh mi mr) zz_none := by
  refine zz_begin RX5 [(0, .ref 2), (1, .ref (1000 + 100 * i))] (by decide) rfl rfl (Nat.le_of_ble_eq_true rfl) rfl ?_
  intro Γ D E ad hX hr hN hT
  obtain ⟨hRm, hRp, hRv, hRs, hRf⟩ := id hR
  obtain ⟨m1, m2, m3, m4, m5, m6, m7, m8, m9, m10, m11, m12, m13, m14, m15, m16, m17, m18, m19, m20⟩ := hRm
  obtain ⟨hWp, hWv, hWs, hWk, hWr, hWf⟩ := id hW
  obtain ⟨p0, p1, p2, p3, p4, p5⟩ := hWp
  obtain ⟨v0, v1, v2, v3, v4⟩ := hWv
  obtain ⟨s0, s1, s2, s3⟩ := hWs
  obtain ⟨f0, f1, f2, f3⟩ := hWf
  obtain ⟨a1, a2, a3, a4, a5, a6, a7, a8⟩ := zR_sh hW hR hi
  obtain ⟨t1, t2, t3, t4, t5, t6, t7, t8, t9, t10⟩ := a3
  obtain ⟨r1, r2, r3, r4, r5, r6, r7, r8, r9, r10, r11, r12, r13, r14, r15⟩ := t10
  obtain ⟨u1, u2, u3, u4, u5, u6, u7, u8, u9, u10⟩ := hRs i hi
  obtain ⟨b1, b2, b3, b4, b5, b6, b7, b8, b9, b10, b11, b12, b13⟩ := s2 i hi
  refine zz_iconst (v := nI 0) hX dX5_animatorIsBusy_0 rfl ?_
  refine zz_istore_n (ls' := [(0, .ref 2), (1, .ref (1000 + 100 * i)), (2, .int (nI 0))]) hX dX5_animatorIsBusy_1 rfl (Nat.le_of_ble_eq_true rfl) rfl ?_
  have L2 : ∀ (k2 : Nat) (k : Nat), zv_ns S - k < k2 → (k ≤ zv_ns S) → (∀ q, q < k → ¬ (¬ q = i ∧ zp_on S q ∧ S 14 q = S 14 i)) → zz Γ (D, E, 4, ad, sh) (zz_End Γ (D, E, 4, ad, sh) (zz_q (some (.int (zz_bi (zp_busy S i)))) sh mi mr) zz_none 0 0) 0 0 sh mi mr 2 [(0, .ref 2), (1, .ref (1000 + 100 * i)), (2, .int (nI k))] [] := by
    intro k2
    induction k2 with
    | zero => intro k hk2; exact absurd hk2 (Nat.not_lt_zero _)
    | succ k2 ih2 =>
      intro k hk2 hk9 hall
      refine zz_iload_n hX dX5_animatorIsBusy_2 2 rfl rfl ?_
      refine zz_aload_n hX dX5_animatorIsBusy_3 0 rfl rfl ?_
      refine zz_getI (x := nI (zv_ns S)) hX zf_F_X5_39.r m1 rfl ((m15.trans s0)) dX5_animatorIsBusy_4 ?_
      refine zz_icmp_geN hX (by omega) (by omega) 48 dX5_animatorIsBusy_7 (by decide) (fun c7 => ?_) (fun c7 => ?_)
      · skip
        refine zz_iconst (v := nI 0) hX dX5_animatorIsBusy_48 rfl ?_
        refine zz_iret hX hr rfl (Nat.le_of_ble_eq_true rfl) (Nat.le_of_ble_eq_true rfl) dX5_animatorIsBusy_49 ?_
        exact ⟨by rw [zz_bi_f (zs_any_not (fun q hq => hall q (by omega)))]; rfl, rfl, rfl, rfl⟩
      · skip
        refine zz_aload_n hX dX5_animatorIsBusy_10 0 rfl rfl ?_
        refine zz_getR (y := 5) hX zf_F_X5_35.r m1 rfl m5 dX5_animatorIsBusy_11 ?_
        refine zz_iload_n hX dX5_animatorIsBusy_14 2 rfl rfl ?_
        refine zz_aald (y := (1000 + 100 * k)) hX m10 (by decide) (by decide) k rfl (by omega) (by decide) (hRs k c7).1 dX5_animatorIsBusy_15 ?_
        refine zz_astore_n (ls' := [(0, .ref 2), (1, .ref (1000 + 100 * i)), (2, .int (nI k)), (3, .ref (1000 + 100 * k))]) hX dX5_animatorIsBusy_16 rfl (Nat.le_of_ble_eq_true rfl) rfl ?_
        refine zz_aload_n hX dX5_animatorIsBusy_17 3 rfl rfl ?_
        refine zz_aload_n hX dX5_animatorIsBusy_18 1 rfl rfl ?_
        refine zz_acmp_eq hX 42 dX5_animatorIsBusy_19 (by decide) (fun q => by rw [(hRs k c7).2.1.1] at q; cases q) (fun q => by rw [t1] at q; cases q) (fun c19 => ?_) (fun c19 => ?_)
        · skip
          refine zz_pick (ls' := [(0, .ref 2), (1, .ref (1000 + 100 * i)), (2, .int (nI k))]) [0, 1, 2] rfl ?_
          refine zz_iinc (v := nI (k + 1)) (ls' := [(0, .ref 2), (1, .ref (1000 + 100 * i)), (2, .int (nI (k + 1)))]) hX dX5_animatorIsBusy_42 2 rfl (nI_1 _) (Nat.le_of_ble_eq_true rfl) rfl ?_
          refine zz_goto hX 2 dX5_animatorIsBusy_45 (by decide) ?_
          exact ih2 (k + 1) (by omega) (by omega) (fun q hq => by
            by_cases e : q = k
            · rw [e]; exact fun h => h.1 (by omega)
            · exact hall q (by omega))
        · skip
          refine zz_aload_n hX dX5_animatorIsBusy_22 3 rfl rfl ?_
          refine zz_vI (x := zz_bi (zp_on S k)) hX zf_M_X5_316 (As := []) (st := []) (K_isUnderWay S sh mi mr hW hR k c7) (hRs k c7).2.1.1 rfl rfl rfl (by decide) (Nat.le_of_ble_eq_true rfl) (Nat.le_of_ble_eq_true rfl) (Nat.le_of_ble_eq_true rfl) dX5_animatorIsBusy_23 ?_
          refine zz_if_eqB hX 42 dX5_animatorIsBusy_26 (by decide) (fun c26 => ?_) (fun c26 => ?_)
          · skip
            refine zz_pick (ls' := [(0, .ref 2), (1, .ref (1000 + 100 * i)), (2, .int (nI k))]) [0, 1, 2] rfl ?_
            refine zz_iinc (v := nI (k + 1)) (ls' := [(0, .ref 2), (1, .ref (1000 + 100 * i)), (2, .int (nI (k + 1)))]) hX dX5_animatorIsBusy_42 2 rfl (nI_1 _) (Nat.le_of_ble_eq_true rfl) rfl ?_
            refine zz_goto hX 2 dX5_animatorIsBusy_45 (by decide) ?_
            exact ih2 (k + 1) (by omega) (by omega) (fun q hq => by
              by_cases e : q = k
              · rw [e]; exact fun h => c26 h.2.1
              · exact hall q (by omega))
          · skip
            refine zz_aload_n hX dX5_animatorIsBusy_29 3 rfl rfl ?_
            refine zz_getI (x := S 14 k) hX zf_F_X5_122.r (hRs k c7).2.1.1 rfl ((hRs k c7).2.2.2.2.2.1) dX5_animatorIsBusy_30 ?_
            refine zz_aload_n hX dX5_animatorIsBusy_33 1 rfl rfl ?_
            refine zz_getI (x := S 14 i) hX zf_F_X5_122.r t1 rfl (u6) dX5_animatorIsBusy_34 ?_
            refine zz_icmp_ne hX 42 dX5_animatorIsBusy_37 (by decide) (fun c37 => ?_) (fun c37 => ?_)
            · skip
              refine zz_pick (ls' := [(0, .ref 2), (1, .ref (1000 + 100 * i)), (2, .int (nI k))]) [0, 1, 2] rfl ?_
              refine zz_iinc (v := nI (k + 1)) (ls' := [(0, .ref 2), (1, .ref (1000 + 100 * i)), (2, .int (nI (k + 1)))]) hX dX5_animatorIsBusy_42 2 rfl (nI_1 _) (Nat.le_of_ble_eq_true rfl) rfl ?_
              refine zz_goto hX 2 dX5_animatorIsBusy_45 (by decide) ?_
              exact ih2 (k + 1) (by omega) (by omega) (fun q hq => by
                by_cases e : q = k
                · rw [e]; exact fun h => c37 h.2.2
                · exact hall q (by omega))
            · skip
              refine zz_iconst (v := nI 1) hX dX5_animatorIsBusy_40 rfl ?_
              refine zz_iret hX hr rfl (Nat.le_of_ble_eq_true rfl) (Nat.le_of_ble_eq_true rfl) dX5_animatorIsBusy_41 ?_
              exact ⟨by rw [zz_bi_t ((zs_any_iff _).mpr ⟨k, c7, by omega, c26, c37⟩)]; rfl, rfl, rfl, rfl⟩
  exact L2 ((zv_ns S - 0 + 1)) 0 (by omega) (Nat.zero_le _) (fun q hq => absurd hq (Nat.not_lt_zero _))

set_option maxRecDepth 20000 in
theorem K_puppetIsBusy (S : zS) (sh : zm_Sh) (mi : zm_Mi) (mr : zm_Mr) (hW : zW S) (hR : zR S sh mi mr) (i : Nat) (hi : i < zv_ns S) : zz_Con yX5_puppetIsBusy (.code yX5_puppetIsBusy cX5_puppetIsBusy 4 (some Jvm.ClassFile.FieldType.boolean)) 2 0 0 [.ref 2, .ref (1000 + 100 * i)] sh mi mr (zz_q (some (.int (zz_bi (zp_puse S i)))) sh mi mr) zz_none := by
  refine zz_begin RX5 [(0, .ref 2), (1, .ref (1000 + 100 * i))] (by decide) rfl rfl (Nat.le_of_ble_eq_true rfl) rfl ?_
  intro Γ D E ad hX hr hN hT
  obtain ⟨hRm, hRp, hRv, hRs, hRf⟩ := id hR
  obtain ⟨m1, m2, m3, m4, m5, m6, m7, m8, m9, m10, m11, m12, m13, m14, m15, m16, m17, m18, m19, m20⟩ := hRm
  obtain ⟨hWp, hWv, hWs, hWk, hWr, hWf⟩ := id hW
  obtain ⟨p0, p1, p2, p3, p4, p5⟩ := hWp
  obtain ⟨v0, v1, v2, v3, v4⟩ := hWv
  obtain ⟨s0, s1, s2, s3⟩ := hWs
  obtain ⟨f0, f1, f2, f3⟩ := hWf
  obtain ⟨a1, a2, a3, a4, a5, a6, a7, a8⟩ := zR_sh hW hR hi
  obtain ⟨t1, t2, t3, t4, t5, t6, t7, t8, t9, t10⟩ := a3
  obtain ⟨r1, r2, r3, r4, r5, r6, r7, r8, r9, r10, r11, r12, r13, r14, r15⟩ := t10
  obtain ⟨u1, u2, u3, u4, u5, u6, u7, u8, u9, u10⟩ := hRs i hi
  obtain ⟨b1, b2, b3, b4, b5, b6, b7, b8, b9, b10, b11, b12, b13⟩ := s2 i hi
  refine zz_iconst (v := nI 0) hX dX5_puppetIsBusy_0 rfl ?_
  refine zz_istore_n (ls' := [(0, .ref 2), (1, .ref (1000 + 100 * i)), (2, .int (nI 0))]) hX dX5_puppetIsBusy_1 rfl (Nat.le_of_ble_eq_true rfl) rfl ?_
  have L2 : ∀ (k2 : Nat) (k : Nat), zv_ns S - k < k2 → (k ≤ zv_ns S) → (∀ q, q < k → ¬ (¬ q = i ∧ zp_on S q ∧ zv_pu S q = zv_pu S i)) → zz Γ (D, E, 4, ad, sh) (zz_End Γ (D, E, 4, ad, sh) (zz_q (some (.int (zz_bi (zp_puse S i)))) sh mi mr) zz_none 0 0) 0 0 sh mi mr 2 [(0, .ref 2), (1, .ref (1000 + 100 * i)), (2, .int (nI k))] [] := by
    intro k2
    induction k2 with
    | zero => intro k hk2; exact absurd hk2 (Nat.not_lt_zero _)
    | succ k2 ih2 =>
      intro k hk2 hk9 hall
      refine zz_iload_n hX dX5_puppetIsBusy_2 2 rfl rfl ?_
      refine zz_aload_n hX dX5_puppetIsBusy_3 0 rfl rfl ?_
      refine zz_getI (x := nI (zv_ns S)) hX zf_F_X5_39.r m1 rfl ((m15.trans s0)) dX5_puppetIsBusy_4 ?_
      refine zz_icmp_geN hX (by omega) (by omega) 48 dX5_puppetIsBusy_7 (by decide) (fun c7 => ?_) (fun c7 => ?_)
      · skip
        refine zz_iconst (v := nI 0) hX dX5_puppetIsBusy_48 rfl ?_
        refine zz_iret hX hr rfl (Nat.le_of_ble_eq_true rfl) (Nat.le_of_ble_eq_true rfl) dX5_puppetIsBusy_49 ?_
        exact ⟨by rw [zz_bi_f (zs_any_not (fun q hq => hall q (by omega)))]; rfl, rfl, rfl, rfl⟩
      · skip
        refine zz_aload_n hX dX5_puppetIsBusy_10 0 rfl rfl ?_
        refine zz_getR (y := 5) hX zf_F_X5_35.r m1 rfl m5 dX5_puppetIsBusy_11 ?_
        refine zz_iload_n hX dX5_puppetIsBusy_14 2 rfl rfl ?_
        refine zz_aald (y := (1000 + 100 * k)) hX m10 (by decide) (by decide) k rfl (by omega) (by decide) (hRs k c7).1 dX5_puppetIsBusy_15 ?_
        refine zz_astore_n (ls' := [(0, .ref 2), (1, .ref (1000 + 100 * i)), (2, .int (nI k)), (3, .ref (1000 + 100 * k))]) hX dX5_puppetIsBusy_16 rfl (Nat.le_of_ble_eq_true rfl) rfl ?_
        refine zz_aload_n hX dX5_puppetIsBusy_17 3 rfl rfl ?_
        refine zz_aload_n hX dX5_puppetIsBusy_18 1 rfl rfl ?_
        refine zz_acmp_eq hX 42 dX5_puppetIsBusy_19 (by decide) (fun q => by rw [(hRs k c7).2.1.1] at q; cases q) (fun q => by rw [t1] at q; cases q) (fun c19 => ?_) (fun c19 => ?_)
        · skip
          refine zz_pick (ls' := [(0, .ref 2), (1, .ref (1000 + 100 * i)), (2, .int (nI k))]) [0, 1, 2] rfl ?_
          refine zz_iinc (v := nI (k + 1)) (ls' := [(0, .ref 2), (1, .ref (1000 + 100 * i)), (2, .int (nI (k + 1)))]) hX dX5_puppetIsBusy_42 2 rfl (nI_1 _) (Nat.le_of_ble_eq_true rfl) rfl ?_
          refine zz_goto hX 2 dX5_puppetIsBusy_45 (by decide) ?_
          exact ih2 (k + 1) (by omega) (by omega) (fun q hq => by
            by_cases e : q = k
            · rw [e]; exact fun h => h.1 (by omega)
            · exact hall q (by omega))
        · skip
          refine zz_aload_n hX dX5_puppetIsBusy_22 3 rfl rfl ?_
          refine zz_vI (x := zz_bi (zp_on S k)) hX zf_M_X5_316 (As := []) (st := []) (K_isUnderWay S sh mi mr hW hR k c7) (hRs k c7).2.1.1 rfl rfl rfl (by decide) (Nat.le_of_ble_eq_true rfl) (Nat.le_of_ble_eq_true rfl) (Nat.le_of_ble_eq_true rfl) dX5_puppetIsBusy_23 ?_
          refine zz_if_eqB hX 42 dX5_puppetIsBusy_26 (by decide) (fun c26 => ?_) (fun c26 => ?_)
          · skip
            refine zz_pick (ls' := [(0, .ref 2), (1, .ref (1000 + 100 * i)), (2, .int (nI k))]) [0, 1, 2] rfl ?_
            refine zz_iinc (v := nI (k + 1)) (ls' := [(0, .ref 2), (1, .ref (1000 + 100 * i)), (2, .int (nI (k + 1)))]) hX dX5_puppetIsBusy_42 2 rfl (nI_1 _) (Nat.le_of_ble_eq_true rfl) rfl ?_
            refine zz_goto hX 2 dX5_puppetIsBusy_45 (by decide) ?_
            exact ih2 (k + 1) (by omega) (by omega) (fun q hq => by
              by_cases e : q = k
              · rw [e]; exact fun h => c26 h.2.1
              · exact hall q (by omega))
          · skip
            refine zz_aload_n hX dX5_puppetIsBusy_29 3 rfl rfl ?_
            refine zz_getR (y := (200 + 4 * zv_pu S k)) hX zf_F_X5_134 (hRs k c7).2.1.1 rfl (hRs k c7).2.1.2.1 dX5_puppetIsBusy_30 ?_
            refine zz_aload_n hX dX5_puppetIsBusy_33 1 rfl rfl ?_
            refine zz_getR (y := (200 + 4 * zv_pu S i)) hX zf_F_X5_134 t1 rfl t2 dX5_puppetIsBusy_34 ?_
            refine zz_acmp_ne hX 42 dX5_puppetIsBusy_37 (by decide) (fun q => by rw [(hRp _ (s2 k c7).2.1).2.1.1] at q; cases q) (fun q => by rw [(hRp _ (s2 i hi).2.1).2.1.1] at q; cases q) (fun c37 => ?_) (fun c37 => ?_)
            · skip
              refine zz_pick (ls' := [(0, .ref 2), (1, .ref (1000 + 100 * i)), (2, .int (nI k))]) [0, 1, 2] rfl ?_
              refine zz_iinc (v := nI (k + 1)) (ls' := [(0, .ref 2), (1, .ref (1000 + 100 * i)), (2, .int (nI (k + 1)))]) hX dX5_puppetIsBusy_42 2 rfl (nI_1 _) (Nat.le_of_ble_eq_true rfl) rfl ?_
              refine zz_goto hX 2 dX5_puppetIsBusy_45 (by decide) ?_
              exact ih2 (k + 1) (by omega) (by omega) (fun q hq => by
                by_cases e : q = k
                · rw [e]; exact fun h => c37 (by rw [h.2.2])
                · exact hall q (by omega))
            · skip
              refine zz_iconst (v := nI 1) hX dX5_puppetIsBusy_40 rfl ?_
              refine zz_iret hX hr rfl (Nat.le_of_ble_eq_true rfl) (Nat.le_of_ble_eq_true rfl) dX5_puppetIsBusy_41 ?_
              exact ⟨by rw [zz_bi_t ((zs_any_iff _).mpr ⟨k, c7, by omega, c26, by omega⟩)]; rfl, rfl, rfl, rfl⟩
  exact L2 ((zv_ns S - 0 + 1)) 0 (by omega) (Nat.zero_le _) (fun q hq => absurd hq (Nat.not_lt_zero _))

set_option maxRecDepth 20000 in
theorem K_barOf (S : zS) (sh : zm_Sh) (mi : zm_Mi) (mr : zm_Mr) (hW : zW S) (hR : zR S sh mi mr) (i : Nat) (hi : i < zv_ns S) : zz_Con yX5_barOf (.code yX5_barOf cX5_barOf 2 (some Jvm.ClassFile.FieldType.int)) 4 0 0 [.ref 2, .ref (1000 + 100 * i)] sh mi mr (zz_q (some (.int (nI (zp_bar S i)))) sh mi mr) zz_none := by
  refine zz_begin RX5 [(0, .ref 2), (1, .ref (1000 + 100 * i))] (by decide) rfl rfl (Nat.le_of_ble_eq_true rfl) rfl ?_
  intro Γ D E ad hX hr hN hT
  obtain ⟨hRm, hRp, hRv, hRs, hRf⟩ := id hR
  obtain ⟨m1, m2, m3, m4, m5, m6, m7, m8, m9, m10, m11, m12, m13, m14, m15, m16, m17, m18, m19, m20⟩ := hRm
  obtain ⟨hWp, hWv, hWs, hWk, hWr, hWf⟩ := id hW
  obtain ⟨p0, p1, p2, p3, p4, p5⟩ := hWp
  obtain ⟨v0, v1, v2, v3, v4⟩ := hWv
  obtain ⟨s0, s1, s2, s3⟩ := hWs
  obtain ⟨f0, f1, f2, f3⟩ := hWf
  obtain ⟨a1, a2, a3, a4, a5, a6, a7, a8⟩ := zR_sh hW hR hi
  obtain ⟨t1, t2, t3, t4, t5, t6, t7, t8, t9, t10⟩ := a3
  obtain ⟨r1, r2, r3, r4, r5, r6, r7, r8, r9, r10, r11, r12, r13, r14, r15⟩ := t10
  obtain ⟨u1, u2, u3, u4, u5, u6, u7, u8, u9, u10⟩ := hRs i hi
  obtain ⟨b1, b2, b3, b4, b5, b6, b7, b8, b9, b10, b11, b12, b13⟩ := s2 i hi
  refine zz_aload_n hX dX5_barOf_0 1 rfl rfl ?_
  refine zz_vI (x := zz_bi (zv_fr S i ≤ zv_sk S i)) hX zf_M_X5_113 (As := []) (st := []) (K_isDone S sh mi mr hW hR i hi) t1 rfl rfl rfl (by decide) (Nat.le_of_ble_eq_true rfl) (Nat.le_of_ble_eq_true rfl) (Nat.le_of_ble_eq_true rfl) dX5_barOf_1 ?_
  refine zz_if_eqB hX 10 dX5_barOf_4 (by decide) (fun c4 => ?_) (fun c4 => ?_)
  · skip
    refine zz_aload_n hX dX5_barOf_10 1 rfl rfl ?_
    refine zz_getI (x := S 14 i) hX zf_F_X5_122.r t1 rfl (u6) dX5_barOf_11 ?_
    refine zz_iconst (v := (-1)) hX dX5_barOf_14 rfl ?_
    refine zz_icmp_ne hX 20 dX5_barOf_15 (by decide) (fun c15 => ?_) (fun c15 => ?_)
    · skip
      refine zz_aload_n hX dX5_barOf_20 0 rfl rfl ?_
      refine zz_aload_n hX dX5_barOf_21 1 rfl rfl ?_
      refine zz_getI (x := S 14 i) hX zf_F_X5_122.r t1 rfl (u6) dX5_barOf_22 ?_
      refine zz_vI (x := zz_bi (¬ S 14 i = -1 ∧ ¬ S 17 (zn (S 14 i)) = 0)) hX zf_M_X5_125 (As := [.int (S 14 i)]) (st := []) (K_isIll S sh mi mr hW hR (S 14 i) b10) m1 rfl rfl rfl (by decide) (Nat.le_of_ble_eq_true rfl) (Nat.le_of_ble_eq_true rfl) (Nat.le_of_ble_eq_true rfl) dX5_barOf_25 ?_
      refine zz_if_eqB hX 33 dX5_barOf_28 (by decide) (fun c28 => ?_) (fun c28 => ?_)
      · skip
        refine zz_aload_n hX dX5_barOf_33 0 rfl rfl ?_
        refine zz_aload_n hX dX5_barOf_34 1 rfl rfl ?_
        refine zz_vI (x := zz_bi (zp_busy S i)) hX zf_M_X5_300 (As := [.ref (1000 + 100 * i)]) (st := []) (K_animatorIsBusy S sh mi mr hW hR i hi) m1 rfl rfl rfl (by decide) (Nat.le_of_ble_eq_true rfl) (Nat.le_of_ble_eq_true rfl) (Nat.le_of_ble_eq_true rfl) dX5_barOf_35 ?_
        refine zz_if_eqB hX 43 dX5_barOf_38 (by decide) (fun c38 => ?_) (fun c38 => ?_)
        · skip
          refine zz_aload_n hX dX5_barOf_43 0 rfl rfl ?_
          refine zz_aload_n hX dX5_barOf_44 1 rfl rfl ?_
          refine zz_vI (x := zz_bi (zp_puse S i)) hX zf_M_X5_304 (As := [.ref (1000 + 100 * i)]) (st := []) (K_puppetIsBusy S sh mi mr hW hR i hi) m1 rfl rfl rfl (by decide) (Nat.le_of_ble_eq_true rfl) (Nat.le_of_ble_eq_true rfl) (Nat.le_of_ble_eq_true rfl) dX5_barOf_45 ?_
          refine zz_if_eqB hX 53 dX5_barOf_48 (by decide) (fun c48 => ?_) (fun c48 => ?_)
          · skip
            refine zz_aload_n hX dX5_barOf_53 1 rfl rfl ?_
            refine zz_aload_n hX dX5_barOf_54 1 rfl rfl ?_
            refine zz_getR (y := (1000 + 100 * i + 5)) hX zf_F_X5_182 t1 rfl t5 dX5_barOf_55 ?_
            refine zz_getI (x := nI (zv_sk S i)) hX zf_F_X5_186.r r1 rfl (a6) dX5_barOf_58 ?_
            refine zz_vI (x := zz_bi (zp_held S i (zv_sk S i))) hX zf_M_X5_149 (As := [.int (nI (zv_sk S i))]) (st := []) (K_isHeld S sh mi mr hW hR i hi (zv_sk S i) (by omega)) t1 rfl rfl rfl (by decide) (Nat.le_of_ble_eq_true rfl) (Nat.le_of_ble_eq_true rfl) (Nat.le_of_ble_eq_true rfl) dX5_barOf_61 ?_
            refine zz_if_eqB hX 71 dX5_barOf_64 (by decide) (fun c64 => ?_) (fun c64 => ?_)
            · skip
              refine zz_aload_n hX dX5_barOf_71 0 rfl rfl ?_
              refine zz_aload_n hX dX5_barOf_72 1 rfl rfl ?_
              refine zz_vI (x := nI (zp_pbar S i)) hX zf_M_X5_307 (As := [.ref (1000 + 100 * i)]) (st := []) (K_barOfPosing S sh mi mr hW hR i hi) m1 rfl rfl rfl (by decide) (Nat.le_of_ble_eq_true rfl) (Nat.le_of_ble_eq_true rfl) (Nat.le_of_ble_eq_true rfl) dX5_barOf_73 ?_
              refine zz_iret hX hr rfl (Nat.le_of_ble_eq_true rfl) (Nat.le_of_ble_eq_true rfl) dX5_barOf_76 ?_
              exact ⟨by rw [show zp_bar S i = _ from (if_neg c4).trans ((if_neg c15).trans ((if_neg (fun h => c28 ⟨c15, h⟩)).trans ((if_neg c38).trans ((if_neg c48).trans (if_neg c64)))))], rfl, rfl, rfl⟩
            · skip
              refine zz_iconst (v := nI 0) hX dX5_barOf_67 rfl ?_
              refine zz_goto hX 76 dX5_barOf_68 (by decide) ?_
              refine zz_iret hX hr rfl (Nat.le_of_ble_eq_true rfl) (Nat.le_of_ble_eq_true rfl) dX5_barOf_76 ?_
              exact ⟨by rw [show zp_bar S i = _ from (if_neg c4).trans ((if_neg c15).trans ((if_neg (fun h => c28 ⟨c15, h⟩)).trans ((if_neg c38).trans ((if_neg c48).trans (if_pos c64)))))], rfl, rfl, rfl⟩
          · skip
            refine zz_iconst (v := nI 4) hX dX5_barOf_51 rfl ?_
            refine zz_iret hX hr rfl (Nat.le_of_ble_eq_true rfl) (Nat.le_of_ble_eq_true rfl) dX5_barOf_52 ?_
            exact ⟨by rw [show zp_bar S i = _ from (if_neg c4).trans ((if_neg c15).trans ((if_neg (fun h => c28 ⟨c15, h⟩)).trans ((if_neg c38).trans (if_pos c48))))], rfl, rfl, rfl⟩
        · skip
          refine zz_iconst (v := nI 3) hX dX5_barOf_41 rfl ?_
          refine zz_iret hX hr rfl (Nat.le_of_ble_eq_true rfl) (Nat.le_of_ble_eq_true rfl) dX5_barOf_42 ?_
          exact ⟨by rw [show zp_bar S i = _ from (if_neg c4).trans ((if_neg c15).trans ((if_neg (fun h => c28 ⟨c15, h⟩)).trans (if_pos c38)))], rfl, rfl, rfl⟩
      · skip
        refine zz_iconst (v := nI 2) hX dX5_barOf_31 rfl ?_
        refine zz_iret hX hr rfl (Nat.le_of_ble_eq_true rfl) (Nat.le_of_ble_eq_true rfl) dX5_barOf_32 ?_
        exact ⟨by rw [show zp_bar S i = _ from (if_neg c4).trans ((if_neg c15).trans (if_pos c28.2))], rfl, rfl, rfl⟩
    · skip
      refine zz_iconst (v := nI 1) hX dX5_barOf_18 rfl ?_
      refine zz_iret hX hr rfl (Nat.le_of_ble_eq_true rfl) (Nat.le_of_ble_eq_true rfl) dX5_barOf_19 ?_
      exact ⟨by rw [show zp_bar S i = _ from (if_neg c4).trans (if_pos c15)], rfl, rfl, rfl⟩
  · skip
    refine zz_bipush (v := nI 7) hX dX5_barOf_7 rfl ?_
    refine zz_iret hX hr rfl (Nat.le_of_ble_eq_true rfl) (Nat.le_of_ble_eq_true rfl) dX5_barOf_9 ?_
    exact ⟨by rw [show zp_bar S i = _ from if_pos c4], rfl, rfl, rfl⟩

set_option maxRecDepth 20000 in
theorem k_refuseBarred (v : Int32) (sh : zm_Sh) (mi : zm_Mi) (mr : zm_Mr) : zz_Con yX5_refuseBarred (.code yX5_refuseBarred cX5_refuseBarred 1 none) 6 1 6 [.int v] sh mi mr (zz_ck (v = nI 0) none sh mi mr) (zz_ex (¬ (v = nI 0)) "java/lang/IllegalStateException" sh mi mr) := by
  refine zz_begin RX5 [(0, .int v)] (by decide) rfl rfl (Nat.le_of_ble_eq_true rfl) rfl ?_
  intro Γ D E ad hX hr hN hT
  refine zz_iload_n hX dX5_refuseBarred_0 0 rfl rfl ?_
  by_cases s1_0 : v = nI 0
  · skip
    refine zz_tableIn hX 44 (off := 43) dX5_refuseBarred_1 (by rw [s1_0]; decide) (by rw [s1_0]; decide) (by rw [s1_0]; rfl) (by decide) ?_
    refine zz_vret hX hr (Nat.le_of_ble_eq_true rfl) (Nat.le_of_ble_eq_true rfl) dX5_refuseBarred_44 ?_
    exact ⟨s1_0, rfl, rfl, rfl, rfl⟩
  by_cases s1_1 : v = nI 1
  · skip
    refine zz_tableIn hX 45 (off := 44) dX5_refuseBarred_1 (by rw [s1_1]; decide) (by rw [s1_1]; decide) (by rw [s1_1]; rfl) (by decide) ?_
    refine zz_throwW hX hT zf_T_X5_319 dX5_refuseBarred_45 dX5_refuseBarred_48 dX5_refuseBarred_49 dX5_refuseBarred_52 dX5_refuseBarred_55 (by decide) (Nat.le_of_ble_eq_true rfl) (Nat.le_of_ble_eq_true rfl) (Nat.le_of_ble_eq_true rfl) ?_
    exact ⟨fun h => absurd (h.symm.trans s1_1) (by decide), rfl, rfl, rfl, rfl⟩
  by_cases s1_2 : v = nI 2
  · skip
    refine zz_tableIn hX 56 (off := 55) dX5_refuseBarred_1 (by rw [s1_2]; decide) (by rw [s1_2]; decide) (by rw [s1_2]; rfl) (by decide) ?_
    refine zz_throwW hX hT zf_T_X5_321 dX5_refuseBarred_56 dX5_refuseBarred_59 dX5_refuseBarred_60 dX5_refuseBarred_63 dX5_refuseBarred_66 (by decide) (Nat.le_of_ble_eq_true rfl) (Nat.le_of_ble_eq_true rfl) (Nat.le_of_ble_eq_true rfl) ?_
    exact ⟨fun h => absurd (h.symm.trans s1_2) (by decide), rfl, rfl, rfl, rfl⟩
  by_cases s1_3 : v = nI 3
  · skip
    refine zz_tableIn hX 67 (off := 66) dX5_refuseBarred_1 (by rw [s1_3]; decide) (by rw [s1_3]; decide) (by rw [s1_3]; rfl) (by decide) ?_
    refine zz_throwW hX hT zf_T_X5_323 dX5_refuseBarred_67 dX5_refuseBarred_70 dX5_refuseBarred_71 dX5_refuseBarred_74 dX5_refuseBarred_77 (by decide) (Nat.le_of_ble_eq_true rfl) (Nat.le_of_ble_eq_true rfl) (Nat.le_of_ble_eq_true rfl) ?_
    exact ⟨fun h => absurd (h.symm.trans s1_3) (by decide), rfl, rfl, rfl, rfl⟩
  by_cases s1_4 : v = nI 4
  · skip
    refine zz_tableIn hX 67 (off := 66) dX5_refuseBarred_1 (by rw [s1_4]; decide) (by rw [s1_4]; decide) (by rw [s1_4]; rfl) (by decide) ?_
    refine zz_throwW hX hT zf_T_X5_323 dX5_refuseBarred_67 dX5_refuseBarred_70 dX5_refuseBarred_71 dX5_refuseBarred_74 dX5_refuseBarred_77 (by decide) (Nat.le_of_ble_eq_true rfl) (Nat.le_of_ble_eq_true rfl) (Nat.le_of_ble_eq_true rfl) ?_
    exact ⟨fun h => absurd (h.symm.trans s1_4) (by decide), rfl, rfl, rfl, rfl⟩
  by_cases s1_5 : v = nI 5
  · skip
    refine zz_tableIn hX 78 (off := 77) dX5_refuseBarred_1 (by rw [s1_5]; decide) (by rw [s1_5]; decide) (by rw [s1_5]; rfl) (by decide) ?_
    refine zz_throwW hX hT zf_T_X5_325 dX5_refuseBarred_78 dX5_refuseBarred_81 dX5_refuseBarred_82 dX5_refuseBarred_85 dX5_refuseBarred_88 (by decide) (Nat.le_of_ble_eq_true rfl) (Nat.le_of_ble_eq_true rfl) (Nat.le_of_ble_eq_true rfl) ?_
    exact ⟨fun h => absurd (h.symm.trans s1_5) (by decide), rfl, rfl, rfl, rfl⟩
  by_cases s1_6 : v = nI 6
  · skip
    refine zz_tableIn hX 89 (off := 88) dX5_refuseBarred_1 (by rw [s1_6]; decide) (by rw [s1_6]; decide) (by rw [s1_6]; rfl) (by decide) ?_
    refine zz_throwW hX hT zf_T_X5_327 dX5_refuseBarred_89 dX5_refuseBarred_92 dX5_refuseBarred_93 dX5_refuseBarred_96 dX5_refuseBarred_99 (by decide) (Nat.le_of_ble_eq_true rfl) (Nat.le_of_ble_eq_true rfl) (Nat.le_of_ble_eq_true rfl) ?_
    exact ⟨fun h => absurd (h.symm.trans s1_6) (by decide), rfl, rfl, rfl, rfl⟩
  have t1_0 := zs_neqn s1_0 (by decide)
  have t1_1 := zs_neqn s1_1 (by decide)
  have t1_2 := zs_neqn s1_2 (by decide)
  have t1_3 := zs_neqn s1_3 (by decide)
  have t1_4 := zs_neqn s1_4 (by decide)
  have t1_5 := zs_neqn s1_5 (by decide)
  have t1_6 := zs_neqn s1_6 (by decide)
  refine zz_tableOut hX 100 dX5_refuseBarred_1 (by omega) (by decide) ?_
  refine zz_throw hX hT zf_T_X5_117 dX5_refuseBarred_100 dX5_refuseBarred_103 dX5_refuseBarred_104 dX5_refuseBarred_106 dX5_refuseBarred_109 (by decide) (Nat.le_of_ble_eq_true rfl) (Nat.le_of_ble_eq_true rfl) (Nat.le_of_ble_eq_true rfl) ?_
  exact ⟨s1_0, rfl, rfl, rfl, rfl⟩

set_option maxRecDepth 20000 in
theorem K_cutIndex (S : zS) (sh : zm_Sh) (mi : zm_Mi) (mr : zm_Mr) (hW : zW S) (hR : zR S sh mi mr) (s : Int32) : zz_Con yX5_cutIndex (.code yX5_cutIndex cX5_cutIndex 3 (some Jvm.ClassFile.FieldType.int)) 0 0 0 [.ref 2, .int s] sh mi mr (zz_q (some (.int (zp_cut S s))) sh mi mr) zz_none := by
  refine zz_begin RX5 [(0, .ref 2), (1, .int s)] (by decide) rfl rfl (Nat.le_of_ble_eq_true rfl) rfl ?_
  intro Γ D E ad hX hr hN hT
  obtain ⟨hRm, hRp, hRv, hRs, hRf⟩ := id hR
  obtain ⟨m1, m2, m3, m4, m5, m6, m7, m8, m9, m10, m11, m12, m13, m14, m15, m16, m17, m18, m19, m20⟩ := hRm
  obtain ⟨hWp, hWv, hWs, hWk, hWr, hWf⟩ := id hW
  obtain ⟨p0, p1, p2, p3, p4, p5⟩ := hWp
  obtain ⟨v0, v1, v2, v3, v4⟩ := hWv
  obtain ⟨s0, s1, s2, s3⟩ := hWs
  obtain ⟨f0, f1, f2, f3⟩ := hWf
  refine zz_iconst (v := nI 0) hX dX5_cutIndex_0 rfl ?_
  refine zz_istore_n (ls' := [(0, .ref 2), (1, .int s), (2, .int (nI 0))]) hX dX5_cutIndex_1 rfl (Nat.le_of_ble_eq_true rfl) rfl ?_
  have L2 : ∀ (k2 : Nat) (k : Nat), zv_nf S - k < k2 → (k ≤ zv_nf S) → (zp_cut S s = zs_fst (fun k => S 29 k = s) nI (zv_nf S - k) k) → zz Γ (D, E, 3, ad, sh) (zz_End Γ (D, E, 3, ad, sh) (zz_q (some (.int (zp_cut S s))) sh mi mr) zz_none 0 0) 0 0 sh mi mr 2 [(0, .ref 2), (1, .int s), (2, .int (nI k))] [] := by
    intro k2
    induction k2 with
    | zero => intro k hk2; exact absurd hk2 (Nat.not_lt_zero _)
    | succ k2 ih2 =>
      intro k hk2 hk9 hall
      refine zz_iload_n hX dX5_cutIndex_2 2 rfl rfl ?_
      refine zz_aload_n hX dX5_cutIndex_3 0 rfl rfl ?_
      refine zz_getI (x := nI (zv_nf S)) hX zf_F_X5_50.r m1 rfl ((m16.trans f0)) dX5_cutIndex_4 ?_
      refine zz_icmp_geN hX (by omega) (by omega) 28 dX5_cutIndex_7 (by decide) (fun c7 => ?_) (fun c7 => ?_)
      · skip
        refine zz_iconst (v := (-1)) hX dX5_cutIndex_28 rfl ?_
        refine zz_iret hX hr rfl (Nat.le_of_ble_eq_true rfl) (Nat.le_of_ble_eq_true rfl) dX5_cutIndex_29 ?_
        exact ⟨by rw [hall, zs_fst_end (by omega)], rfl, rfl, rfl⟩
      · skip
        refine zz_aload_n hX dX5_cutIndex_10 0 rfl rfl ?_
        refine zz_getR (y := 7) hX zf_F_X5_46.r m1 rfl m7 dX5_cutIndex_11 ?_
        refine zz_iload_n hX dX5_cutIndex_14 2 rfl rfl ?_
        refine zz_iald (x := S 29 k) hX m12 k rfl (by omega) (by decide) ((m20 k (by omega))) dX5_cutIndex_15 ?_
        refine zz_iload_n hX dX5_cutIndex_16 1 rfl rfl ?_
        refine zz_icmp_ne hX 22 dX5_cutIndex_17 (by decide) (fun c17 => ?_) (fun c17 => ?_)
        · skip
          refine zz_iinc (v := nI (k + 1)) (ls' := [(0, .ref 2), (1, .int s), (2, .int (nI (k + 1)))]) hX dX5_cutIndex_22 2 rfl (nI_1 _) (Nat.le_of_ble_eq_true rfl) rfl ?_
          refine zz_goto hX 2 dX5_cutIndex_25 (by decide) ?_
          exact ih2 (k + 1) (by omega) (by omega) (hall.trans (zs_fst_step c7 c17))
        · skip
          refine zz_iload_n hX dX5_cutIndex_20 2 rfl rfl ?_
          refine zz_iret hX hr rfl (Nat.le_of_ble_eq_true rfl) (Nat.le_of_ble_eq_true rfl) dX5_cutIndex_21 ?_
          exact ⟨by rw [hall, zs_fst_hit (g := fun k => S 29 k = s) c7 c17], rfl, rfl, rfl⟩
  exact L2 ((zv_nf S - 0 + 1)) 0 (by omega) (Nat.zero_le _) rfl

set_option maxRecDepth 20000 in
theorem K_filmLength (S : zS) (sh : zm_Sh) (mi : zm_Mi) (mr : zm_Mr) (hW : zW S) (hR : zR S sh mi mr) : zz_Con yX5_filmLength (.code yX5_filmLength cX5_filmLength 3 (some Jvm.ClassFile.FieldType.int)) 0 0 0 [.ref 2] sh mi mr (zz_q (some (.int (zp_film S))) sh mi mr) zz_none := by
  refine zz_begin RX5 [(0, .ref 2)] (by decide) rfl rfl (Nat.le_of_ble_eq_true rfl) rfl ?_
  intro Γ D E ad hX hr hN hT
  obtain ⟨hRm, hRp, hRv, hRs, hRf⟩ := id hR
  obtain ⟨m1, m2, m3, m4, m5, m6, m7, m8, m9, m10, m11, m12, m13, m14, m15, m16, m17, m18, m19, m20⟩ := hRm
  obtain ⟨hWp, hWv, hWs, hWk, hWr, hWf⟩ := id hW
  obtain ⟨p0, p1, p2, p3, p4, p5⟩ := hWp
  obtain ⟨v0, v1, v2, v3, v4⟩ := hWv
  obtain ⟨s0, s1, s2, s3⟩ := hWs
  obtain ⟨f0, f1, f2, f3⟩ := hWf
  refine zz_iconst (v := nI 0) hX dX5_filmLength_0 rfl ?_
  refine zz_istore_n (ls' := [(0, .ref 2), (1, .int (nI 0))]) hX dX5_filmLength_1 rfl (Nat.le_of_ble_eq_true rfl) rfl ?_
  refine zz_iconst (v := nI 0) hX dX5_filmLength_2 rfl ?_
  refine zz_istore_n (ls' := [(0, .ref 2), (1, .int (nI 0)), (2, .int (nI 0))]) hX dX5_filmLength_3 rfl (Nat.le_of_ble_eq_true rfl) rfl ?_
  refine zz_lcl (ls' := [(0, .ref 2), (1, .int (zs_sum (fun q => S 11 (zv_fl S q)) 0)), (2, .int (nI 0))]) rfl ?_
  have L4 : ∀ (k4 : Nat) (k : Nat), zv_nf S - k < k4 → (k ≤ zv_nf S) → zz Γ (D, E, 3, ad, sh) (zz_End Γ (D, E, 3, ad, sh) (zz_q (some (.int (zp_film S))) sh mi mr) zz_none 0 0) 0 0 sh mi mr 4 [(0, .ref 2), (1, .int (zs_sum (fun q => S 11 (zv_fl S q)) k)), (2, .int (nI k))] [] := by
    intro k4
    induction k4 with
    | zero => intro k hk4; exact absurd hk4 (Nat.not_lt_zero _)
    | succ k4 ih4 =>
      intro k hk4 hk9
      refine zz_iload_n hX dX5_filmLength_4 2 rfl rfl ?_
      refine zz_aload_n hX dX5_filmLength_5 0 rfl rfl ?_
      refine zz_getI (x := nI (zv_nf S)) hX zf_F_X5_50.r m1 rfl ((m16.trans f0)) dX5_filmLength_6 ?_
      refine zz_icmp_geN hX (by omega) (by omega) 35 dX5_filmLength_9 (by decide) (fun c9 => ?_) (fun c9 => ?_)
      · skip
        refine zz_iload_n hX dX5_filmLength_35 1 rfl rfl ?_
        refine zz_iret hX hr rfl (Nat.le_of_ble_eq_true rfl) (Nat.le_of_ble_eq_true rfl) dX5_filmLength_36 ?_
        exact ⟨by rw [show k = zv_nf S by omega]; rfl, rfl, rfl, rfl⟩
      · skip
        refine zz_iload_n hX dX5_filmLength_12 1 rfl rfl ?_
        refine zz_aload_n hX dX5_filmLength_13 0 rfl rfl ?_
        refine zz_getR (y := 5) hX zf_F_X5_35.r m1 rfl m5 dX5_filmLength_14 ?_
        refine zz_aload_n hX dX5_filmLength_17 0 rfl rfl ?_
        refine zz_getR (y := 7) hX zf_F_X5_46.r m1 rfl m7 dX5_filmLength_18 ?_
        refine zz_iload_n hX dX5_filmLength_21 2 rfl rfl ?_
        refine zz_iald (x := S 29 k) hX m12 k rfl (by omega) (by decide) ((m20 k (by omega))) dX5_filmLength_22 ?_
        refine zz_aald (y := (1000 + 100 * zv_fl S k)) hX m10 (by decide) (by decide) (zv_fl S k) (f2 k c9).1 (by have := (f2 k c9).2; omega) (by decide) (hRs _ (f2 k c9).2).1 dX5_filmLength_23 ?_
        refine zz_getI (x := S 11 (zv_fl S k)) hX zf_F_X5_235 (hRs _ (f2 k c9).2).2.1.1 rfl ((hRs _ (f2 k c9).2).2.2.1) dX5_filmLength_24 ?_
        refine zz_iadd (z := (zs_sum (fun q => S 11 (zv_fl S q)) k) + (S 11 (zv_fl S k))) hX dX5_filmLength_27 rfl ?_
        refine zz_istore_n (ls' := [(0, .ref 2), (1, .int ((zs_sum (fun q => S 11 (zv_fl S q)) k) + (S 11 (zv_fl S k)))), (2, .int (nI k))]) hX dX5_filmLength_28 rfl (Nat.le_of_ble_eq_true rfl) rfl ?_
        refine zz_iinc (v := nI (k + 1)) (ls' := [(0, .ref 2), (1, .int ((zs_sum (fun q => S 11 (zv_fl S q)) k) + (S 11 (zv_fl S k)))), (2, .int (nI (k + 1)))]) hX dX5_filmLength_29 2 rfl (nI_1 _) (Nat.le_of_ble_eq_true rfl) rfl ?_
        refine zz_goto hX 4 dX5_filmLength_32 (by decide) ?_
        exact ih4 (k + 1) (by omega) (by omega)
  exact L4 ((zv_nf S - 0 + 1)) 0 (by omega) (Nat.zero_le _)

