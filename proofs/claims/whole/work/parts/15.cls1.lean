/-! ===== the class's private methods, said of the state ===== -/
theorem zs_ix_t {x : Int32} {n : Nat} (h1 : ¬ x < 0) (h2 : x < nI n) (hn : n < 2 ^ 31) : zs_ix x n := by
  rw [zs_lt, Int32.toInt_zero] at h1
  rw [zs_lt, nI_toInt hn] at h2
  exact ⟨by omega, h2⟩
theorem zs_ix_f1 {x : Int32} {n : Nat} (h1 : x < 0) : ¬ zs_ix x n := by
  rw [zs_lt, Int32.toInt_zero] at h1
  exact fun h => by have := h.1; omega
theorem zs_ix_f2 {x : Int32} {n : Nat} (h2 : ¬ x < nI n) (hn : n < 2 ^ 31) : ¬ zs_ix x n := by
  rw [zs_lt, nI_toInt hn] at h2
  exact fun h => h2 h.2
theorem zs_ix_m1 {n : Nat} : ¬ zs_ix (-1) n := fun h => absurd h.1 (by decide)
abbrev zx_I : String := "java/lang/IndexOutOfBoundsException"
abbrev zx_A : String := "java/lang/IllegalArgumentException"
abbrev zx_S : String := "java/lang/IllegalStateException"
def zz_at (n base step : Nat) (x : Int32) (sh : zm_Sh) (mi : zm_Mi) (mr : zm_Mr) : Option Value → zm_Sh → zm_Mi → zm_Mr → Prop := fun v s i m => ∃ q, q < n ∧ x = nI q ∧ v = some (.ref (base + step * q)) ∧ s = sh ∧ i = mi ∧ m = mr
/-! what stands in the way -/
abbrev zp_busy (S : zS) (i : Nat) : Prop := zs_any (fun k => ¬ k = i ∧ zp_on S k ∧ S 14 k = S 14 i) (zv_ns S) = true
abbrev zp_puse (S : zS) (i : Nat) : Prop := zs_any (fun k => ¬ k = i ∧ zp_on S k ∧ zv_pu S k = zv_pu S i) (zv_ns S) = true
abbrev zp_brk (S : zS) (p : Nat) : Prop := zs_any (fun j => nI 1000 ≤ S 3 (6 * p + j)) (zv_jn S p) = true
def zp_pbar (S : zS) (i : Nat) : Nat := if zp_brk S (zv_pu S i) then 5 else if zp_want S i (zv_sk S i) = -1 then 0 else if S 4 (10 * zv_pu S i + zn (zp_want S i (zv_sk S i))) = 0 then 6 else 0
def zp_bar (S : zS) (i : Nat) : Nat := if zv_fr S i ≤ zv_sk S i then 7 else if S 14 i = -1 then 1 else if ¬ S 17 (zn (S 14 i)) = 0 then 2 else if zp_busy S i then 3 else if zp_puse S i then 4 else if zp_held S i (zv_sk S i) then 0 else zp_pbar S i
def zp_cut (S : zS) (s : Int32) : Int32 := zs_fst (fun k => S 29 k = s) nI (zv_nf S) 0
def zp_film (S : zS) : Int32 := zs_sum (fun k => S 11 (zv_fl S k)) (zv_nf S)
set_option maxRecDepth 20000 in
theorem k_needSound (x : Int32) (sh : zm_Sh) (mi : zm_Mi) (mr : zm_Mr) : zz_Con yX5_needSound (.code yX5_needSound cX5_needSound 1 none) 9 1 6 [.int x] sh mi mr (zz_ck (nI 0 ≤ x ∧ x ≤ nI 9) none sh mi mr) (zz_ex (¬ (nI 0 ≤ x ∧ x ≤ nI 9)) "java/lang/IllegalArgumentException" sh mi mr) := by
  refine zz_begin RX5 [(0, .int x)] (by decide) rfl rfl (Nat.le_of_ble_eq_true rfl) rfl ?_
  intro Γ D E ad hX hr hN hT
  refine zz_iload_n hX dX5_needSound_0 0 rfl rfl ?_
  refine zz_iconst (v := nI 0) hX dX5_needSound_1 rfl ?_
  refine zz_bipush (v := nI 9) hX dX5_needSound_2 rfl ?_
  refine zz_sC hX zf_M_X5_59 (As := [.int x, .int (nI 0), .int (nI 9)]) (st := []) (k_needRange x (nI 0) (nI 9) sh mi mr) rfl rfl (by decide) (Nat.le_of_ble_eq_true rfl) (Nat.le_of_ble_eq_true rfl) (Nat.le_of_ble_eq_true rfl) dX5_needSound_4 (fun p4 => ?_) (fun x4 => zz_out hX hT (Nat.le_of_ble_eq_true rfl) (Nat.le_of_ble_eq_true rfl) (by exact ⟨x4, rfl, rfl, rfl, rfl⟩))
  refine zz_vret hX hr (Nat.le_of_ble_eq_true rfl) (Nat.le_of_ble_eq_true rfl) dX5_needSound_7 ?_
  exact ⟨p4, rfl, rfl, rfl, rfl⟩

set_option maxRecDepth 20000 in
theorem k_needAnimator (x : Int32) (sh : zm_Sh) (mi : zm_Mi) (mr : zm_Mr) : zz_Con yX5_needAnimator (.code yX5_needAnimator cX5_needAnimator 1 none) 6 1 6 [.int x] sh mi mr (zz_ck (zs_ix x 5) none sh mi mr) (zz_ex (¬ (zs_ix x 5)) "java/lang/IndexOutOfBoundsException" sh mi mr) := by
  refine zz_begin RX5 [(0, .int x)] (by decide) rfl rfl (Nat.le_of_ble_eq_true rfl) rfl ?_
  intro Γ D E ad hX hr hN hT
  refine zz_iload_n hX dX5_needAnimator_0 0 rfl rfl ?_
  refine zz_if_lt hX 9 dX5_needAnimator_1 (by decide) (fun c1 => ?_) (fun c1 => ?_)
  · skip
    refine zz_throwW hX hT zf_T_X5_281 dX5_needAnimator_9 dX5_needAnimator_12 dX5_needAnimator_13 dX5_needAnimator_16 dX5_needAnimator_19 (by decide) (Nat.le_of_ble_eq_true rfl) (Nat.le_of_ble_eq_true rfl) (Nat.le_of_ble_eq_true rfl) ?_
    exact ⟨by first | exact zs_ix_f1 c1 | exact zs_ix_f2 c6 (by omega), rfl, rfl, rfl, rfl⟩
  · skip
    refine zz_iload_n hX dX5_needAnimator_4 0 rfl rfl ?_
    refine zz_iconst (v := nI 5) hX dX5_needAnimator_5 rfl ?_
    refine zz_icmp_lt hX 20 dX5_needAnimator_6 (by decide) (fun c6 => ?_) (fun c6 => ?_)
    · skip
      refine zz_vret hX hr (Nat.le_of_ble_eq_true rfl) (Nat.le_of_ble_eq_true rfl) dX5_needAnimator_20 ?_
      exact ⟨zs_ix_t c1 c6 (by omega), rfl, rfl, rfl, rfl⟩
    · skip
      refine zz_throwW hX hT zf_T_X5_281 dX5_needAnimator_9 dX5_needAnimator_12 dX5_needAnimator_13 dX5_needAnimator_16 dX5_needAnimator_19 (by decide) (Nat.le_of_ble_eq_true rfl) (Nat.le_of_ble_eq_true rfl) (Nat.le_of_ble_eq_true rfl) ?_
      exact ⟨by first | exact zs_ix_f1 c1 | exact zs_ix_f2 c6 (by omega), rfl, rfl, rfl, rfl⟩

set_option maxRecDepth 20000 in
theorem K_needVoice (S : zS) (sh : zm_Sh) (mi : zm_Mi) (mr : zm_Mr) (hW : zW S) (hR : zR S sh mi mr) (x : Int32) : zz_Con yX5_needVoiceOrNone (.code yX5_needVoiceOrNone cX5_needVoiceOrNone 2 none) 6 1 6 [.ref 2, .int x] sh mi mr (zz_ck (x = -1 ∨ zs_ix x (zv_nv S)) none sh mi mr) (zz_ex (¬ (x = -1 ∨ zs_ix x (zv_nv S))) "java/lang/IndexOutOfBoundsException" sh mi mr) := by
  refine zz_begin RX5 [(0, .ref 2), (1, .int x)] (by decide) rfl rfl (Nat.le_of_ble_eq_true rfl) rfl ?_
  intro Γ D E ad hX hr hN hT
  obtain ⟨hRm, hRp, hRv, hRs, hRf⟩ := id hR
  obtain ⟨m1, m2, m3, m4, m5, m6, m7, m8, m9, m10, m11, m12, m13, m14, m15, m16, m17, m18, m19, m20⟩ := hRm
  obtain ⟨hWp, hWv, hWs, hWk, hWr, hWf⟩ := id hW
  obtain ⟨p0, p1, p2, p3, p4, p5⟩ := hWp
  obtain ⟨v0, v1, v2, v3, v4⟩ := hWv
  obtain ⟨s0, s1, s2, s3⟩ := hWs
  obtain ⟨f0, f1, f2, f3⟩ := hWf
  refine zz_iload_n hX dX5_needVoiceOrNone_0 1 rfl rfl ?_
  refine zz_iconst (v := (-1)) hX dX5_needVoiceOrNone_1 rfl ?_
  refine zz_icmp_eq hX 28 dX5_needVoiceOrNone_2 (by decide) (fun c2 => ?_) (fun c2 => ?_)
  · skip
    refine zz_vret hX hr (Nat.le_of_ble_eq_true rfl) (Nat.le_of_ble_eq_true rfl) dX5_needVoiceOrNone_28 ?_
    exact ⟨Or.inl c2, rfl, rfl, rfl, rfl⟩
  · skip
    refine zz_iload_n hX dX5_needVoiceOrNone_5 1 rfl rfl ?_
    refine zz_if_lt hX 17 dX5_needVoiceOrNone_6 (by decide) (fun c6 => ?_) (fun c6 => ?_)
    · skip
      refine zz_throwW hX hT zf_T_X5_283 dX5_needVoiceOrNone_17 dX5_needVoiceOrNone_20 dX5_needVoiceOrNone_21 dX5_needVoiceOrNone_24 dX5_needVoiceOrNone_27 (by decide) (Nat.le_of_ble_eq_true rfl) (Nat.le_of_ble_eq_true rfl) (Nat.le_of_ble_eq_true rfl) ?_
      exact ⟨fun h => h.elim c2 (by first | exact zs_ix_f1 c6 | exact zs_ix_f2 c14 (by omega)), rfl, rfl, rfl, rfl⟩
    · skip
      refine zz_iload_n hX dX5_needVoiceOrNone_9 1 rfl rfl ?_
      refine zz_aload_n hX dX5_needVoiceOrNone_10 0 rfl rfl ?_
      refine zz_getI (x := nI (zv_nv S)) hX zf_F_X5_25.r m1 rfl ((m14.trans v0)) dX5_needVoiceOrNone_11 ?_
      refine zz_icmp_lt hX 28 dX5_needVoiceOrNone_14 (by decide) (fun c14 => ?_) (fun c14 => ?_)
      · skip
        refine zz_vret hX hr (Nat.le_of_ble_eq_true rfl) (Nat.le_of_ble_eq_true rfl) dX5_needVoiceOrNone_28 ?_
        exact ⟨Or.inr (zs_ix_t c6 c14 (by omega)), rfl, rfl, rfl, rfl⟩
      · skip
        refine zz_throwW hX hT zf_T_X5_283 dX5_needVoiceOrNone_17 dX5_needVoiceOrNone_20 dX5_needVoiceOrNone_21 dX5_needVoiceOrNone_24 dX5_needVoiceOrNone_27 (by decide) (Nat.le_of_ble_eq_true rfl) (Nat.le_of_ble_eq_true rfl) (Nat.le_of_ble_eq_true rfl) ?_
        exact ⟨fun h => h.elim c2 (by first | exact zs_ix_f1 c6 | exact zs_ix_f2 c14 (by omega)), rfl, rfl, rfl, rfl⟩

set_option maxRecDepth 20000 in
theorem K_needShot (S : zS) (sh : zm_Sh) (mi : zm_Mi) (mr : zm_Mr) (hW : zW S) (hR : zR S sh mi mr) (x : Int32) : zz_Con yX5_needShot (.code yX5_needShot cX5_needShot 2 none) 6 1 6 [.ref 2, .int x] sh mi mr (zz_ck (zs_ix x (zv_ns S)) none sh mi mr) (zz_ex (¬ (zs_ix x (zv_ns S))) "java/lang/IndexOutOfBoundsException" sh mi mr) := by
  refine zz_begin RX5 [(0, .ref 2), (1, .int x)] (by decide) rfl rfl (Nat.le_of_ble_eq_true rfl) rfl ?_
  intro Γ D E ad hX hr hN hT
  obtain ⟨hRm, hRp, hRv, hRs, hRf⟩ := id hR
  obtain ⟨m1, m2, m3, m4, m5, m6, m7, m8, m9, m10, m11, m12, m13, m14, m15, m16, m17, m18, m19, m20⟩ := hRm
  obtain ⟨hWp, hWv, hWs, hWk, hWr, hWf⟩ := id hW
  obtain ⟨p0, p1, p2, p3, p4, p5⟩ := hWp
  obtain ⟨v0, v1, v2, v3, v4⟩ := hWv
  obtain ⟨s0, s1, s2, s3⟩ := hWs
  obtain ⟨f0, f1, f2, f3⟩ := hWf
  refine zz_iload_n hX dX5_needShot_0 1 rfl rfl ?_
  refine zz_if_lt hX 12 dX5_needShot_1 (by decide) (fun c1 => ?_) (fun c1 => ?_)
  · skip
    refine zz_throwW hX hT zf_T_X5_285 dX5_needShot_12 dX5_needShot_15 dX5_needShot_16 dX5_needShot_19 dX5_needShot_22 (by decide) (Nat.le_of_ble_eq_true rfl) (Nat.le_of_ble_eq_true rfl) (Nat.le_of_ble_eq_true rfl) ?_
    exact ⟨by first | exact zs_ix_f1 c1 | exact zs_ix_f2 c9 (by omega), rfl, rfl, rfl, rfl⟩
  · skip
    refine zz_iload_n hX dX5_needShot_4 1 rfl rfl ?_
    refine zz_aload_n hX dX5_needShot_5 0 rfl rfl ?_
    refine zz_getI (x := nI (zv_ns S)) hX zf_F_X5_39.r m1 rfl ((m15.trans s0)) dX5_needShot_6 ?_
    refine zz_icmp_lt hX 23 dX5_needShot_9 (by decide) (fun c9 => ?_) (fun c9 => ?_)
    · skip
      refine zz_vret hX hr (Nat.le_of_ble_eq_true rfl) (Nat.le_of_ble_eq_true rfl) dX5_needShot_23 ?_
      exact ⟨zs_ix_t c1 c9 (by omega), rfl, rfl, rfl, rfl⟩
    · skip
      refine zz_throwW hX hT zf_T_X5_285 dX5_needShot_12 dX5_needShot_15 dX5_needShot_16 dX5_needShot_19 dX5_needShot_22 (by decide) (Nat.le_of_ble_eq_true rfl) (Nat.le_of_ble_eq_true rfl) (Nat.le_of_ble_eq_true rfl) ?_
      exact ⟨by first | exact zs_ix_f1 c1 | exact zs_ix_f2 c9 (by omega), rfl, rfl, rfl, rfl⟩

set_option maxRecDepth 20000 in
theorem K_needJoint (S : zS) (sh : zm_Sh) (mi : zm_Mi) (mr : zm_Mr) (hW : zW S) (hR : zR S sh mi mr) (p : Nat) (hp : p < zv_np S) (x : Int32) : zz_Con yX5_needJoint (.code yX5_needJoint cX5_needJoint 2 none) 6 1 6 [.ref (200 + 4 * p), .int x] sh mi mr (zz_ck (zs_ix x (zv_jn S p)) none sh mi mr) (zz_ex (¬ (zs_ix x (zv_jn S p))) "java/lang/IndexOutOfBoundsException" sh mi mr) := by
  refine zz_begin RX5 [(0, .ref (200 + 4 * p)), (1, .int x)] (by decide) rfl rfl (Nat.le_of_ble_eq_true rfl) rfl ?_
  intro Γ D E ad hX hr hN hT
  obtain ⟨hRm, hRp, hRv, hRs, hRf⟩ := id hR
  obtain ⟨m1, m2, m3, m4, m5, m6, m7, m8, m9, m10, m11, m12, m13, m14, m15, m16, m17, m18, m19, m20⟩ := hRm
  obtain ⟨hWp, hWv, hWs, hWk, hWr, hWf⟩ := id hW
  obtain ⟨p0, p1, p2, p3, p4, p5⟩ := hWp
  obtain ⟨v0, v1, v2, v3, v4⟩ := hWv
  obtain ⟨s0, s1, s2, s3⟩ := hWs
  obtain ⟨f0, f1, f2, f3⟩ := hWf
  obtain ⟨e1, e2, e3, e4, e5, e6⟩ := hRp p hp
  obtain ⟨g1, g2, g3, g4, g5, g6, g7⟩ := e2
  obtain ⟨h1, h2, h3⟩ := p2 p hp
  refine zz_iload_n hX dX5_needJoint_0 1 rfl rfl ?_
  refine zz_if_lt hX 12 dX5_needJoint_1 (by decide) (fun c1 => ?_) (fun c1 => ?_)
  · skip
    refine zz_throwW hX hT zf_T_X5_290 dX5_needJoint_12 dX5_needJoint_15 dX5_needJoint_16 dX5_needJoint_19 dX5_needJoint_22 (by decide) (Nat.le_of_ble_eq_true rfl) (Nat.le_of_ble_eq_true rfl) (Nat.le_of_ble_eq_true rfl) ?_
    exact ⟨by first | exact zs_ix_f1 c1 | exact zs_ix_f2 c9 (by omega), rfl, rfl, rfl, rfl⟩
  · skip
    refine zz_iload_n hX dX5_needJoint_4 1 rfl rfl ?_
    refine zz_aload_n hX dX5_needJoint_5 0 rfl rfl ?_
    refine zz_getI (x := nI (zv_jn S p)) hX zf_F_X5_287 g1 rfl ((e3.trans h1)) dX5_needJoint_6 ?_
    refine zz_icmp_lt hX 23 dX5_needJoint_9 (by decide) (fun c9 => ?_) (fun c9 => ?_)
    · skip
      refine zz_vret hX hr (Nat.le_of_ble_eq_true rfl) (Nat.le_of_ble_eq_true rfl) dX5_needJoint_23 ?_
      exact ⟨zs_ix_t c1 c9 (by omega), rfl, rfl, rfl, rfl⟩
    · skip
      refine zz_throwW hX hT zf_T_X5_290 dX5_needJoint_12 dX5_needJoint_15 dX5_needJoint_16 dX5_needJoint_19 dX5_needJoint_22 (by decide) (Nat.le_of_ble_eq_true rfl) (Nat.le_of_ble_eq_true rfl) (Nat.le_of_ble_eq_true rfl) ?_
      exact ⟨by first | exact zs_ix_f1 c1 | exact zs_ix_f2 c9 (by omega), rfl, rfl, rfl, rfl⟩

set_option maxRecDepth 20000 in
theorem K_needFrame (S : zS) (sh : zm_Sh) (mi : zm_Mi) (mr : zm_Mr) (hW : zW S) (hR : zR S sh mi mr) (i : Nat) (hi : i < zv_ns S) (x : Int32) : zz_Con yX5_needFrame (.code yX5_needFrame cX5_needFrame 2 none) 6 1 6 [.ref (1000 + 100 * i), .int x] sh mi mr (zz_ck (zs_ix x (zv_fr S i)) none sh mi mr) (zz_ex (¬ (zs_ix x (zv_fr S i))) "java/lang/IndexOutOfBoundsException" sh mi mr) := by
  refine zz_begin RX5 [(0, .ref (1000 + 100 * i)), (1, .int x)] (by decide) rfl rfl (Nat.le_of_ble_eq_true rfl) rfl ?_
  intro Γ D E ad hX hr hN hT
  obtain ⟨hRm, hRp, hRv, hRs, hRf⟩ := id hR
  obtain ⟨m1, m2, m3, m4, m5, m6, m7, m8, m9, m10, m11, m12, m13, m14, m15, m16, m17, m18, m19, m20⟩ := hRm
  obtain ⟨hWp, hWv, hWs, hWk, hWr, hWf⟩ := id hW
  obtain ⟨p0, p1, p2, p3, p4, p5⟩ := hWp
  obtain ⟨v0, v1, v2, v3, v4⟩ := hWv
  obtain ⟨s0, s1, s2, s3⟩ := hWs
  obtain ⟨f0, f1, f2, f3⟩ := hWf
  obtain ⟨a1, a2, a3, a4, a5, a6, a7, a8⟩ := zR_sh hW hR hi
  obtain ⟨t1, t2, t3, t4, t5, t6, t7, t8, t9, t10⟩ := a3
  obtain ⟨r1, r2, r3, r4, r5, r6, r7, r8, r9, r10, r11, r12, r13, r14, r15⟩ := t10
  obtain ⟨u1, u2, u3, u4, u5, u6, u7, u8, u9, u10⟩ := hRs i hi
  obtain ⟨b1, b2, b3, b4, b5, b6, b7, b8, b9, b10, b11, b12, b13⟩ := s2 i hi
  refine zz_iload_n hX dX5_needFrame_0 1 rfl rfl ?_
  refine zz_if_lt hX 12 dX5_needFrame_1 (by decide) (fun c1 => ?_) (fun c1 => ?_)
  · skip
    refine zz_throwW hX hT zf_T_X5_292 dX5_needFrame_12 dX5_needFrame_15 dX5_needFrame_16 dX5_needFrame_19 dX5_needFrame_22 (by decide) (Nat.le_of_ble_eq_true rfl) (Nat.le_of_ble_eq_true rfl) (Nat.le_of_ble_eq_true rfl) ?_
    exact ⟨by first | exact zs_ix_f1 c1 | exact zs_ix_f2 c9 (by omega), rfl, rfl, rfl, rfl⟩
  · skip
    refine zz_iload_n hX dX5_needFrame_4 1 rfl rfl ?_
    refine zz_aload_n hX dX5_needFrame_5 0 rfl rfl ?_
    refine zz_getI (x := nI (zv_fr S i)) hX zf_F_X5_235 t1 rfl (a4) dX5_needFrame_6 ?_
    refine zz_icmp_lt hX 23 dX5_needFrame_9 (by decide) (fun c9 => ?_) (fun c9 => ?_)
    · skip
      refine zz_vret hX hr (Nat.le_of_ble_eq_true rfl) (Nat.le_of_ble_eq_true rfl) dX5_needFrame_23 ?_
      exact ⟨zs_ix_t c1 c9 (by omega), rfl, rfl, rfl, rfl⟩
    · skip
      refine zz_throwW hX hT zf_T_X5_292 dX5_needFrame_12 dX5_needFrame_15 dX5_needFrame_16 dX5_needFrame_19 dX5_needFrame_22 (by decide) (Nat.le_of_ble_eq_true rfl) (Nat.le_of_ble_eq_true rfl) (Nat.le_of_ble_eq_true rfl) ?_
      exact ⟨by first | exact zs_ix_f1 c1 | exact zs_ix_f2 c9 (by omega), rfl, rfl, rfl, rfl⟩

set_option maxRecDepth 20000 in
theorem K_needStruck (S : zS) (sh : zm_Sh) (mi : zm_Mi) (mr : zm_Mr) (hW : zW S) (hR : zR S sh mi mr) (i : Nat) (hi : i < zv_ns S) (x : Int32) : zz_Con yX5_needStruck (.code yX5_needStruck cX5_needStruck 2 none) 6 1 6 [.ref (1000 + 100 * i), .int x] sh mi mr (zz_ck (zs_ix x (zv_sk S i)) none sh mi mr) (zz_ex (¬ (zs_ix x (zv_sk S i))) "java/lang/IndexOutOfBoundsException" sh mi mr) := by
  refine zz_begin RX5 [(0, .ref (1000 + 100 * i)), (1, .int x)] (by decide) rfl rfl (Nat.le_of_ble_eq_true rfl) rfl ?_
  intro Γ D E ad hX hr hN hT
  obtain ⟨hRm, hRp, hRv, hRs, hRf⟩ := id hR
  obtain ⟨m1, m2, m3, m4, m5, m6, m7, m8, m9, m10, m11, m12, m13, m14, m15, m16, m17, m18, m19, m20⟩ := hRm
  obtain ⟨hWp, hWv, hWs, hWk, hWr, hWf⟩ := id hW
  obtain ⟨p0, p1, p2, p3, p4, p5⟩ := hWp
  obtain ⟨v0, v1, v2, v3, v4⟩ := hWv
  obtain ⟨s0, s1, s2, s3⟩ := hWs
  obtain ⟨f0, f1, f2, f3⟩ := hWf
  obtain ⟨a1, a2, a3, a4, a5, a6, a7, a8⟩ := zR_sh hW hR hi
  obtain ⟨t1, t2, t3, t4, t5, t6, t7, t8, t9, t10⟩ := a3
  obtain ⟨r1, r2, r3, r4, r5, r6, r7, r8, r9, r10, r11, r12, r13, r14, r15⟩ := t10
  obtain ⟨u1, u2, u3, u4, u5, u6, u7, u8, u9, u10⟩ := hRs i hi
  obtain ⟨b1, b2, b3, b4, b5, b6, b7, b8, b9, b10, b11, b12, b13⟩ := s2 i hi
  refine zz_iload_n hX dX5_needStruck_0 1 rfl rfl ?_
  refine zz_if_lt hX 12 dX5_needStruck_1 (by decide) (fun c1 => ?_) (fun c1 => ?_)
  · skip
    refine zz_throwW hX hT zf_T_X5_294 dX5_needStruck_12 dX5_needStruck_15 dX5_needStruck_16 dX5_needStruck_19 dX5_needStruck_22 (by decide) (Nat.le_of_ble_eq_true rfl) (Nat.le_of_ble_eq_true rfl) (Nat.le_of_ble_eq_true rfl) ?_
    exact ⟨by first | exact zs_ix_f1 c1 | exact zs_ix_f2 c9 (by omega), rfl, rfl, rfl, rfl⟩
  · skip
    refine zz_aload_n hX dX5_needStruck_4 0 rfl rfl ?_
    refine zz_iload_n hX dX5_needStruck_5 1 rfl rfl ?_
    refine zz_vI (x := zz_bi (x < nI (zv_sk S i))) hX zf_M_X5_208 (As := [.int x]) (st := []) (K_isStruck S sh mi mr hW hR i hi x) t1 rfl rfl rfl (by decide) (Nat.le_of_ble_eq_true rfl) (Nat.le_of_ble_eq_true rfl) (Nat.le_of_ble_eq_true rfl) dX5_needStruck_6 ?_
    refine zz_if_neB hX 23 dX5_needStruck_9 (by decide) (fun c9 => ?_) (fun c9 => ?_)
    · skip
      refine zz_vret hX hr (Nat.le_of_ble_eq_true rfl) (Nat.le_of_ble_eq_true rfl) dX5_needStruck_23 ?_
      exact ⟨zs_ix_t c1 c9 (by omega), rfl, rfl, rfl, rfl⟩
    · skip
      refine zz_throwW hX hT zf_T_X5_294 dX5_needStruck_12 dX5_needStruck_15 dX5_needStruck_16 dX5_needStruck_19 dX5_needStruck_22 (by decide) (Nat.le_of_ble_eq_true rfl) (Nat.le_of_ble_eq_true rfl) (Nat.le_of_ble_eq_true rfl) ?_
      exact ⟨by first | exact zs_ix_f1 c1 | exact zs_ix_f2 c9 (by omega), rfl, rfl, rfl, rfl⟩

set_option maxRecDepth 20000 in
theorem K_needNotStruck (S : zS) (sh : zm_Sh) (mi : zm_Mi) (mr : zm_Mr) (hW : zW S) (hR : zR S sh mi mr) (i : Nat) (hi : i < zv_ns S) (x : Int32) : zz_Con yX5_needNotStruck (.code yX5_needNotStruck cX5_needNotStruck 2 none) 6 1 6 [.ref (1000 + 100 * i), .int x] sh mi mr (zz_ck (¬ x < nI (zv_sk S i)) none sh mi mr) (zz_ex (¬ (¬ x < nI (zv_sk S i))) "java/lang/IllegalStateException" sh mi mr) := by
  refine zz_begin RX5 [(0, .ref (1000 + 100 * i)), (1, .int x)] (by decide) rfl rfl (Nat.le_of_ble_eq_true rfl) rfl ?_
  intro Γ D E ad hX hr hN hT
  obtain ⟨hRm, hRp, hRv, hRs, hRf⟩ := id hR
  obtain ⟨m1, m2, m3, m4, m5, m6, m7, m8, m9, m10, m11, m12, m13, m14, m15, m16, m17, m18, m19, m20⟩ := hRm
  obtain ⟨hWp, hWv, hWs, hWk, hWr, hWf⟩ := id hW
  obtain ⟨p0, p1, p2, p3, p4, p5⟩ := hWp
  obtain ⟨v0, v1, v2, v3, v4⟩ := hWv
  obtain ⟨s0, s1, s2, s3⟩ := hWs
  obtain ⟨f0, f1, f2, f3⟩ := hWf
  obtain ⟨a1, a2, a3, a4, a5, a6, a7, a8⟩ := zR_sh hW hR hi
  obtain ⟨t1, t2, t3, t4, t5, t6, t7, t8, t9, t10⟩ := a3
  obtain ⟨r1, r2, r3, r4, r5, r6, r7, r8, r9, r10, r11, r12, r13, r14, r15⟩ := t10
  obtain ⟨u1, u2, u3, u4, u5, u6, u7, u8, u9, u10⟩ := hRs i hi
  obtain ⟨b1, b2, b3, b4, b5, b6, b7, b8, b9, b10, b11, b12, b13⟩ := s2 i hi
  refine zz_aload_n hX dX5_needNotStruck_0 0 rfl rfl ?_
  refine zz_iload_n hX dX5_needNotStruck_1 1 rfl rfl ?_
  refine zz_vI (x := zz_bi (x < nI (zv_sk S i))) hX zf_M_X5_208 (As := [.int x]) (st := []) (K_isStruck S sh mi mr hW hR i hi x) t1 rfl rfl rfl (by decide) (Nat.le_of_ble_eq_true rfl) (Nat.le_of_ble_eq_true rfl) (Nat.le_of_ble_eq_true rfl) dX5_needNotStruck_2 ?_
  refine zz_if_eqB hX 19 dX5_needNotStruck_5 (by decide) (fun c5 => ?_) (fun c5 => ?_)
  · skip
    refine zz_vret hX hr (Nat.le_of_ble_eq_true rfl) (Nat.le_of_ble_eq_true rfl) dX5_needNotStruck_19 ?_
    exact ⟨c5, rfl, rfl, rfl, rfl⟩
  · skip
    refine zz_throwW hX hT zf_T_X5_296 dX5_needNotStruck_8 dX5_needNotStruck_11 dX5_needNotStruck_12 dX5_needNotStruck_15 dX5_needNotStruck_18 (by decide) (Nat.le_of_ble_eq_true rfl) (Nat.le_of_ble_eq_true rfl) (Nat.le_of_ble_eq_true rfl) ?_
    exact ⟨fun h => h c5, rfl, rfl, rfl, rfl⟩

set_option maxRecDepth 20000 in
theorem K_puppetAt (S : zS) (sh : zm_Sh) (mi : zm_Mi) (mr : zm_Mr) (hW : zW S) (hR : zR S sh mi mr) (x : Int32) : zz_Con yX5_puppetAt (.code yX5_puppetAt cX5_puppetAt 2 (some (Jvm.ClassFile.FieldType.object "FrameClay$Puppet"))) 6 1 6 [.ref 2, .int x] sh mi mr (zz_at (zv_np S) 200 4 x sh mi mr) (zz_ex (¬ zs_ix x (zv_np S)) "java/lang/IndexOutOfBoundsException" sh mi mr) := by
  refine zz_begin RX5 [(0, .ref 2), (1, .int x)] (by decide) rfl rfl (Nat.le_of_ble_eq_true rfl) rfl ?_
  intro Γ D E ad hX hr hN hT
  obtain ⟨hRm, hRp, hRv, hRs, hRf⟩ := id hR
  obtain ⟨m1, m2, m3, m4, m5, m6, m7, m8, m9, m10, m11, m12, m13, m14, m15, m16, m17, m18, m19, m20⟩ := hRm
  obtain ⟨hWp, hWv, hWs, hWk, hWr, hWf⟩ := id hW
  obtain ⟨p0, p1, p2, p3, p4, p5⟩ := hWp
  obtain ⟨v0, v1, v2, v3, v4⟩ := hWv
  obtain ⟨s0, s1, s2, s3⟩ := hWs
  obtain ⟨f0, f1, f2, f3⟩ := hWf
  refine zz_iload_n hX dX5_puppetAt_0 1 rfl rfl ?_
  refine zz_if_lt hX 12 dX5_puppetAt_1 (by decide) (fun c1 => ?_) (fun c1 => ?_)
  · skip
    refine zz_throwW hX hT zf_T_X5_298 dX5_puppetAt_12 dX5_puppetAt_15 dX5_puppetAt_16 dX5_puppetAt_19 dX5_puppetAt_22 (by decide) (Nat.le_of_ble_eq_true rfl) (Nat.le_of_ble_eq_true rfl) (Nat.le_of_ble_eq_true rfl) ?_
    exact ⟨by first | exact zs_ix_f1 c1 | exact zs_ix_f2 c9 (by omega), rfl, rfl, rfl, rfl⟩
  · skip
    refine zz_iload_n hX dX5_puppetAt_4 1 rfl rfl ?_
    refine zz_aload_n hX dX5_puppetAt_5 0 rfl rfl ?_
    refine zz_getI (x := nI (zv_np S)) hX zf_F_X5_15.r m1 rfl ((m13.trans p0)) dX5_puppetAt_6 ?_
    refine zz_icmp_lt hX 23 dX5_puppetAt_9 (by decide) (fun c9 => ?_) (fun c9 => ?_)
    · skip
      obtain ⟨q, hq, rfl⟩ := zs_ix_of (n := zv_np S) (zs_ix_t c1 c9 (by omega)) (by omega)
      refine zz_aload_n hX dX5_puppetAt_23 0 rfl rfl ?_
      refine zz_getR (y := 3) hX zf_F_X5_11.r m1 rfl m2 dX5_puppetAt_24 ?_
      refine zz_iload_n hX dX5_puppetAt_27 1 rfl rfl ?_
      refine zz_aald (y := (200 + 4 * q)) hX m8 (by decide) (by decide) q rfl (by omega) (by decide) (hRp q hq).1 dX5_puppetAt_28 ?_
      refine zz_aret hX hr (by first | exact Or.inl ⟨_, rfl⟩ | exact Or.inr ⟨_, rfl⟩) (Nat.le_of_ble_eq_true rfl) (Nat.le_of_ble_eq_true rfl) dX5_puppetAt_29 ?_
      exact ⟨q, hq, rfl, rfl, rfl, rfl, rfl⟩
    · skip
      refine zz_throwW hX hT zf_T_X5_298 dX5_puppetAt_12 dX5_puppetAt_15 dX5_puppetAt_16 dX5_puppetAt_19 dX5_puppetAt_22 (by decide) (Nat.le_of_ble_eq_true rfl) (Nat.le_of_ble_eq_true rfl) (Nat.le_of_ble_eq_true rfl) ?_
      exact ⟨by first | exact zs_ix_f1 c1 | exact zs_ix_f2 c9 (by omega), rfl, rfl, rfl, rfl⟩

set_option maxRecDepth 20000 in
theorem K_shotAt (S : zS) (sh : zm_Sh) (mi : zm_Mi) (mr : zm_Mr) (hW : zW S) (hR : zR S sh mi mr) (x : Int32) : zz_Con yX5_shotAt (.code yX5_shotAt cX5_shotAt 2 (some (Jvm.ClassFile.FieldType.object "FrameClay$Shot"))) 7 1 6 [.ref 2, .int x] sh mi mr (zz_at (zv_ns S) 1000 100 x sh mi mr) (zz_ex (¬ zs_ix x (zv_ns S)) "java/lang/IndexOutOfBoundsException" sh mi mr) := by
  refine zz_begin RX5 [(0, .ref 2), (1, .int x)] (by decide) rfl rfl (Nat.le_of_ble_eq_true rfl) rfl ?_
  intro Γ D E ad hX hr hN hT
  obtain ⟨hRm, hRp, hRv, hRs, hRf⟩ := id hR
  obtain ⟨m1, m2, m3, m4, m5, m6, m7, m8, m9, m10, m11, m12, m13, m14, m15, m16, m17, m18, m19, m20⟩ := hRm
  obtain ⟨hWp, hWv, hWs, hWk, hWr, hWf⟩ := id hW
  obtain ⟨p0, p1, p2, p3, p4, p5⟩ := hWp
  obtain ⟨v0, v1, v2, v3, v4⟩ := hWv
  obtain ⟨s0, s1, s2, s3⟩ := hWs
  obtain ⟨f0, f1, f2, f3⟩ := hWf
  refine zz_aload_n hX dX5_shotAt_0 0 rfl rfl ?_
  refine zz_iload_n hX dX5_shotAt_1 1 rfl rfl ?_
  refine zz_vC hX zf_M_X5_226 (As := [.int x]) (st := []) (K_needShot S sh mi mr hW hR x) m1 rfl rfl rfl (by decide) (Nat.le_of_ble_eq_true rfl) (Nat.le_of_ble_eq_true rfl) (Nat.le_of_ble_eq_true rfl) dX5_shotAt_2 (fun p2 => ?_) (fun x2 => zz_out hX hT (Nat.le_of_ble_eq_true rfl) (Nat.le_of_ble_eq_true rfl) (by exact ⟨x2, rfl, rfl, rfl, rfl⟩))
  obtain ⟨q, hq, rfl⟩ := zs_ix_of p2 (by omega)
  refine zz_aload_n hX dX5_shotAt_5 0 rfl rfl ?_
  refine zz_getR (y := 5) hX zf_F_X5_35.r m1 rfl m5 dX5_shotAt_6 ?_
  refine zz_iload_n hX dX5_shotAt_9 1 rfl rfl ?_
  refine zz_aald (y := (1000 + 100 * q)) hX m10 (by decide) (by decide) q rfl (by omega) (by decide) (hRs q hq).1 dX5_shotAt_10 ?_
  refine zz_aret hX hr (by first | exact Or.inl ⟨_, rfl⟩ | exact Or.inr ⟨_, rfl⟩) (Nat.le_of_ble_eq_true rfl) (Nat.le_of_ble_eq_true rfl) dX5_shotAt_11 ?_
  exact ⟨q, hq, rfl, rfl, rfl, rfl, rfl⟩

set_option maxRecDepth 20000 in
theorem K_isIll (S : zS) (sh : zm_Sh) (mi : zm_Mi) (mr : zm_Mr) (hW : zW S) (hR : zR S sh mi mr) (x : Int32) (hx : x = -1 ∨ zs_ix x 5) : zz_Con yX5_isIll (.code yX5_isIll cX5_isIll 2 (some Jvm.ClassFile.FieldType.boolean)) 0 0 0 [.ref 2, .int x] sh mi mr (zz_q (some (.int (zz_bi (¬ x = -1 ∧ ¬ S 17 (zn x) = 0)))) sh mi mr) zz_none := by
  refine zz_begin RX5 [(0, .ref 2), (1, .int x)] (by decide) rfl rfl (Nat.le_of_ble_eq_true rfl) rfl ?_
  intro Γ D E ad hX hr hN hT
  obtain ⟨hRm, hRp, hRv, hRs, hRf⟩ := id hR
  obtain ⟨m1, m2, m3, m4, m5, m6, m7, m8, m9, m10, m11, m12, m13, m14, m15, m16, m17, m18, m19, m20⟩ := hRm
  obtain ⟨hWp, hWv, hWs, hWk, hWr, hWf⟩ := id hW
  obtain ⟨p0, p1, p2, p3, p4, p5⟩ := hWp
  obtain ⟨v0, v1, v2, v3, v4⟩ := hWv
  obtain ⟨s0, s1, s2, s3⟩ := hWs
  obtain ⟨f0, f1, f2, f3⟩ := hWf
  refine zz_iload_n hX dX5_isIll_0 1 rfl rfl ?_
  refine zz_iconst (v := (-1)) hX dX5_isIll_1 rfl ?_
  refine zz_icmp_eq hX 18 dX5_isIll_2 (by decide) (fun c2 => ?_) (fun c2 => ?_)
  · skip
    refine zz_iconst (v := nI 0) hX dX5_isIll_18 rfl ?_
    refine zz_iret hX hr rfl (Nat.le_of_ble_eq_true rfl) (Nat.le_of_ble_eq_true rfl) dX5_isIll_19 ?_
    exact ⟨by rw [zz_bi_f (fun h => h.1 c2)]; rfl, rfl, rfl, rfl⟩
  · skip
    obtain ⟨q, hq, rfl⟩ := zs_ix_of (hx.resolve_left c2) (by omega)
    refine zz_aload_n hX dX5_isIll_5 0 rfl rfl ?_
    refine zz_getR (y := 6) hX zf_F_X5_42.r m1 rfl m6 dX5_isIll_6 ?_
    refine zz_iload_n hX dX5_isIll_9 1 rfl rfl ?_
    refine zz_bald (x := S 17 q) hX m11 q rfl (by omega) (by decide) ((m19 q (by omega))) dX5_isIll_10 ?_
    refine zz_if_eq hX 18 dX5_isIll_11 (by decide) (fun c11 => ?_) (fun c11 => ?_)
    · skip
      refine zz_iconst (v := nI 0) hX dX5_isIll_18 rfl ?_
      refine zz_iret hX hr rfl (Nat.le_of_ble_eq_true rfl) (Nat.le_of_ble_eq_true rfl) dX5_isIll_19 ?_
      exact ⟨by rw [zz_bi_f (fun h => h.2 (by rw [show zn (nI q) = q from nI_clamp (n := q) (by omega)]; exact c11))]; rfl, rfl, rfl, rfl⟩
    · skip
      refine zz_iconst (v := nI 1) hX dX5_isIll_14 rfl ?_
      refine zz_goto hX 19 dX5_isIll_15 (by decide) ?_
      refine zz_iret hX hr rfl (Nat.le_of_ble_eq_true rfl) (Nat.le_of_ble_eq_true rfl) dX5_isIll_19 ?_
      exact ⟨by rw [zz_bi_t ⟨c2, by rw [show zn (nI q) = q from nI_clamp (n := q) (by omega)]; exact c11⟩]; rfl, rfl, rfl, rfl⟩

set_option maxRecDepth 20000 in
theorem K_lampLight (S : zS) (sh : zm_Sh) (mi : zm_Mi) (mr : zm_Mr) (hW : zW S) (hR : zR S sh mi mr) : zz_Con yX5_lampLight (.code yX5_lampLight cX5_lampLight 1 (some Jvm.ClassFile.FieldType.int)) 1 0 0 [.ref 2] sh mi mr (zz_q (some (.int (zp_light S))) sh mi mr) zz_none := by
  refine zz_begin RX5 [(0, .ref 2)] (by decide) rfl rfl (Nat.le_of_ble_eq_true rfl) rfl ?_
  intro Γ D E ad hX hr hN hT
  obtain ⟨hRm, hRp, hRv, hRs, hRf⟩ := id hR
  obtain ⟨m1, m2, m3, m4, m5, m6, m7, m8, m9, m10, m11, m12, m13, m14, m15, m16, m17, m18, m19, m20⟩ := hRm
  obtain ⟨hWp, hWv, hWs, hWk, hWr, hWf⟩ := id hW
  obtain ⟨p0, p1, p2, p3, p4, p5⟩ := hWp
  obtain ⟨v0, v1, v2, v3, v4⟩ := hWv
  obtain ⟨s0, s1, s2, s3⟩ := hWs
  obtain ⟨f0, f1, f2, f3⟩ := hWf
  refine zz_sipush (v := nI 500) hX dX5_lampLight_0 rfl ?_
  refine zz_sipush (v := nI 1000) hX dX5_lampLight_3 rfl ?_
  refine zz_aload_n hX dX5_lampLight_6 0 rfl rfl ?_
  refine zz_getI (x := S 21 0) hX zf_F_X5_56.r m1 rfl (m18) dX5_lampLight_7 ?_
  refine zz_iconst (v := nI 3) hX dX5_lampLight_10 rfl ?_
  refine zz_idiv (z := (S 21 0) / (nI 3)) hX dX5_lampLight_11 (by decide) rfl ?_
  refine zz_isub (z := (nI 1000) - ((S 21 0) / (nI 3))) hX dX5_lampLight_12 rfl ?_
  refine zz_max (z := zp_light S) hX zf_M_X5_341 zw_maxs zw_mi zw_maxc (by decide) (Nat.le_of_ble_eq_true rfl) (Nat.le_of_ble_eq_true rfl) (Nat.le_of_ble_eq_true rfl) rfl dX5_lampLight_13 ?_
  refine zz_iret hX hr rfl (Nat.le_of_ble_eq_true rfl) (Nat.le_of_ble_eq_true rfl) dX5_lampLight_16 ?_
  exact ⟨rfl, rfl, rfl, rfl⟩

