/-! ===== the reference's memory: row r of the state at the label 100 + r ===== -/
def zM_len : List Nat := [0, 5, 30, 30, 50, 0, 7, 84, 84, 0, 8, 8, 8, 8, 8, 8, 8, 5, 2304, 384, 0, 0, 2304, 384, 384, 384, 384, 384, 0, 8, 0]
def zM_l (r : Nat) : Nat := zM_len.getD r 0
def zM_kd (r : Nat) : Nat := if r = 17 then 2 else 1
def zM (S : zS) (sh : zm_Sh) (mi : zm_Mi) (mr : zm_Mr) : Prop := sh 1 = some (0, 6) ∧ (∀ r, 0 < zM_l r → mr 1 r = some (100 + r) ∧ sh (100 + r) = some (zM_kd r, zM_l r)) ∧ (∀ r k, 0 < zM_l r → k < zM_l r → mi (100 + r) k = S r k) ∧ ∀ r, r < 30 → zM_l r = 0 → mi 1 r = S r 0
def zr_mout (l : Nat) : Prop := l ≠ 1 ∧ ¬ (100 ≤ l ∧ l < 131)
section ZM
variable {S : zS} {sh : zm_Sh} {mi : zm_Mi} {mr : zm_Mr}
theorem zM_set (h : zM S sh mi mr) {r c : Nat} {x : Int32} (hr : 0 < zM_l r) : zM (zm_u2 S r c x) sh (zm_u2 mi (100 + r) c x) mr := by
  obtain ⟨h1, h2, h3, h4⟩ := h
  have h31 : r < 31 := Classical.byContradiction fun q => by
    have : zM_l r = 0 := by
      unfold zM_l
      rw [List.getD_eq_getElem?_getD, List.getElem?_eq_none (show zM_len.length ≤ r by show 31 ≤ r; omega)]
      rfl
    omega
  refine ⟨h1, h2, fun a k ha hk => ?_, fun a ha h0 => ?_⟩
  · have e := h3 a k ha hk
    unfold zm_u2
    by_cases q : a = r ∧ k = c
    · rw [if_pos q, if_pos ⟨by omega, q.2⟩]
    · rw [if_neg q, if_neg (fun z => q ⟨by omega, z.2⟩)]; exact e
  · have e := h4 a ha h0
    have hne : a ≠ r := fun q => by rw [q] at h0; omega
    rw [zm_u2l (by omega), zm_u2l hne]; exact e
theorem zM_sc (h : zM S sh mi mr) {r : Nat} {x : Int32} (hr : zM_l r = 0) : zM (zm_u2 S r 0 x) sh (zm_u2 mi 1 r x) mr := by
  obtain ⟨h1, h2, h3, h4⟩ := h
  refine ⟨h1, h2, fun a k ha hk => ?_, fun a ha h0 => ?_⟩
  · have e := h3 a k ha hk
    have hne : a ≠ r := fun q => by rw [q] at ha; omega
    rw [zm_u2l (by omega), zm_u2l hne]; exact e
  · have e := h4 a ha h0
    by_cases q : a = r
    · rw [q, zm_u2s, zm_u2s]
    · rw [zm_u2k q, zm_u2l q]; exact e
theorem zM_th (h : zM S sh mi mr) {x : Int32} : zM S sh (zm_u2 mi 1 30 x) mr := by
  obtain ⟨h1, h2, h3, h4⟩ := h
  refine ⟨h1, h2, fun a k ha hk => ?_, fun a ha h0 => ?_⟩
  · rw [zm_u2l (by omega)]; exact h3 a k ha hk
  · rw [zm_u2k (by omega)]; exact h4 a ha h0
theorem zr_mf {s : zm_Sh} {i : zm_Mi} {m : zm_Mr} {l k : Nat} {x : Int32} (h : zr_same zr_mout sh mi mr s i m) (hl : ¬ zr_mout l) : zr_same zr_mout sh mi mr s (zm_u2 i l k x) m := fun q hq => ⟨(h q hq).1, (zm_u2r (fun (e : q = l) => hl (e ▸ hq))).trans (h q hq).2.1, (h q hq).2.2⟩
theorem zM_r1 (h : zM S sh mi mr) : mr 1 1 = some 101 ∧ sh 101 = some (1, 5) := h.2.1 1 (by decide)
theorem zM_v1 (h : zM S sh mi mr) {k : Nat} (hk : k < 5) : mi 101 k = S 1 k := h.2.2.1 1 k (by decide) hk
theorem zM_r2 (h : zM S sh mi mr) : mr 1 2 = some 102 ∧ sh 102 = some (1, 30) := h.2.1 2 (by decide)
theorem zM_v2 (h : zM S sh mi mr) {k : Nat} (hk : k < 30) : mi 102 k = S 2 k := h.2.2.1 2 k (by decide) hk
theorem zM_r3 (h : zM S sh mi mr) : mr 1 3 = some 103 ∧ sh 103 = some (1, 30) := h.2.1 3 (by decide)
theorem zM_v3 (h : zM S sh mi mr) {k : Nat} (hk : k < 30) : mi 103 k = S 3 k := h.2.2.1 3 k (by decide) hk
theorem zM_r4 (h : zM S sh mi mr) : mr 1 4 = some 104 ∧ sh 104 = some (1, 50) := h.2.1 4 (by decide)
theorem zM_v4 (h : zM S sh mi mr) {k : Nat} (hk : k < 50) : mi 104 k = S 4 k := h.2.2.1 4 k (by decide) hk
theorem zM_r6 (h : zM S sh mi mr) : mr 1 6 = some 106 ∧ sh 106 = some (1, 7) := h.2.1 6 (by decide)
theorem zM_v6 (h : zM S sh mi mr) {k : Nat} (hk : k < 7) : mi 106 k = S 6 k := h.2.2.1 6 k (by decide) hk
theorem zM_r7 (h : zM S sh mi mr) : mr 1 7 = some 107 ∧ sh 107 = some (1, 84) := h.2.1 7 (by decide)
theorem zM_v7 (h : zM S sh mi mr) {k : Nat} (hk : k < 84) : mi 107 k = S 7 k := h.2.2.1 7 k (by decide) hk
theorem zM_r8 (h : zM S sh mi mr) : mr 1 8 = some 108 ∧ sh 108 = some (1, 84) := h.2.1 8 (by decide)
theorem zM_v8 (h : zM S sh mi mr) {k : Nat} (hk : k < 84) : mi 108 k = S 8 k := h.2.2.1 8 k (by decide) hk
theorem zM_r10 (h : zM S sh mi mr) : mr 1 10 = some 110 ∧ sh 110 = some (1, 8) := h.2.1 10 (by decide)
theorem zM_v10 (h : zM S sh mi mr) {k : Nat} (hk : k < 8) : mi 110 k = S 10 k := h.2.2.1 10 k (by decide) hk
theorem zM_r11 (h : zM S sh mi mr) : mr 1 11 = some 111 ∧ sh 111 = some (1, 8) := h.2.1 11 (by decide)
theorem zM_v11 (h : zM S sh mi mr) {k : Nat} (hk : k < 8) : mi 111 k = S 11 k := h.2.2.1 11 k (by decide) hk
theorem zM_r12 (h : zM S sh mi mr) : mr 1 12 = some 112 ∧ sh 112 = some (1, 8) := h.2.1 12 (by decide)
theorem zM_v12 (h : zM S sh mi mr) {k : Nat} (hk : k < 8) : mi 112 k = S 12 k := h.2.2.1 12 k (by decide) hk
theorem zM_r13 (h : zM S sh mi mr) : mr 1 13 = some 113 ∧ sh 113 = some (1, 8) := h.2.1 13 (by decide)
theorem zM_v13 (h : zM S sh mi mr) {k : Nat} (hk : k < 8) : mi 113 k = S 13 k := h.2.2.1 13 k (by decide) hk
theorem zM_r14 (h : zM S sh mi mr) : mr 1 14 = some 114 ∧ sh 114 = some (1, 8) := h.2.1 14 (by decide)
theorem zM_v14 (h : zM S sh mi mr) {k : Nat} (hk : k < 8) : mi 114 k = S 14 k := h.2.2.1 14 k (by decide) hk
theorem zM_r15 (h : zM S sh mi mr) : mr 1 15 = some 115 ∧ sh 115 = some (1, 8) := h.2.1 15 (by decide)
theorem zM_v15 (h : zM S sh mi mr) {k : Nat} (hk : k < 8) : mi 115 k = S 15 k := h.2.2.1 15 k (by decide) hk
theorem zM_r16 (h : zM S sh mi mr) : mr 1 16 = some 116 ∧ sh 116 = some (1, 8) := h.2.1 16 (by decide)
theorem zM_v16 (h : zM S sh mi mr) {k : Nat} (hk : k < 8) : mi 116 k = S 16 k := h.2.2.1 16 k (by decide) hk
theorem zM_r17 (h : zM S sh mi mr) : mr 1 17 = some 117 ∧ sh 117 = some (2, 5) := h.2.1 17 (by decide)
theorem zM_v17 (h : zM S sh mi mr) {k : Nat} (hk : k < 5) : mi 117 k = S 17 k := h.2.2.1 17 k (by decide) hk
theorem zM_r18 (h : zM S sh mi mr) : mr 1 18 = some 118 ∧ sh 118 = some (1, 2304) := h.2.1 18 (by decide)
theorem zM_v18 (h : zM S sh mi mr) {k : Nat} (hk : k < 2304) : mi 118 k = S 18 k := h.2.2.1 18 k (by decide) hk
theorem zM_r19 (h : zM S sh mi mr) : mr 1 19 = some 119 ∧ sh 119 = some (1, 384) := h.2.1 19 (by decide)
theorem zM_v19 (h : zM S sh mi mr) {k : Nat} (hk : k < 384) : mi 119 k = S 19 k := h.2.2.1 19 k (by decide) hk
theorem zM_r22 (h : zM S sh mi mr) : mr 1 22 = some 122 ∧ sh 122 = some (1, 2304) := h.2.1 22 (by decide)
theorem zM_v22 (h : zM S sh mi mr) {k : Nat} (hk : k < 2304) : mi 122 k = S 22 k := h.2.2.1 22 k (by decide) hk
theorem zM_r23 (h : zM S sh mi mr) : mr 1 23 = some 123 ∧ sh 123 = some (1, 384) := h.2.1 23 (by decide)
theorem zM_v23 (h : zM S sh mi mr) {k : Nat} (hk : k < 384) : mi 123 k = S 23 k := h.2.2.1 23 k (by decide) hk
theorem zM_r24 (h : zM S sh mi mr) : mr 1 24 = some 124 ∧ sh 124 = some (1, 384) := h.2.1 24 (by decide)
theorem zM_v24 (h : zM S sh mi mr) {k : Nat} (hk : k < 384) : mi 124 k = S 24 k := h.2.2.1 24 k (by decide) hk
theorem zM_r25 (h : zM S sh mi mr) : mr 1 25 = some 125 ∧ sh 125 = some (1, 384) := h.2.1 25 (by decide)
theorem zM_v25 (h : zM S sh mi mr) {k : Nat} (hk : k < 384) : mi 125 k = S 25 k := h.2.2.1 25 k (by decide) hk
theorem zM_r26 (h : zM S sh mi mr) : mr 1 26 = some 126 ∧ sh 126 = some (1, 384) := h.2.1 26 (by decide)
theorem zM_v26 (h : zM S sh mi mr) {k : Nat} (hk : k < 384) : mi 126 k = S 26 k := h.2.2.1 26 k (by decide) hk
theorem zM_r27 (h : zM S sh mi mr) : mr 1 27 = some 127 ∧ sh 127 = some (1, 384) := h.2.1 27 (by decide)
theorem zM_v27 (h : zM S sh mi mr) {k : Nat} (hk : k < 384) : mi 127 k = S 27 k := h.2.2.1 27 k (by decide) hk
theorem zM_r29 (h : zM S sh mi mr) : mr 1 29 = some 129 ∧ sh 129 = some (1, 8) := h.2.1 29 (by decide)
theorem zM_v29 (h : zM S sh mi mr) {k : Nat} (hk : k < 8) : mi 129 k = S 29 k := h.2.2.1 29 k (by decide) hk
theorem zM_c0 (h : zM S sh mi mr) : mi 1 0 = S 0 0 := h.2.2.2 0 (by decide) (by decide)
theorem zM_c5 (h : zM S sh mi mr) : mi 1 5 = S 5 0 := h.2.2.2 5 (by decide) (by decide)
theorem zM_c9 (h : zM S sh mi mr) : mi 1 9 = S 9 0 := h.2.2.2 9 (by decide) (by decide)
theorem zM_c20 (h : zM S sh mi mr) : mi 1 20 = S 20 0 := h.2.2.2 20 (by decide) (by decide)
theorem zM_c21 (h : zM S sh mi mr) : mi 1 21 = S 21 0 := h.2.2.2 21 (by decide) (by decide)
theorem zM_c28 (h : zM S sh mi mr) : mi 1 28 = S 28 0 := h.2.2.2 28 (by decide) (by decide)
end ZM
set_option maxRecDepth 20000 in
theorem m_isIn (v a b : Int32) (sh : zm_Sh) (mi : zm_Mi) (mr : zm_Mr) : zz_Con yX6_isIn (.code yX6_isIn cX6_isIn 3 (some Jvm.ClassFile.FieldType.boolean)) 0 0 0 [.int v, .int a, .int b] sh mi mr (zz_q (some (.int (zz_bi (a ≤ v ∧ v ≤ b)))) sh mi mr) zz_none := by
  refine zz_begin RX6 [(0, .int v), (1, .int a), (2, .int b)] (by decide) rfl rfl (Nat.le_of_ble_eq_true rfl) rfl ?_
  intro Γ D E ad hX hr hN hT
  refine zz_iload_n hX dX6_isIn_0 0 rfl rfl ?_
  refine zz_iload_n hX dX6_isIn_1 1 rfl rfl ?_
  refine zz_icmp_lt hX 14 dX6_isIn_2 (by decide) (fun c2 => ?_) (fun c2 => ?_)
  · skip
    refine zz_iconst (v := nI 0) hX dX6_isIn_14 rfl ?_
    refine zz_iret hX hr rfl (Nat.le_of_ble_eq_true rfl) (Nat.le_of_ble_eq_true rfl) dX6_isIn_15 ?_
    exact ⟨by rw [show zz_bi (a ≤ v ∧ v ≤ b) = 0 from zz_bi_f (fun h => by have h1 := h.1; rw [zs_le] at h1; rw [zs_lt] at c2; omega)]; rfl, rfl, rfl, rfl⟩
  · skip
    refine zz_iload_n hX dX6_isIn_5 0 rfl rfl ?_
    refine zz_iload_n hX dX6_isIn_6 2 rfl rfl ?_
    refine zz_icmp_gt hX 14 dX6_isIn_7 (by decide) (fun c7 => ?_) (fun c7 => ?_)
    · skip
      refine zz_iconst (v := nI 0) hX dX6_isIn_14 rfl ?_
      refine zz_iret hX hr rfl (Nat.le_of_ble_eq_true rfl) (Nat.le_of_ble_eq_true rfl) dX6_isIn_15 ?_
      exact ⟨by rw [show zz_bi (a ≤ v ∧ v ≤ b) = 0 from zz_bi_f (fun h => by have h1 := h.2; rw [zs_le] at h1; rw [zs_lt] at c7; omega)]; rfl, rfl, rfl, rfl⟩
    · skip
      refine zz_iconst (v := nI 1) hX dX6_isIn_10 rfl ?_
      refine zz_goto hX 15 dX6_isIn_11 (by decide) ?_
      refine zz_iret hX hr rfl (Nat.le_of_ble_eq_true rfl) (Nat.le_of_ble_eq_true rfl) dX6_isIn_15 ?_
      exact ⟨by rw [show zz_bi (a ≤ v ∧ v ≤ b) = 1 from zz_bi_t (⟨by rw [zs_le]; rw [zs_lt] at c2; omega, by rw [zs_le]; rw [zs_lt] at c7; omega⟩)]; rfl, rfl, rfl, rfl⟩

theorem zs_in0 {x : Int32} {n : Nat} (hn : n < 2 ^ 30) : (nI 0 ≤ x ∧ x ≤ nI n - nI 1) ↔ zs_ix x n := by
  unfold zs_ix
  rw [zs_le, zs_le, pk_sub_toInt (by omega) (by decide), nI_toInt (by decide)]
  omega
theorem zs_inM {x : Int32} {n : Nat} (hn : n < 2 ^ 30) : ((-1) ≤ x ∧ x ≤ nI n - nI 1) ↔ (x = -1 ∨ zs_ix x n) := by
  unfold zs_ix
  have e : (-1 : Int32).toInt = -1 := by decide
  rw [zs_le, zs_le, zs_eq, pk_sub_toInt (by omega) (by decide), e]
  omega
theorem zs_in5 {x : Int32} {n : Nat} (h0 : 0 < n) (hn : n < 2 ^ 31) : (nI 0 ≤ x ∧ x ≤ nI (n - 1)) ↔ zs_ix x n := by
  unfold zs_ix
  rw [zs_le, zs_le, nI_toInt (n := 0) (by decide), nI_toInt (n := n - 1) (by omega)]
  omega
theorem zk_nbi (p : Prop) [Decidable p] : narrow .boolean (.int (zz_bi p)) = .int (zz_bi p) := by
  unfold zz_bi
  split <;> rfl
theorem zs_any_s {p : Nat → Prop} [DecidablePred p] (n : Nat) : zs_any p (n + 1) = true ↔ (zs_any p n = true ∨ p n) := by
  rw [show zs_any p (n + 1) = (zs_any p n || decide (p n)) from rfl, Bool.or_eq_true, decide_eq_true_eq]
set_option maxRecDepth 20000 in
theorem M_isPuppet (S : zS) (sh : zm_Sh) (mi : zm_Mi) (mr : zm_Mr) (hW : zW S) (hM : zM S sh mi mr) (x : Int32) : zz_Con yX6_isPuppet (.code yX6_isPuppet cX6_isPuppet 2 (some Jvm.ClassFile.FieldType.boolean)) 1 0 0 [.ref 1, .int x] sh mi mr (zz_q (some (.int (zz_bi (zs_ix x (zv_np S))))) sh mi mr) zz_none := by
  refine zz_begin RX6 [(0, .ref 1), (1, .int x)] (by decide) rfl rfl (Nat.le_of_ble_eq_true rfl) rfl ?_
  intro Γ D E ad hX hr hN hT
  obtain ⟨hWp, hWv, hWs, hWk, hWr, hWf⟩ := id hW
  obtain ⟨p0, p1, p2, p3, p4, p5⟩ := hWp
  obtain ⟨v0, v1, v2, v3, v4⟩ := hWv
  obtain ⟨s0, s1, s2, s3⟩ := hWs
  obtain ⟨f0, f1, f2, f3⟩ := hWf
  refine zz_iload_n hX dX6_isPuppet_0 1 rfl rfl ?_
  refine zz_iconst (v := nI 0) hX dX6_isPuppet_1 rfl ?_
  refine zz_aload_n hX dX6_isPuppet_2 0 rfl rfl ?_
  refine zz_getI (x := nI (zv_np S)) hX zf_F_X6_88.r hM.1 rfl (((zM_c0 hM).trans p0)) dX6_isPuppet_3 ?_
  refine zz_iconst (v := nI 1) hX dX6_isPuppet_6 rfl ?_
  refine zz_isub (z := (nI (zv_np S)) - (nI 1)) hX dX6_isPuppet_7 rfl ?_
  refine zz_sI (x := zz_bi (nI 0 ≤ x ∧ x ≤ (nI (zv_np S)) - (nI 1))) hX zf_M_X6_91 (As := [.int x, .int (nI 0), .int ((nI (zv_np S)) - (nI 1))]) (st := []) (m_isIn x (nI 0) ((nI (zv_np S)) - (nI 1)) sh mi mr) rfl rfl (by decide) (Nat.le_of_ble_eq_true rfl) (Nat.le_of_ble_eq_true rfl) (Nat.le_of_ble_eq_true rfl) dX6_isPuppet_8 ?_
  refine zz_iret hX hr (zk_nbi _) (Nat.le_of_ble_eq_true rfl) (Nat.le_of_ble_eq_true rfl) dX6_isPuppet_11 ?_
  exact ⟨by rw [zz_bi_c (zs_in0 (n := zv_np S) (by omega))], rfl, rfl, rfl⟩

set_option maxRecDepth 20000 in
theorem M_isVoice (S : zS) (sh : zm_Sh) (mi : zm_Mi) (mr : zm_Mr) (hW : zW S) (hM : zM S sh mi mr) (x : Int32) : zz_Con yX6_isVoice (.code yX6_isVoice cX6_isVoice 2 (some Jvm.ClassFile.FieldType.boolean)) 1 0 0 [.ref 1, .int x] sh mi mr (zz_q (some (.int (zz_bi (x = -1 ∨ zs_ix x (zv_nv S))))) sh mi mr) zz_none := by
  refine zz_begin RX6 [(0, .ref 1), (1, .int x)] (by decide) rfl rfl (Nat.le_of_ble_eq_true rfl) rfl ?_
  intro Γ D E ad hX hr hN hT
  obtain ⟨hWp, hWv, hWs, hWk, hWr, hWf⟩ := id hW
  obtain ⟨p0, p1, p2, p3, p4, p5⟩ := hWp
  obtain ⟨v0, v1, v2, v3, v4⟩ := hWv
  obtain ⟨s0, s1, s2, s3⟩ := hWs
  obtain ⟨f0, f1, f2, f3⟩ := hWf
  refine zz_iload_n hX dX6_isVoice_0 1 rfl rfl ?_
  refine zz_iconst (v := (-1)) hX dX6_isVoice_1 rfl ?_
  refine zz_aload_n hX dX6_isVoice_2 0 rfl rfl ?_
  refine zz_getI (x := nI (zv_nv S)) hX zf_F_X6_99.r hM.1 rfl (((zM_c5 hM).trans v0)) dX6_isVoice_3 ?_
  refine zz_iconst (v := nI 1) hX dX6_isVoice_6 rfl ?_
  refine zz_isub (z := (nI (zv_nv S)) - (nI 1)) hX dX6_isVoice_7 rfl ?_
  refine zz_sI (x := zz_bi ((-1) ≤ x ∧ x ≤ (nI (zv_nv S)) - (nI 1))) hX zf_M_X6_91 (As := [.int x, .int (-1), .int ((nI (zv_nv S)) - (nI 1))]) (st := []) (m_isIn x (-1) ((nI (zv_nv S)) - (nI 1)) sh mi mr) rfl rfl (by decide) (Nat.le_of_ble_eq_true rfl) (Nat.le_of_ble_eq_true rfl) (Nat.le_of_ble_eq_true rfl) dX6_isVoice_8 ?_
  refine zz_iret hX hr (zk_nbi _) (Nat.le_of_ble_eq_true rfl) (Nat.le_of_ble_eq_true rfl) dX6_isVoice_11 ?_
  exact ⟨by rw [zz_bi_c (zs_inM (n := zv_nv S) (by omega))], rfl, rfl, rfl⟩

set_option maxRecDepth 20000 in
theorem M_isShot (S : zS) (sh : zm_Sh) (mi : zm_Mi) (mr : zm_Mr) (hW : zW S) (hM : zM S sh mi mr) (x : Int32) : zz_Con yX6_isShot (.code yX6_isShot cX6_isShot 2 (some Jvm.ClassFile.FieldType.boolean)) 1 0 0 [.ref 1, .int x] sh mi mr (zz_q (some (.int (zz_bi (zs_ix x (zv_ns S))))) sh mi mr) zz_none := by
  refine zz_begin RX6 [(0, .ref 1), (1, .int x)] (by decide) rfl rfl (Nat.le_of_ble_eq_true rfl) rfl ?_
  intro Γ D E ad hX hr hN hT
  obtain ⟨hWp, hWv, hWs, hWk, hWr, hWf⟩ := id hW
  obtain ⟨p0, p1, p2, p3, p4, p5⟩ := hWp
  obtain ⟨v0, v1, v2, v3, v4⟩ := hWv
  obtain ⟨s0, s1, s2, s3⟩ := hWs
  obtain ⟨f0, f1, f2, f3⟩ := hWf
  refine zz_iload_n hX dX6_isShot_0 1 rfl rfl ?_
  refine zz_iconst (v := nI 0) hX dX6_isShot_1 rfl ?_
  refine zz_aload_n hX dX6_isShot_2 0 rfl rfl ?_
  refine zz_getI (x := nI (zv_ns S)) hX zf_F_X6_102.r hM.1 rfl (((zM_c9 hM).trans s0)) dX6_isShot_3 ?_
  refine zz_iconst (v := nI 1) hX dX6_isShot_6 rfl ?_
  refine zz_isub (z := (nI (zv_ns S)) - (nI 1)) hX dX6_isShot_7 rfl ?_
  refine zz_sI (x := zz_bi (nI 0 ≤ x ∧ x ≤ (nI (zv_ns S)) - (nI 1))) hX zf_M_X6_91 (As := [.int x, .int (nI 0), .int ((nI (zv_ns S)) - (nI 1))]) (st := []) (m_isIn x (nI 0) ((nI (zv_ns S)) - (nI 1)) sh mi mr) rfl rfl (by decide) (Nat.le_of_ble_eq_true rfl) (Nat.le_of_ble_eq_true rfl) (Nat.le_of_ble_eq_true rfl) dX6_isShot_8 ?_
  refine zz_iret hX hr (zk_nbi _) (Nat.le_of_ble_eq_true rfl) (Nat.le_of_ble_eq_true rfl) dX6_isShot_11 ?_
  exact ⟨by rw [zz_bi_c (zs_in0 (n := zv_ns S) (by omega))], rfl, rfl, rfl⟩

set_option maxRecDepth 20000 in
theorem m_isAnimator (x : Int32) (sh : zm_Sh) (mi : zm_Mi) (mr : zm_Mr) : zz_Con yX6_isAnimator (.code yX6_isAnimator cX6_isAnimator 1 (some Jvm.ClassFile.FieldType.boolean)) 1 0 0 [.int x] sh mi mr (zz_q (some (.int (zz_bi (zs_ix x 5)))) sh mi mr) zz_none := by
  refine zz_begin RX6 [(0, .int x)] (by decide) rfl rfl (Nat.le_of_ble_eq_true rfl) rfl ?_
  intro Γ D E ad hX hr hN hT
  refine zz_iload_n hX dX6_isAnimator_0 0 rfl rfl ?_
  refine zz_iconst (v := nI 0) hX dX6_isAnimator_1 rfl ?_
  refine zz_iconst (v := nI 4) hX dX6_isAnimator_2 rfl ?_
  refine zz_sI (x := zz_bi (nI 0 ≤ x ∧ x ≤ nI 4)) hX zf_M_X6_91 (As := [.int x, .int (nI 0), .int (nI 4)]) (st := []) (m_isIn x (nI 0) (nI 4) sh mi mr) rfl rfl (by decide) (Nat.le_of_ble_eq_true rfl) (Nat.le_of_ble_eq_true rfl) (Nat.le_of_ble_eq_true rfl) dX6_isAnimator_3 ?_
  refine zz_iret hX hr (zk_nbi _) (Nat.le_of_ble_eq_true rfl) (Nat.le_of_ble_eq_true rfl) dX6_isAnimator_6 ?_
  exact ⟨by rw [zz_bi_c (zs_in5 (n := 5) (by decide) (by decide))], rfl, rfl, rfl⟩

set_option maxRecDepth 20000 in
theorem m_isSound (x : Int32) (sh : zm_Sh) (mi : zm_Mi) (mr : zm_Mr) : zz_Con yX6_isSound (.code yX6_isSound cX6_isSound 1 (some Jvm.ClassFile.FieldType.boolean)) 1 0 0 [.int x] sh mi mr (zz_q (some (.int (zz_bi (nI 0 ≤ x ∧ x ≤ nI 9)))) sh mi mr) zz_none := by
  refine zz_begin RX6 [(0, .int x)] (by decide) rfl rfl (Nat.le_of_ble_eq_true rfl) rfl ?_
  intro Γ D E ad hX hr hN hT
  refine zz_iload_n hX dX6_isSound_0 0 rfl rfl ?_
  refine zz_iconst (v := nI 0) hX dX6_isSound_1 rfl ?_
  refine zz_bipush (v := nI 9) hX dX6_isSound_2 rfl ?_
  refine zz_sI (x := zz_bi (nI 0 ≤ x ∧ x ≤ nI 9)) hX zf_M_X6_91 (As := [.int x, .int (nI 0), .int (nI 9)]) (st := []) (m_isIn x (nI 0) (nI 9) sh mi mr) rfl rfl (by decide) (Nat.le_of_ble_eq_true rfl) (Nat.le_of_ble_eq_true rfl) (Nat.le_of_ble_eq_true rfl) dX6_isSound_4 ?_
  refine zz_iret hX hr (zk_nbi _) (Nat.le_of_ble_eq_true rfl) (Nat.le_of_ble_eq_true rfl) dX6_isSound_7 ?_
  exact ⟨rfl, rfl, rfl, rfl⟩

set_option maxRecDepth 20000 in
theorem M_isJoint (S : zS) (sh : zm_Sh) (mi : zm_Mi) (mr : zm_Mr) (hW : zW S) (hM : zM S sh mi mr) (x y : Int32) : zz_Con yX6_isJoint (.code yX6_isJoint cX6_isJoint 3 (some Jvm.ClassFile.FieldType.boolean)) 2 0 0 [.ref 1, .int x, .int y] sh mi mr (zz_q (some (.int (zz_bi (zs_ix x (zv_np S) ∧ zs_ix y (zv_jn S (zn x)))))) sh mi mr) zz_none := by
  refine zz_begin RX6 [(0, .ref 1), (1, .int x), (2, .int y)] (by decide) rfl rfl (Nat.le_of_ble_eq_true rfl) rfl ?_
  intro Γ D E ad hX hr hN hT
  obtain ⟨hWp, hWv, hWs, hWk, hWr, hWf⟩ := id hW
  obtain ⟨p0, p1, p2, p3, p4, p5⟩ := hWp
  obtain ⟨v0, v1, v2, v3, v4⟩ := hWv
  obtain ⟨s0, s1, s2, s3⟩ := hWs
  obtain ⟨f0, f1, f2, f3⟩ := hWf
  refine zz_aload_n hX dX6_isJoint_0 0 rfl rfl ?_
  refine zz_iload_n hX dX6_isJoint_1 1 rfl rfl ?_
  refine zz_vI (x := zz_bi (zs_ix x (zv_np S))) hX zf_M_X6_95 (As := [.int x]) (st := []) (M_isPuppet S sh mi mr hW hM x) hM.1 rfl rfl rfl (by decide) (Nat.le_of_ble_eq_true rfl) (Nat.le_of_ble_eq_true rfl) (Nat.le_of_ble_eq_true rfl) dX6_isJoint_2 ?_
  refine zz_if_eqB hX 28 dX6_isJoint_5 (by decide) (fun c5 => ?_) (fun c5 => ?_)
  · skip
    refine zz_iconst (v := nI 0) hX dX6_isJoint_28 rfl ?_
    refine zz_iret hX hr rfl (Nat.le_of_ble_eq_true rfl) (Nat.le_of_ble_eq_true rfl) dX6_isJoint_29 ?_
    exact ⟨by rw [show zz_bi (zs_ix x (zv_np S) ∧ zs_ix y (zv_jn S (zn x))) = 0 from zz_bi_f (fun h => c5 h.1)]; rfl, rfl, rfl, rfl⟩
  · skip
    obtain ⟨p, hp, rfl⟩ := zs_ix_of c5 (by omega)
    have z_p : zn (nI p) = p := nI_clamp (n := p) (by omega)
    refine zz_iload_n hX dX6_isJoint_8 2 rfl rfl ?_
    refine zz_iconst (v := nI 0) hX dX6_isJoint_9 rfl ?_
    refine zz_aload_n hX dX6_isJoint_10 0 rfl rfl ?_
    refine zz_getR (y := 101) hX zf_F_X6_7.r hM.1 rfl (zM_r1 hM).1 dX6_isJoint_11 ?_
    refine zz_iload_n hX dX6_isJoint_14 1 rfl rfl ?_
    refine zz_iald (x := nI (zv_jn S p)) hX (zM_r1 hM).2 p rfl (by omega) (by decide) (((zM_v1 hM (k := p) (by omega)).trans (p2 p hp).1)) dX6_isJoint_15 ?_
    refine zz_iconst (v := nI 1) hX dX6_isJoint_16 rfl ?_
    refine zz_isub (z := (nI (zv_jn S p)) - (nI 1)) hX dX6_isJoint_17 rfl ?_
    have hjn9 := (p2 p hp).2.2
    refine zz_sI (x := zz_bi (nI 0 ≤ y ∧ y ≤ (nI (zv_jn S p)) - (nI 1))) hX zf_M_X6_91 (As := [.int y, .int (nI 0), .int ((nI (zv_jn S p)) - (nI 1))]) (st := []) (m_isIn y (nI 0) ((nI (zv_jn S p)) - (nI 1)) sh mi mr) rfl rfl (by decide) (Nat.le_of_ble_eq_true rfl) (Nat.le_of_ble_eq_true rfl) (Nat.le_of_ble_eq_true rfl) dX6_isJoint_18 ?_
    refine zz_if_eqB hX 28 dX6_isJoint_21 (by decide) (fun c21 => ?_) (fun c21 => ?_)
    · skip
      refine zz_iconst (v := nI 0) hX dX6_isJoint_28 rfl ?_
      refine zz_iret hX hr rfl (Nat.le_of_ble_eq_true rfl) (Nat.le_of_ble_eq_true rfl) dX6_isJoint_29 ?_
      have e9 : zz_bi (zs_ix (nI p) (zv_np S) ∧ zs_ix y (zv_jn S (zn (nI p)))) = 0 := by rw [z_p]; exact zz_bi_f (fun h => c21 ((zs_in0 (by omega)).mpr h.2))
      exact ⟨by rw [e9]; rfl, rfl, rfl, rfl⟩
    · skip
      refine zz_iconst (v := nI 1) hX dX6_isJoint_24 rfl ?_
      refine zz_goto hX 29 dX6_isJoint_25 (by decide) ?_
      refine zz_iret hX hr rfl (Nat.le_of_ble_eq_true rfl) (Nat.le_of_ble_eq_true rfl) dX6_isJoint_29 ?_
      have e9 : zz_bi (zs_ix (nI p) (zv_np S) ∧ zs_ix y (zv_jn S (zn (nI p)))) = 1 := by rw [z_p]; exact zz_bi_t ⟨zs_ix_nI hp (by omega), (zs_in0 (by omega)).mp c21⟩
      exact ⟨by rw [e9]; rfl, rfl, rfl, rfl⟩

set_option maxRecDepth 20000 in
theorem M_isFrame (S : zS) (sh : zm_Sh) (mi : zm_Mi) (mr : zm_Mr) (hW : zW S) (hM : zM S sh mi mr) (x y : Int32) : zz_Con yX6_isFrame (.code yX6_isFrame cX6_isFrame 3 (some Jvm.ClassFile.FieldType.boolean)) 2 0 0 [.ref 1, .int x, .int y] sh mi mr (zz_q (some (.int (zz_bi (zs_ix x (zv_ns S) ∧ zs_ix y (zv_fr S (zn x)))))) sh mi mr) zz_none := by
  refine zz_begin RX6 [(0, .ref 1), (1, .int x), (2, .int y)] (by decide) rfl rfl (Nat.le_of_ble_eq_true rfl) rfl ?_
  intro Γ D E ad hX hr hN hT
  obtain ⟨hWp, hWv, hWs, hWk, hWr, hWf⟩ := id hW
  obtain ⟨p0, p1, p2, p3, p4, p5⟩ := hWp
  obtain ⟨v0, v1, v2, v3, v4⟩ := hWv
  obtain ⟨s0, s1, s2, s3⟩ := hWs
  obtain ⟨f0, f1, f2, f3⟩ := hWf
  refine zz_aload_n hX dX6_isFrame_0 0 rfl rfl ?_
  refine zz_iload_n hX dX6_isFrame_1 1 rfl rfl ?_
  refine zz_vI (x := zz_bi (zs_ix x (zv_ns S))) hX zf_M_X6_105 (As := [.int x]) (st := []) (M_isShot S sh mi mr hW hM x) hM.1 rfl rfl rfl (by decide) (Nat.le_of_ble_eq_true rfl) (Nat.le_of_ble_eq_true rfl) (Nat.le_of_ble_eq_true rfl) dX6_isFrame_2 ?_
  refine zz_if_eqB hX 28 dX6_isFrame_5 (by decide) (fun c5 => ?_) (fun c5 => ?_)
  · skip
    refine zz_iconst (v := nI 0) hX dX6_isFrame_28 rfl ?_
    refine zz_iret hX hr rfl (Nat.le_of_ble_eq_true rfl) (Nat.le_of_ble_eq_true rfl) dX6_isFrame_29 ?_
    exact ⟨by rw [show zz_bi (zs_ix x (zv_ns S) ∧ zs_ix y (zv_fr S (zn x))) = 0 from zz_bi_f (fun h => c5 h.1)]; rfl, rfl, rfl, rfl⟩
  · skip
    obtain ⟨i, hi, rfl⟩ := zs_ix_of c5 (by omega)
    have z_i : zn (nI i) = i := nI_clamp (n := i) (by omega)
    refine zz_iload_n hX dX6_isFrame_8 2 rfl rfl ?_
    refine zz_iconst (v := nI 0) hX dX6_isFrame_9 rfl ?_
    refine zz_aload_n hX dX6_isFrame_10 0 rfl rfl ?_
    refine zz_getR (y := 111) hX zf_F_X6_34.r hM.1 rfl (zM_r11 hM).1 dX6_isFrame_11 ?_
    refine zz_iload_n hX dX6_isFrame_14 1 rfl rfl ?_
    refine zz_iald (x := nI (zv_fr S i)) hX (zM_r11 hM).2 i rfl (by omega) (by decide) (((zM_v11 hM (k := i) (by omega)).trans (s2 i hi).2.2.1)) dX6_isFrame_15 ?_
    refine zz_iconst (v := nI 1) hX dX6_isFrame_16 rfl ?_
    refine zz_isub (z := (nI (zv_fr S i)) - (nI 1)) hX dX6_isFrame_17 rfl ?_
    have hjn9 := (s2 i hi).2.2.2.2.1
    refine zz_sI (x := zz_bi (nI 0 ≤ y ∧ y ≤ (nI (zv_fr S i)) - (nI 1))) hX zf_M_X6_91 (As := [.int y, .int (nI 0), .int ((nI (zv_fr S i)) - (nI 1))]) (st := []) (m_isIn y (nI 0) ((nI (zv_fr S i)) - (nI 1)) sh mi mr) rfl rfl (by decide) (Nat.le_of_ble_eq_true rfl) (Nat.le_of_ble_eq_true rfl) (Nat.le_of_ble_eq_true rfl) dX6_isFrame_18 ?_
    refine zz_if_eqB hX 28 dX6_isFrame_21 (by decide) (fun c21 => ?_) (fun c21 => ?_)
    · skip
      refine zz_iconst (v := nI 0) hX dX6_isFrame_28 rfl ?_
      refine zz_iret hX hr rfl (Nat.le_of_ble_eq_true rfl) (Nat.le_of_ble_eq_true rfl) dX6_isFrame_29 ?_
      have e9 : zz_bi (zs_ix (nI i) (zv_ns S) ∧ zs_ix y (zv_fr S (zn (nI i)))) = 0 := by rw [z_i]; exact zz_bi_f (fun h => c21 ((zs_in0 (by omega)).mpr h.2))
      exact ⟨by rw [e9]; rfl, rfl, rfl, rfl⟩
    · skip
      refine zz_iconst (v := nI 1) hX dX6_isFrame_24 rfl ?_
      refine zz_goto hX 29 dX6_isFrame_25 (by decide) ?_
      refine zz_iret hX hr rfl (Nat.le_of_ble_eq_true rfl) (Nat.le_of_ble_eq_true rfl) dX6_isFrame_29 ?_
      have e9 : zz_bi (zs_ix (nI i) (zv_ns S) ∧ zs_ix y (zv_fr S (zn (nI i)))) = 1 := by rw [z_i]; exact zz_bi_t ⟨zs_ix_nI hi (by omega), (zs_in0 (by omega)).mp c21⟩
      exact ⟨by rw [e9]; rfl, rfl, rfl, rfl⟩

set_option maxRecDepth 20000 in
theorem M_isStruck (S : zS) (sh : zm_Sh) (mi : zm_Mi) (mr : zm_Mr) (hW : zW S) (hM : zM S sh mi mr) (x y : Int32) : zz_Con yX6_isStruck (.code yX6_isStruck cX6_isStruck 3 (some Jvm.ClassFile.FieldType.boolean)) 2 0 0 [.ref 1, .int x, .int y] sh mi mr (zz_q (some (.int (zz_bi (zs_ix x (zv_ns S) ∧ zs_ix y (zv_sk S (zn x)))))) sh mi mr) zz_none := by
  refine zz_begin RX6 [(0, .ref 1), (1, .int x), (2, .int y)] (by decide) rfl rfl (Nat.le_of_ble_eq_true rfl) rfl ?_
  intro Γ D E ad hX hr hN hT
  obtain ⟨hWp, hWv, hWs, hWk, hWr, hWf⟩ := id hW
  obtain ⟨p0, p1, p2, p3, p4, p5⟩ := hWp
  obtain ⟨v0, v1, v2, v3, v4⟩ := hWv
  obtain ⟨s0, s1, s2, s3⟩ := hWs
  obtain ⟨f0, f1, f2, f3⟩ := hWf
  refine zz_aload_n hX dX6_isStruck_0 0 rfl rfl ?_
  refine zz_iload_n hX dX6_isStruck_1 1 rfl rfl ?_
  refine zz_vI (x := zz_bi (zs_ix x (zv_ns S))) hX zf_M_X6_105 (As := [.int x]) (st := []) (M_isShot S sh mi mr hW hM x) hM.1 rfl rfl rfl (by decide) (Nat.le_of_ble_eq_true rfl) (Nat.le_of_ble_eq_true rfl) (Nat.le_of_ble_eq_true rfl) dX6_isStruck_2 ?_
  refine zz_if_eqB hX 28 dX6_isStruck_5 (by decide) (fun c5 => ?_) (fun c5 => ?_)
  · skip
    refine zz_iconst (v := nI 0) hX dX6_isStruck_28 rfl ?_
    refine zz_iret hX hr rfl (Nat.le_of_ble_eq_true rfl) (Nat.le_of_ble_eq_true rfl) dX6_isStruck_29 ?_
    exact ⟨by rw [show zz_bi (zs_ix x (zv_ns S) ∧ zs_ix y (zv_sk S (zn x))) = 0 from zz_bi_f (fun h => c5 h.1)]; rfl, rfl, rfl, rfl⟩
  · skip
    obtain ⟨i, hi, rfl⟩ := zs_ix_of c5 (by omega)
    have z_i : zn (nI i) = i := nI_clamp (n := i) (by omega)
    refine zz_iload_n hX dX6_isStruck_8 2 rfl rfl ?_
    refine zz_iconst (v := nI 0) hX dX6_isStruck_9 rfl ?_
    refine zz_aload_n hX dX6_isStruck_10 0 rfl rfl ?_
    refine zz_getR (y := 115) hX zf_F_X6_46.r hM.1 rfl (zM_r15 hM).1 dX6_isStruck_11 ?_
    refine zz_iload_n hX dX6_isStruck_14 1 rfl rfl ?_
    refine zz_iald (x := nI (zv_sk S i)) hX (zM_r15 hM).2 i rfl (by omega) (by decide) (((zM_v15 hM (k := i) (by omega)).trans (s2 i hi).2.2.2.2.2.2.2.2.2.2.1)) dX6_isStruck_15 ?_
    refine zz_iconst (v := nI 1) hX dX6_isStruck_16 rfl ?_
    refine zz_isub (z := (nI (zv_sk S i)) - (nI 1)) hX dX6_isStruck_17 rfl ?_
    have hjn9 := (s2 i hi).2.2.2.2.1; have hsk9 := (s2 i hi).2.2.2.2.2.2.2.2.2.2.2.1
    refine zz_sI (x := zz_bi (nI 0 ≤ y ∧ y ≤ (nI (zv_sk S i)) - (nI 1))) hX zf_M_X6_91 (As := [.int y, .int (nI 0), .int ((nI (zv_sk S i)) - (nI 1))]) (st := []) (m_isIn y (nI 0) ((nI (zv_sk S i)) - (nI 1)) sh mi mr) rfl rfl (by decide) (Nat.le_of_ble_eq_true rfl) (Nat.le_of_ble_eq_true rfl) (Nat.le_of_ble_eq_true rfl) dX6_isStruck_18 ?_
    refine zz_if_eqB hX 28 dX6_isStruck_21 (by decide) (fun c21 => ?_) (fun c21 => ?_)
    · skip
      refine zz_iconst (v := nI 0) hX dX6_isStruck_28 rfl ?_
      refine zz_iret hX hr rfl (Nat.le_of_ble_eq_true rfl) (Nat.le_of_ble_eq_true rfl) dX6_isStruck_29 ?_
      have e9 : zz_bi (zs_ix (nI i) (zv_ns S) ∧ zs_ix y (zv_sk S (zn (nI i)))) = 0 := by rw [z_i]; exact zz_bi_f (fun h => c21 ((zs_in0 (by omega)).mpr h.2))
      exact ⟨by rw [e9]; rfl, rfl, rfl, rfl⟩
    · skip
      refine zz_iconst (v := nI 1) hX dX6_isStruck_24 rfl ?_
      refine zz_goto hX 29 dX6_isStruck_25 (by decide) ?_
      refine zz_iret hX hr rfl (Nat.le_of_ble_eq_true rfl) (Nat.le_of_ble_eq_true rfl) dX6_isStruck_29 ?_
      have e9 : zz_bi (zs_ix (nI i) (zv_ns S) ∧ zs_ix y (zv_sk S (zn (nI i)))) = 1 := by rw [z_i]; exact zz_bi_t ⟨zs_ix_nI hi (by omega), (zs_in0 (by omega)).mp c21⟩
      exact ⟨by rw [e9]; rfl, rfl, rfl, rfl⟩

set_option maxRecDepth 20000 in
theorem M_isJointOf (S : zS) (sh : zm_Sh) (mi : zm_Mi) (mr : zm_Mr) (hW : zW S) (hM : zM S sh mi mr) (x y : Int32) : zz_Con yX6_isJointOf (.code yX6_isJointOf cX6_isJointOf 3 (some Jvm.ClassFile.FieldType.boolean)) 3 0 0 [.ref 1, .int x, .int y] sh mi mr (zz_q (some (.int (zz_bi (zs_ix x (zv_ns S) ∧ zs_ix y (zv_jn S (zv_pu S (zn x))))))) sh mi mr) zz_none := by
  refine zz_begin RX6 [(0, .ref 1), (1, .int x), (2, .int y)] (by decide) rfl rfl (Nat.le_of_ble_eq_true rfl) rfl ?_
  intro Γ D E ad hX hr hN hT
  obtain ⟨hWp, hWv, hWs, hWk, hWr, hWf⟩ := id hW
  obtain ⟨p0, p1, p2, p3, p4, p5⟩ := hWp
  obtain ⟨v0, v1, v2, v3, v4⟩ := hWv
  obtain ⟨s0, s1, s2, s3⟩ := hWs
  obtain ⟨f0, f1, f2, f3⟩ := hWf
  refine zz_aload_n hX dX6_isJointOf_0 0 rfl rfl ?_
  refine zz_iload_n hX dX6_isJointOf_1 1 rfl rfl ?_
  refine zz_vI (x := zz_bi (zs_ix x (zv_ns S))) hX zf_M_X6_105 (As := [.int x]) (st := []) (M_isShot S sh mi mr hW hM x) hM.1 rfl rfl rfl (by decide) (Nat.le_of_ble_eq_true rfl) (Nat.le_of_ble_eq_true rfl) (Nat.le_of_ble_eq_true rfl) dX6_isJointOf_2 ?_
  refine zz_if_eqB hX 26 dX6_isJointOf_5 (by decide) (fun c5 => ?_) (fun c5 => ?_)
  · skip
    refine zz_iconst (v := nI 0) hX dX6_isJointOf_26 rfl ?_
    refine zz_iret hX hr rfl (Nat.le_of_ble_eq_true rfl) (Nat.le_of_ble_eq_true rfl) dX6_isJointOf_27 ?_
    exact ⟨by rw [show zz_bi (zs_ix x (zv_ns S) ∧ zs_ix y (zv_jn S (zv_pu S (zn x)))) = 0 from zz_bi_f (fun h => c5 h.1)]; rfl, rfl, rfl, rfl⟩
  · skip
    obtain ⟨i, hi, rfl⟩ := zs_ix_of c5 (by omega)
    have z_i : zn (nI i) = i := nI_clamp (n := i) (by omega)
    refine zz_aload_n hX dX6_isJointOf_8 0 rfl rfl ?_
    refine zz_aload_n hX dX6_isJointOf_9 0 rfl rfl ?_
    refine zz_getR (y := 110) hX zf_F_X6_31.r hM.1 rfl (zM_r10 hM).1 dX6_isJointOf_10 ?_
    refine zz_iload_n hX dX6_isJointOf_13 1 rfl rfl ?_
    refine zz_iald (x := nI (zv_pu S i)) hX (zM_r10 hM).2 i rfl (by omega) (by decide) (((zM_v10 hM (k := i) (by omega)).trans (s2 i hi).1)) dX6_isJointOf_14 ?_
    refine zz_iload_n hX dX6_isJointOf_15 2 rfl rfl ?_
    refine zz_vI (x := zz_bi (zs_ix (nI (zv_pu S i)) (zv_np S) ∧ zs_ix y (zv_jn S (zn (nI (zv_pu S i)))))) hX zf_M_X6_135 (As := [.int (nI (zv_pu S i)), .int y]) (st := []) (M_isJoint S sh mi mr hW hM (nI (zv_pu S i)) y) hM.1 rfl rfl rfl (by decide) (Nat.le_of_ble_eq_true rfl) (Nat.le_of_ble_eq_true rfl) (Nat.le_of_ble_eq_true rfl) dX6_isJointOf_16 ?_
    refine zz_if_eqB hX 26 dX6_isJointOf_19 (by decide) (fun c19 => ?_) (fun c19 => ?_)
    · skip
      refine zz_iconst (v := nI 0) hX dX6_isJointOf_26 rfl ?_
      refine zz_iret hX hr rfl (Nat.le_of_ble_eq_true rfl) (Nat.le_of_ble_eq_true rfl) dX6_isJointOf_27 ?_
      have zp9 : zn (nI (zv_pu S i)) = zv_pu S i := nI_clamp (n := zv_pu S i) (by have := (s2 i hi).2.1; omega)
      rw [zp9] at c19
      have e9 : zz_bi (zs_ix (nI i) (zv_ns S) ∧ zs_ix y (zv_jn S (zv_pu S (zn (nI i))))) = 0 := by rw [z_i]; exact zz_bi_f (fun h => c19 ⟨zs_ix_nI (s2 i hi).2.1 (by omega), h.2⟩)
      exact ⟨by rw [e9]; rfl, rfl, rfl, rfl⟩
    · skip
      refine zz_iconst (v := nI 1) hX dX6_isJointOf_22 rfl ?_
      refine zz_goto hX 27 dX6_isJointOf_23 (by decide) ?_
      refine zz_iret hX hr rfl (Nat.le_of_ble_eq_true rfl) (Nat.le_of_ble_eq_true rfl) dX6_isJointOf_27 ?_
      have zp9 : zn (nI (zv_pu S i)) = zv_pu S i := nI_clamp (n := zv_pu S i) (by have := (s2 i hi).2.1; omega)
      rw [zp9] at c19
      have e9 : zz_bi (zs_ix (nI i) (zv_ns S) ∧ zs_ix y (zv_jn S (zv_pu S (zn (nI i))))) = 1 := by rw [z_i]; exact zz_bi_t ⟨zs_ix_nI hi (by omega), c19.2⟩
      exact ⟨by rw [e9]; rfl, rfl, rfl, rfl⟩

set_option maxRecDepth 20000 in
theorem M_isDone (S : zS) (sh : zm_Sh) (mi : zm_Mi) (mr : zm_Mr) (hW : zW S) (hM : zM S sh mi mr) (i : Nat) (hi : i < zv_ns S) : zz_Con yX6_isDone (.code yX6_isDone cX6_isDone 2 (some Jvm.ClassFile.FieldType.boolean)) 0 0 0 [.ref 1, .int (nI i)] sh mi mr (zz_q (some (.int (zz_bi (zv_fr S i ≤ zv_sk S i)))) sh mi mr) zz_none := by
  refine zz_begin RX6 [(0, .ref 1), (1, .int (nI i))] (by decide) rfl rfl (Nat.le_of_ble_eq_true rfl) rfl ?_
  intro Γ D E ad hX hr hN hT
  obtain ⟨hWp, hWv, hWs, hWk, hWr, hWf⟩ := id hW
  obtain ⟨p0, p1, p2, p3, p4, p5⟩ := hWp
  obtain ⟨v0, v1, v2, v3, v4⟩ := hWv
  obtain ⟨s0, s1, s2, s3⟩ := hWs
  obtain ⟨f0, f1, f2, f3⟩ := hWf
  obtain ⟨b1, b2, b3, b4, b5, b6, b7, b8, b9, b10, b11, b12, b13⟩ := s2 i hi
  refine zz_aload_n hX dX6_isDone_0 0 rfl rfl ?_
  refine zz_getR (y := 115) hX zf_F_X6_46.r hM.1 rfl (zM_r15 hM).1 dX6_isDone_1 ?_
  refine zz_iload_n hX dX6_isDone_4 1 rfl rfl ?_
  refine zz_iald (x := nI (zv_sk S i)) hX (zM_r15 hM).2 i rfl (by omega) (by decide) (((zM_v15 hM (k := i) (by omega)).trans (s2 i hi).2.2.2.2.2.2.2.2.2.2.1)) dX6_isDone_5 ?_
  refine zz_aload_n hX dX6_isDone_6 0 rfl rfl ?_
  refine zz_getR (y := 111) hX zf_F_X6_34.r hM.1 rfl (zM_r11 hM).1 dX6_isDone_7 ?_
  refine zz_iload_n hX dX6_isDone_10 1 rfl rfl ?_
  refine zz_iald (x := nI (zv_fr S i)) hX (zM_r11 hM).2 i rfl (by omega) (by decide) (((zM_v11 hM (k := i) (by omega)).trans (s2 i hi).2.2.1)) dX6_isDone_11 ?_
  refine zz_icmp_neN hX (by omega) (by omega) 19 dX6_isDone_12 (by decide) (fun c12 => ?_) (fun c12 => ?_)
  · skip
    refine zz_iconst (v := nI 0) hX dX6_isDone_19 rfl ?_
    refine zz_iret hX hr rfl (Nat.le_of_ble_eq_true rfl) (Nat.le_of_ble_eq_true rfl) dX6_isDone_20 ?_
    exact ⟨by rw [show zz_bi (zv_fr S i ≤ zv_sk S i) = 0 from zz_bi_f (by omega)]; rfl, rfl, rfl, rfl⟩
  · skip
    refine zz_iconst (v := nI 1) hX dX6_isDone_15 rfl ?_
    refine zz_goto hX 20 dX6_isDone_16 (by decide) ?_
    refine zz_iret hX hr rfl (Nat.le_of_ble_eq_true rfl) (Nat.le_of_ble_eq_true rfl) dX6_isDone_20 ?_
    exact ⟨by rw [show zz_bi (zv_fr S i ≤ zv_sk S i) = 1 from zz_bi_t (by omega)]; rfl, rfl, rfl, rfl⟩

set_option maxRecDepth 20000 in
theorem M_isOn (S : zS) (sh : zm_Sh) (mi : zm_Mi) (mr : zm_Mr) (hW : zW S) (hM : zM S sh mi mr) (i : Nat) (hi : i < zv_ns S) : zz_Con yX6_isOn (.code yX6_isOn cX6_isOn 2 (some Jvm.ClassFile.FieldType.boolean)) 1 0 0 [.ref 1, .int (nI i)] sh mi mr (zz_q (some (.int (zz_bi (zp_on S i)))) sh mi mr) zz_none := by
  refine zz_begin RX6 [(0, .ref 1), (1, .int (nI i))] (by decide) rfl rfl (Nat.le_of_ble_eq_true rfl) rfl ?_
  intro Γ D E ad hX hr hN hT
  obtain ⟨hWp, hWv, hWs, hWk, hWr, hWf⟩ := id hW
  obtain ⟨p0, p1, p2, p3, p4, p5⟩ := hWp
  obtain ⟨v0, v1, v2, v3, v4⟩ := hWv
  obtain ⟨s0, s1, s2, s3⟩ := hWs
  obtain ⟨f0, f1, f2, f3⟩ := hWf
  obtain ⟨b1, b2, b3, b4, b5, b6, b7, b8, b9, b10, b11, b12, b13⟩ := s2 i hi
  refine zz_aload_n hX dX6_isOn_0 0 rfl rfl ?_
  refine zz_getR (y := 115) hX zf_F_X6_46.r hM.1 rfl (zM_r15 hM).1 dX6_isOn_1 ?_
  refine zz_iload_n hX dX6_isOn_4 1 rfl rfl ?_
  refine zz_iald (x := nI (zv_sk S i)) hX (zM_r15 hM).2 i rfl (by omega) (by decide) (((zM_v15 hM (k := i) (by omega)).trans (s2 i hi).2.2.2.2.2.2.2.2.2.2.1)) dX6_isOn_5 ?_
  refine zz_if_leN hX (by omega) 21 dX6_isOn_6 (by decide) (fun c6 => ?_) (fun c6 => ?_)
  · skip
    refine zz_iconst (v := nI 0) hX dX6_isOn_21 rfl ?_
    refine zz_iret hX hr rfl (Nat.le_of_ble_eq_true rfl) (Nat.le_of_ble_eq_true rfl) dX6_isOn_22 ?_
    exact ⟨by rw [show zz_bi (zp_on S i) = 0 from zz_bi_f (fun h => absurd h.1 (by omega))]; rfl, rfl, rfl, rfl⟩
  · skip
    refine zz_aload_n hX dX6_isOn_9 0 rfl rfl ?_
    refine zz_iload_n hX dX6_isOn_10 1 rfl rfl ?_
    refine zz_vI (x := zz_bi (zv_fr S i ≤ zv_sk S i)) hX zf_M_X6_117 (As := [.int (nI i)]) (st := []) (M_isDone S sh mi mr hW hM i hi) hM.1 rfl rfl rfl (by decide) (Nat.le_of_ble_eq_true rfl) (Nat.le_of_ble_eq_true rfl) (Nat.le_of_ble_eq_true rfl) dX6_isOn_11 ?_
    refine zz_if_neB hX 21 dX6_isOn_14 (by decide) (fun c14 => ?_) (fun c14 => ?_)
    · skip
      refine zz_iconst (v := nI 0) hX dX6_isOn_21 rfl ?_
      refine zz_iret hX hr rfl (Nat.le_of_ble_eq_true rfl) (Nat.le_of_ble_eq_true rfl) dX6_isOn_22 ?_
      exact ⟨by rw [show zz_bi (zp_on S i) = 0 from zz_bi_f (fun h => h.2 c14)]; rfl, rfl, rfl, rfl⟩
    · skip
      refine zz_iconst (v := nI 1) hX dX6_isOn_17 rfl ?_
      refine zz_goto hX 22 dX6_isOn_18 (by decide) ?_
      refine zz_iret hX hr rfl (Nat.le_of_ble_eq_true rfl) (Nat.le_of_ble_eq_true rfl) dX6_isOn_22 ?_
      exact ⟨by rw [show zz_bi (zp_on S i) = 1 from zz_bi_t (⟨by omega, c14⟩)]; rfl, rfl, rfl, rfl⟩

set_option maxRecDepth 20000 in
theorem M_isHeld (S : zS) (sh : zm_Sh) (mi : zm_Mi) (mr : zm_Mr) (hW : zW S) (hM : zM S sh mi mr) (i : Nat) (hi : i < zv_ns S) (f : Nat) (hf : f < 1000) : zz_Con yX6_isHeld (.code yX6_isHeld cX6_isHeld 3 (some Jvm.ClassFile.FieldType.boolean)) 0 0 0 [.ref 1, .int (nI i), .int (nI f)] sh mi mr (zz_q (some (.int (zz_bi (zp_held S i f)))) sh mi mr) zz_none := by
  refine zz_begin RX6 [(0, .ref 1), (1, .int (nI i)), (2, .int (nI f))] (by decide) rfl rfl (Nat.le_of_ble_eq_true rfl) rfl ?_
  intro Γ D E ad hX hr hN hT
  obtain ⟨hWp, hWv, hWs, hWk, hWr, hWf⟩ := id hW
  obtain ⟨p0, p1, p2, p3, p4, p5⟩ := hWp
  obtain ⟨v0, v1, v2, v3, v4⟩ := hWv
  obtain ⟨s0, s1, s2, s3⟩ := hWs
  obtain ⟨f0, f1, f2, f3⟩ := hWf
  obtain ⟨b1, b2, b3, b4, b5, b6, b7, b8, b9, b10, b11, b12, b13⟩ := s2 i hi
  refine zz_aload_n hX dX6_isHeld_0 0 rfl rfl ?_
  refine zz_getR (y := 112) hX zf_F_X6_37.r hM.1 rfl (zM_r12 hM).1 dX6_isHeld_1 ?_
  refine zz_iload_n hX dX6_isHeld_4 1 rfl rfl ?_
  refine zz_iald (x := nI (zv_st S i)) hX (zM_r12 hM).2 i rfl (by omega) (by decide) (((zM_v12 hM (k := i) (by omega)).trans (s2 i hi).2.2.2.2.2.1)) dX6_isHeld_5 ?_
  refine zz_iconst (v := nI 2) hX dX6_isHeld_6 rfl ?_
  refine zz_icmp_neN hX (by omega) (by decide) 21 dX6_isHeld_7 (by decide) (fun c7 => ?_) (fun c7 => ?_)
  · skip
    refine zz_iconst (v := nI 0) hX dX6_isHeld_21 rfl ?_
    refine zz_iret hX hr rfl (Nat.le_of_ble_eq_true rfl) (Nat.le_of_ble_eq_true rfl) dX6_isHeld_22 ?_
    exact ⟨by rw [show zz_bi (zp_held S i f) = 0 from zz_bi_f (fun h => h (if_neg (fun q => c7 q.1)))]; rfl, rfl, rfl, rfl⟩
  · skip
    refine zz_iload_n hX dX6_isHeld_10 2 rfl rfl ?_
    refine zz_iconst (v := nI 2) hX dX6_isHeld_11 rfl ?_
    refine zz_irem (z := nI (f % 2)) hX dX6_isHeld_12 (by decide) (pk_rem (by omega) (by decide) (by decide)) ?_
    refine zz_iconst (v := nI 1) hX dX6_isHeld_13 rfl ?_
    refine zz_icmp_neN hX (by omega) (by decide) 21 dX6_isHeld_14 (by decide) (fun c14 => ?_) (fun c14 => ?_)
    · skip
      refine zz_iconst (v := nI 0) hX dX6_isHeld_21 rfl ?_
      refine zz_iret hX hr rfl (Nat.le_of_ble_eq_true rfl) (Nat.le_of_ble_eq_true rfl) dX6_isHeld_22 ?_
      exact ⟨by rw [show zz_bi (zp_held S i f) = 0 from zz_bi_f (fun h => h (if_neg (fun q => c14 q.2)))]; rfl, rfl, rfl, rfl⟩
    · skip
      refine zz_iconst (v := nI 1) hX dX6_isHeld_17 rfl ?_
      refine zz_goto hX 22 dX6_isHeld_18 (by decide) ?_
      refine zz_iret hX hr rfl (Nat.le_of_ble_eq_true rfl) (Nat.le_of_ble_eq_true rfl) dX6_isHeld_22 ?_
      exact ⟨by rw [show zz_bi (zp_held S i f) = 1 from zz_bi_t (by show ¬ zs_pf (zv_st S i) f = f; rw [show zs_pf (zv_st S i) f = f - 1 from if_pos ⟨c7, c14⟩]; omega)]; rfl, rfl, rfl, rfl⟩

set_option maxRecDepth 20000 in
theorem m_row (sh : zm_Sh) (mi : zm_Mi) (mr : zm_Mr) (i j : Nat) : zz_Con yX6_row (.code yX6_row cX6_row 3 (some Jvm.ClassFile.FieldType.int)) 0 0 0 [.ref 1, .int (nI i), .int (nI j)] sh mi mr (zz_q (some (.int (nI (48 * (6 * i + j))))) sh mi mr) zz_none := by
  refine zz_begin RX6 [(0, .ref 1), (1, .int (nI i)), (2, .int (nI j))] (by decide) rfl rfl (Nat.le_of_ble_eq_true rfl) rfl ?_
  intro Γ D E ad hX hr hN hT
  refine zz_bipush (v := nI 48) hX dX6_row_0 rfl ?_
  refine zz_bipush (v := nI 6) hX dX6_row_2 rfl ?_
  refine zz_iload_n hX dX6_row_4 1 rfl rfl ?_
  refine zz_imul (z := nI (6 * i)) hX dX6_row_5 (pk_mul _ _) ?_
  refine zz_iload_n hX dX6_row_6 2 rfl rfl ?_
  refine zz_iadd (z := nI (6 * i + j)) hX dX6_row_7 (nI_add _ _) ?_
  refine zz_imul (z := nI (48 * (6 * i + j))) hX dX6_row_8 (pk_mul _ _) ?_
  refine zz_iret hX hr rfl (Nat.le_of_ble_eq_true rfl) (Nat.le_of_ble_eq_true rfl) dX6_row_9 ?_
  exact ⟨rfl, rfl, rfl, rfl⟩

set_option maxRecDepth 20000 in
theorem M_lightNow (S : zS) (sh : zm_Sh) (mi : zm_Mi) (mr : zm_Mr) (hW : zW S) (hM : zM S sh mi mr)  : zz_Con yX6_lightNow (.code yX6_lightNow cX6_lightNow 2 (some Jvm.ClassFile.FieldType.int)) 0 0 0 [.ref 1] sh mi mr (zz_q (some (.int (zp_light S))) sh mi mr) zz_none := by
  refine zz_begin RX6 [(0, .ref 1)] (by decide) rfl rfl (Nat.le_of_ble_eq_true rfl) rfl ?_
  intro Γ D E ad hX hr hN hT
  obtain ⟨hWp, hWv, hWs, hWk, hWr, hWf⟩ := id hW
  obtain ⟨p0, p1, p2, p3, p4, p5⟩ := hWp
  obtain ⟨v0, v1, v2, v3, v4⟩ := hWv
  obtain ⟨s0, s1, s2, s3⟩ := hWs
  obtain ⟨f0, f1, f2, f3⟩ := hWf
  refine zz_sipush (v := nI 1000) hX dX6_lightNow_0 rfl ?_
  refine zz_aload_n hX dX6_lightNow_3 0 rfl rfl ?_
  refine zz_getI (x := S 21 0) hX zf_F_X6_154.r hM.1 rfl ((zM_c21 hM)) dX6_lightNow_4 ?_
  refine zz_iconst (v := nI 3) hX dX6_lightNow_7 rfl ?_
  refine zz_idiv (z := (S 21 0) / (nI 3)) hX dX6_lightNow_8 (by decide) rfl ?_
  refine zz_isub (z := (nI 1000) - ((S 21 0) / (nI 3))) hX dX6_lightNow_9 rfl ?_
  refine zz_istore_n (ls' := [(0, .ref 1), (1, .int ((nI 1000) - ((S 21 0) / (nI 3))))]) hX dX6_lightNow_10 rfl (Nat.le_of_ble_eq_true rfl) rfl ?_
  refine zz_iload_n hX dX6_lightNow_11 1 rfl rfl ?_
  refine zz_sipush (v := nI 500) hX dX6_lightNow_12 rfl ?_
  refine zz_icmp_ge hX 24 dX6_lightNow_15 (by decide) (fun c15 => ?_) (fun c15 => ?_)
  · skip
    refine zz_iload_n hX dX6_lightNow_24 1 rfl rfl ?_
    refine zz_iret hX hr rfl (Nat.le_of_ble_eq_true rfl) (Nat.le_of_ble_eq_true rfl) dX6_lightNow_25 ?_
    have e9 : zp_light S = nI 1000 - S 21 0 / nI 3 := by
      unfold zp_light
      by_cases h : nI 500 < nI 1000 - S 21 0 / nI 3
      · rw [if_pos h]
      · rw [if_neg h]; rw [zs_eq]; rw [zs_lt] at h; rw [zs_le] at c15; omega
    exact ⟨by rw [e9], rfl, rfl, rfl⟩
  · skip
    refine zz_sipush (v := nI 500) hX dX6_lightNow_18 rfl ?_
    refine zz_goto hX 25 dX6_lightNow_21 (by decide) ?_
    refine zz_iret hX hr rfl (Nat.le_of_ble_eq_true rfl) (Nat.le_of_ble_eq_true rfl) dX6_lightNow_25 ?_
    have e9 : zp_light S = nI 500 := if_neg (fun h => by rw [zs_lt] at h; rw [zs_le] at c15; omega)
    exact ⟨by rw [e9], rfl, rfl, rfl⟩

