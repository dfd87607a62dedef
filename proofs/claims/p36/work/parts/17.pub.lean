/-! ===== the class's public methods, said of the state ===== -/
def zr_out (l : Nat) : Prop := l < 2 ∨ (8 ≤ l ∧ l < 200)
def zq_ok (A B C : Prop) (a : Int32) (S' : zS) (sh : zm_Sh) (mi : zm_Mi) (mr : zm_Mr) : Option Value → zm_Sh → zm_Mi → zm_Mr → Prop := fun v s i m => (A ∧ B ∧ C) ∧ v = some (.int a) ∧ zR S' s i m ∧ zr_same zr_out sh mi mr s i m
def zq_no (A B C : Prop) (sh : zm_Sh) (mi : zm_Mi) (mr : zm_Mr) : String → zm_Sh → zm_Mi → zm_Mr → Prop := fun e s i m => ((e = zx_I ∧ ¬ A) ∨ (e = zx_A ∧ A ∧ ¬ B) ∨ (e = zx_S ∧ A ∧ B ∧ ¬ C)) ∧ s = sh ∧ i = mi ∧ m = mr
theorem zr_fr {P : Nat → Prop} {sh s : zm_Sh} {mi i : zm_Mi} {mr m : zm_Mr} {l k : Nat} {x : Int32} (h : zr_same P sh mi mr s i m) (hl : ¬ P l) : zr_same P sh mi mr s (zm_u2 i l k x) m := fun q hq => ⟨(h q hq).1, (zm_u2r (fun (e : q = l) => hl (e ▸ hq))).trans (h q hq).2.1, (h q hq).2.2⟩
theorem zs_rng_of {x : Int32} {n : Nat} (h : nI 0 ≤ x ∧ x ≤ nI n) (hn : n < 2 ^ 31) : zs_ix x (n + 1) := by
  have h1 := zs_le.mp h.1
  have h2 := zs_le.mp h.2
  rw [nI_toInt (by omega)] at h1 h2
  exact ⟨by omega, by omega⟩
theorem zs_rng_nI {t n : Nat} (h : t < n + 1) (hn : n < 2 ^ 31) : nI 0 ≤ nI t ∧ nI t ≤ nI n := by
  rw [zs_le, zs_le, nI_toInt (by omega), nI_toInt (by omega), nI_toInt hn]
  exact ⟨by omega, by omega⟩
/-! ===== a key is told ===== -/
theorem zR_tk {S S' : zS} {sh : zm_Sh} {mi mi' : zm_Mi} {mr : zm_Mr} (hW : zW S) (hR : zR S sh mi mr) (hs : ∀ r, r ≠ 18 → r ≠ 19 → S' r = S r) (hm : ∀ l, (∀ i, i < zv_ns S → ¬ (1000 + 100 * i + 2 ≤ l ∧ l ≤ 1000 + 100 * i + 4) ∧ ¬ (1000 + 100 * i + 20 ≤ l ∧ l < 1000 + 100 * i + 38)) → mi' l = mi l) (hk : ∀ i, i < zv_ns S → zR_k S mi i → zR_k S' mi' i) : zR S' sh mi' mr := by
  obtain ⟨h1, h2, h3, h4⟩ := zR_out hR
  have n2 := hW.2.1.2.1
  have n3 := hW.2.2.1.2.1
  have e0 := hs 0 (by decide) (by decide)
  have e1 := hs 1 (by decide) (by decide)
  have e5 := hs 5 (by decide) (by decide)
  have e6 := hs 6 (by decide) (by decide)
  have e8 := hs 8 (by decide) (by decide)
  have e9 := hs 9 (by decide) (by decide)
  have e10 := hs 10 (by decide) (by decide)
  have e11 := hs 11 (by decide) (by decide)
  have e15 := hs 15 (by decide) (by decide)
  have e28 := hs 28 (by decide) (by decide)
  have e29 := hs 29 (by decide) (by decide)
  have he : zR_at S' = zR_at S := by
    funext l k r c
    unfold zR_at zR_at1 zR_at2 zR_at3 zR_at4 zR_at5
    simp only [zv_np, zv_jn, zv_nv, zv_sc, zv_ns, zv_pu, zv_fr, zv_st, zv_sk, zv_nf, zv_fl, e0, e1, e5, e6, e9, e10, e11, e15, e28, e29]
  refine zR_in ?_ (fun l k r c q => ?_) ?_ ?_
  · unfold zR_hs zR_free
    simp only [zv_np, zv_jn, zv_nv, zv_sc, zv_ns, zv_pu, zv_fr, zv_st, zv_sk, zv_nf, zv_fl, e0, e1, e5, e6, e9, e10, e11]
    exact h1
  · rw [he] at q
    have hc := zR_at_code hW q
    unfold zR_code at hc
    have hq : (∀ i, i < zv_ns S → ¬ (1000 + 100 * i + 2 ≤ l ∧ l ≤ 1000 + 100 * i + 4) ∧ ¬ (1000 + 100 * i + 20 ≤ l ∧ l < 1000 + 100 * i + 38)) ∧ r ≠ 18 ∧ r ≠ 19 := by
      rcases hc with ⟨-, h0⟩ | ⟨-, h0⟩
      · exact h0.elim
      rcases h0 with h | h | h | ⟨p, hp, h⟩ | ⟨p, hp, h⟩ | ⟨p, hp, h | h | h | ⟨hk, j, hj, h⟩⟩ <;> refine ⟨fun i hi => ?_, ?_, ?_⟩ <;> omega
    rw [hm l hq.1, hs r hq.2.1 hq.2.2]
    exact h2 l k r c q
  · unfold zR_en
    simp only [zv_np, zv_jn, zv_nv, zv_sc, zv_ns, zv_pu, zv_fr, zv_st, zv_sk, zv_nf, zv_fl, e5, e6, e8]
    intro v hv k hk9
    have hv' : v ≤ zv_nv S := hv
    rw [hm _ (fun i hi => by omega)]
    exact h3 v hv k hk9
  · simp only [zv_ns, e9]
    exact fun i hi => hk i hi (h4 i hi)
theorem zR_key {S : zS} {sh : zm_Sh} {mi : zm_Mi} {mr : zm_Mr} (hW : zW S) (hR : zR S sh mi mr) {i j f : Nat} (hi : i < zv_ns S) (hj : j < zv_jn S (zv_pu S i)) (hf : f < zv_fr S i) {d : Int32} (hd : ¬ d = -1) :
    zR (zm_u2 S 18 (48 * (6 * i + j) + f) d) sh (zm_u2 (zm_u2 mi (1000 + 100 * i + 20 + 3 * j + 1) f d) (1000 + 100 * i + 20 + 3 * j + 2) f (nI 1)) mr := by
  obtain ⟨a1, a2, -⟩ := zR_sh hW hR hi
  generalize hS' : zm_u2 S 18 (48 * (6 * i + j) + f) d = S'
  generalize hm' : zm_u2 (zm_u2 mi (1000 + 100 * i + 20 + 3 * j + 1) f d) (1000 + 100 * i + 20 + 3 * j + 2) f (nI 1) = mi'
  have es : ∀ r, r ≠ 18 → r ≠ 19 → S' r = S r := fun r h1 _ => by rw [← hS']; exact zm_u2r h1
  have e1 := es 1 (by decide) (by decide)
  have e10 := es 10 (by decide) (by decide)
  have e11 := es 11 (by decide) (by decide)
  have e19 : S' 19 = S 19 := by rw [← hS']; exact zm_u2r (by decide)
  have M : ∀ a b, ¬ (a = 1000 + 100 * i + 20 + 3 * j + 1 ∧ b = f) → ¬ (a = 1000 + 100 * i + 20 + 3 * j + 2 ∧ b = f) → mi' a b = mi a b := fun a b h1 h2 => by
    rw [← hm']
    exact (if_neg h2).trans (if_neg h1)
  refine zR_tk hW hR es (fun l hl => funext fun b => M l b (fun q => (hl i hi).2 (by omega)) (fun q => (hl i hi).2 (by omega))) (fun i' hi' hk => ?_)
  obtain ⟨g1, g2, g3, g4⟩ := hk
  obtain ⟨b1, b2, -⟩ := zR_sh hW hR hi'
  unfold zR_k
  simp only [zv_jn, zv_pu, zv_fr, e1, e10, e11, e19]
  refine ⟨fun j' hj' => ?_, fun j' f' hj' hf' => ?_, ?_, fun f' hf' => ?_⟩
  · have hj2 : j' < zv_jn S (zv_pu S i') := hj'
    rw [M _ _ (by omega) (by omega)]
    exact g1 j' hj'
  · have hj2 : j' < zv_jn S (zv_pu S i') := hj'
    have hf2 : f' < zv_fr S i' := hf'
    by_cases e : i' = i ∧ j' = j ∧ f' = f
    · obtain ⟨rfl, rfl, rfl⟩ := e
      have v1 : mi' (1000 + 100 * i' + 20 + 3 * j' + 2) f' = nI 1 := by rw [← hm']; exact zm_u2s
      have v2 : mi' (1000 + 100 * i' + 20 + 3 * j' + 1) f' = d := by rw [← hm']; exact (zm_u2l (by omega)).trans zm_u2s
      have v3 : S' 18 (48 * (6 * i' + j') + f') = d := by rw [← hS']; exact zm_u2s
      rw [v1, v2, v3]
      exact ⟨⟨fun q => absurd q (by decide), fun q => absurd q hd⟩, fun _ => rfl⟩
    · have v3 : S' 18 (48 * (6 * i' + j') + f') = S 18 (48 * (6 * i' + j') + f') := by rw [← hS']; exact if_neg (by omega)
      rw [M _ _ (by omega) (by omega), M _ _ (by omega) (by omega), v3]
      exact g2 j' f' hj' hf'
  · rw [M _ _ (by omega) (by omega)]
    exact g3
  · rw [M _ _ (by omega) (by omega), M _ _ (by omega) (by omega)]
    exact g4 f' hf'
theorem zR_cam {S : zS} {sh : zm_Sh} {mi : zm_Mi} {mr : zm_Mr} (hW : zW S) (hR : zR S sh mi mr) {i f : Nat} (hi : i < zv_ns S) (hf : f < zv_fr S i) {d : Int32} (hd : ¬ d = 100000) :
    zR (zm_u2 S 19 (48 * i + f) d) sh (zm_u2 (zm_u2 mi (1000 + 100 * i + 2 + 1) f d) (1000 + 100 * i + 2 + 2) f (nI 1)) mr := by
  obtain ⟨a1, a2, -⟩ := zR_sh hW hR hi
  generalize hS' : zm_u2 S 19 (48 * i + f) d = S'
  generalize hm' : zm_u2 (zm_u2 mi (1000 + 100 * i + 2 + 1) f d) (1000 + 100 * i + 2 + 2) f (nI 1) = mi'
  have es : ∀ r, r ≠ 18 → r ≠ 19 → S' r = S r := fun r _ h1 => by rw [← hS']; exact zm_u2r h1
  have e1 := es 1 (by decide) (by decide)
  have e10 := es 10 (by decide) (by decide)
  have e11 := es 11 (by decide) (by decide)
  have e18 : S' 18 = S 18 := by rw [← hS']; exact zm_u2r (by decide)
  have M : ∀ a b, ¬ (a = 1000 + 100 * i + 2 + 1 ∧ b = f) → ¬ (a = 1000 + 100 * i + 2 + 2 ∧ b = f) → mi' a b = mi a b := fun a b h1 h2 => by
    rw [← hm']
    exact (if_neg h2).trans (if_neg h1)
  refine zR_tk hW hR es (fun l hl => funext fun b => M l b (fun q => (hl i hi).1 (by omega)) (fun q => (hl i hi).1 (by omega))) (fun i' hi' hk => ?_)
  obtain ⟨g1, g2, g3, g4⟩ := hk
  obtain ⟨b1, b2, -⟩ := zR_sh hW hR hi'
  unfold zR_k
  simp only [zv_jn, zv_pu, zv_fr, e1, e10, e11, e18]
  refine ⟨fun j' hj' => ?_, fun j' f' hj' hf' => ?_, ?_, fun f' hf' => ?_⟩
  · have hj2 : j' < zv_jn S (zv_pu S i') := hj'
    rw [M _ _ (by omega) (by omega)]
    exact g1 j' hj'
  · have hj2 : j' < zv_jn S (zv_pu S i') := hj'
    rw [M _ _ (by omega) (by omega), M _ _ (by omega) (by omega)]
    exact g2 j' f' hj' hf'
  · rw [M _ _ (by omega) (by omega)]
    exact g3
  · have hf2 : f' < zv_fr S i' := hf'
    by_cases e : i' = i ∧ f' = f
    · obtain ⟨rfl, rfl⟩ := e
      have v1 : mi' (1000 + 100 * i' + 2 + 2) f' = nI 1 := by rw [← hm']; exact zm_u2s
      have v2 : mi' (1000 + 100 * i' + 2 + 1) f' = d := by rw [← hm']; exact (zm_u2l (by omega)).trans zm_u2s
      have v3 : S' 19 (48 * i' + f') = d := by rw [← hS']; exact zm_u2s
      rw [v1, v2, v3]
      exact ⟨⟨fun q => absurd q (by decide), fun q => absurd q hd⟩, fun _ => rfl⟩
    · have v3 : S' 19 (48 * i' + f') = S 19 (48 * i' + f') := by rw [← hS']; exact if_neg (by omega)
      rw [M _ _ (by omega) (by omega), M _ _ (by omega) (by omega), v3]
      exact g4 f' hf'

set_option maxRecDepth 20000 in
theorem P_bars (S : zS) (sh : zm_Sh) (mi : zm_Mi) (mr : zm_Mr) (hW : zW S) (hR : zR S sh mi mr) (s : Int32) : zz_Con yX5_bars (.code yX5_bars cX5_bars 2 (some Jvm.ClassFile.FieldType.int)) 10 10 60 [.ref 2, .int s] sh mi mr (zq_ok ((zs_ix s (zv_ns S))) (True) (True) (nI (zp_bar S (zn s))) S sh mi mr) (zq_no ((zs_ix s (zv_ns S))) (True) (True) sh mi mr) := by
  refine zz_begin RX5 [(0, .ref 2), (1, .int s)] (by decide) rfl rfl (Nat.le_of_ble_eq_true rfl) rfl ?_
  intro Γ D E ad hX hr hN hT
  obtain ⟨hRm, hRp, hRv, hRs, hRf⟩ := id hR
  obtain ⟨m1, m2, m3, m4, m5, m6, m7, m8, m9, m10, m11, m12, m13, m14, m15, m16, m17, m18, m19, m20⟩ := hRm
  obtain ⟨hWp, hWv, hWs, hWk, hWr, hWf⟩ := id hW
  obtain ⟨p0, p1, p2, p3, p4, p5⟩ := hWp
  obtain ⟨v0, v1, v2, v3, v4⟩ := hWv
  obtain ⟨s0, s1, s2, s3⟩ := hWs
  obtain ⟨f0, f1, f2, f3⟩ := hWf
  refine zz_aload_n hX dX5_bars_0 0 rfl rfl ?_
  refine zz_aload_n hX dX5_bars_1 0 rfl rfl ?_
  refine zz_iload_n hX dX5_bars_2 1 rfl rfl ?_
  refine zz_callV hX zf_M_X5_106 (As := [.int s]) (st := [.ref 2]) (K_shotAt S sh mi mr hW hR s) m1 rfl rfl rfl (by decide) (Nat.le_of_ble_eq_true rfl) (Nat.le_of_ble_eq_true rfl) (Nat.le_of_ble_eq_true rfl) dX5_bars_3 ?_ ?_
  rotate_left
  · rintro e9 s9 i9 m9 ⟨x3, rfl, rfl, rfl, rfl⟩ -; exact zz_out hX hT (Nat.le_of_ble_eq_true rfl) (Nat.le_of_ble_eq_true rfl) (by unfold zq_no; skip; exact ⟨Or.inl ⟨rfl, fun h => x3 (h)⟩, rfl, rfl, rfl⟩)
  rintro v9 s9 i9 m9 ⟨i, hi, rfl, rfl, e2, e3, e4⟩ -
  obtain rfl := e2.symm
  obtain rfl := e3.symm
  obtain rfl := e4.symm
  have z_i : zn (nI i) = i := nI_clamp (n := i) (by omega)
  obtain ⟨a1, a2, a3, a4, a5, a6, a7, a8⟩ := zR_sh hW hR hi
  obtain ⟨t1, t2, t3, t4, t5, t6, t7, t8, t9, t10⟩ := a3
  obtain ⟨r1, r2, r3, r4, r5, r6, r7, r8, r9, r10, r11, r12, r13, r14, r15⟩ := t10
  obtain ⟨u1, u2, u3, u4, u5, u6, u7, u8, u9, u10⟩ := hRs i hi
  obtain ⟨b1, b2, b3, b4, b5, b6, b7, b8, b9, b10, b11, b12, b13⟩ := s2 i hi
  refine zz_vI (x := nI (zp_bar S i)) hX zf_M_X5_175 (As := [.ref (1000 + 100 * i)]) (st := []) (K_barOf S sh mi mr hW hR i hi) m1 rfl rfl rfl (by decide) (Nat.le_of_ble_eq_true rfl) (Nat.le_of_ble_eq_true rfl) (Nat.le_of_ble_eq_true rfl) dX5_bars_6 ?_
  refine zz_iret hX hr rfl (Nat.le_of_ble_eq_true rfl) (Nat.le_of_ble_eq_true rfl) dX5_bars_9 ?_
  unfold zq_ok
  (try rw [z_i])
  exact ⟨⟨zs_ix_nI hi (by omega), trivial, trivial⟩, rfl, hR, zr_same.rfl'⟩

set_option maxRecDepth 20000 in
theorem P_struck (S : zS) (sh : zm_Sh) (mi : zm_Mi) (mr : zm_Mr) (hW : zW S) (hR : zR S sh mi mr) (s : Int32) : zz_Con yX5_struck (.code yX5_struck cX5_struck 2 (some Jvm.ClassFile.FieldType.int)) 10 10 60 [.ref 2, .int s] sh mi mr (zq_ok ((zs_ix s (zv_ns S))) (True) (True) (nI (zv_sk S (zn s))) S sh mi mr) (zq_no ((zs_ix s (zv_ns S))) (True) (True) sh mi mr) := by
  refine zz_begin RX5 [(0, .ref 2), (1, .int s)] (by decide) rfl rfl (Nat.le_of_ble_eq_true rfl) rfl ?_
  intro Γ D E ad hX hr hN hT
  obtain ⟨hRm, hRp, hRv, hRs, hRf⟩ := id hR
  obtain ⟨m1, m2, m3, m4, m5, m6, m7, m8, m9, m10, m11, m12, m13, m14, m15, m16, m17, m18, m19, m20⟩ := hRm
  obtain ⟨hWp, hWv, hWs, hWk, hWr, hWf⟩ := id hW
  obtain ⟨p0, p1, p2, p3, p4, p5⟩ := hWp
  obtain ⟨v0, v1, v2, v3, v4⟩ := hWv
  obtain ⟨s0, s1, s2, s3⟩ := hWs
  obtain ⟨f0, f1, f2, f3⟩ := hWf
  refine zz_aload_n hX dX5_struck_0 0 rfl rfl ?_
  refine zz_iload_n hX dX5_struck_1 1 rfl rfl ?_
  refine zz_callV hX zf_M_X5_106 (As := [.int s]) (st := []) (K_shotAt S sh mi mr hW hR s) m1 rfl rfl rfl (by decide) (Nat.le_of_ble_eq_true rfl) (Nat.le_of_ble_eq_true rfl) (Nat.le_of_ble_eq_true rfl) dX5_struck_2 ?_ ?_
  rotate_left
  · rintro e9 s9 i9 m9 ⟨x2, rfl, rfl, rfl, rfl⟩ -; exact zz_out hX hT (Nat.le_of_ble_eq_true rfl) (Nat.le_of_ble_eq_true rfl) (by unfold zq_no; skip; exact ⟨Or.inl ⟨rfl, fun h => x2 (h)⟩, rfl, rfl, rfl⟩)
  rintro v9 s9 i9 m9 ⟨i, hi, rfl, rfl, e2, e3, e4⟩ -
  obtain rfl := e2.symm
  obtain rfl := e3.symm
  obtain rfl := e4.symm
  have z_i : zn (nI i) = i := nI_clamp (n := i) (by omega)
  obtain ⟨a1, a2, a3, a4, a5, a6, a7, a8⟩ := zR_sh hW hR hi
  obtain ⟨t1, t2, t3, t4, t5, t6, t7, t8, t9, t10⟩ := a3
  obtain ⟨r1, r2, r3, r4, r5, r6, r7, r8, r9, r10, r11, r12, r13, r14, r15⟩ := t10
  obtain ⟨u1, u2, u3, u4, u5, u6, u7, u8, u9, u10⟩ := hRs i hi
  obtain ⟨b1, b2, b3, b4, b5, b6, b7, b8, b9, b10, b11, b12, b13⟩ := s2 i hi
  refine zz_getR (y := (1000 + 100 * i + 5)) hX zf_F_X5_182 t1 rfl t5 dX5_struck_5 ?_
  refine zz_getI (x := nI (zv_sk S i)) hX zf_F_X5_186.r r1 rfl (a6) dX5_struck_8 ?_
  refine zz_iret hX hr rfl (Nat.le_of_ble_eq_true rfl) (Nat.le_of_ble_eq_true rfl) dX5_struck_11 ?_
  unfold zq_ok
  (try rw [z_i])
  exact ⟨⟨zs_ix_nI hi (by omega), trivial, trivial⟩, rfl, hR, zr_same.rfl'⟩

set_option maxRecDepth 20000 in
theorem P_light (S : zS) (sh : zm_Sh) (mi : zm_Mi) (mr : zm_Mr) (hW : zW S) (hR : zR S sh mi mr)  : zz_Con yX5_light (.code yX5_light cX5_light 1 (some Jvm.ClassFile.FieldType.int)) 10 10 60 [.ref 2] sh mi mr (zq_ok (True) (True) (True) (zp_light S) S sh mi mr) (zq_no (True) (True) (True) sh mi mr) := by
  refine zz_begin RX5 [(0, .ref 2)] (by decide) rfl rfl (Nat.le_of_ble_eq_true rfl) rfl ?_
  intro Γ D E ad hX hr hN hT
  obtain ⟨hRm, hRp, hRv, hRs, hRf⟩ := id hR
  obtain ⟨m1, m2, m3, m4, m5, m6, m7, m8, m9, m10, m11, m12, m13, m14, m15, m16, m17, m18, m19, m20⟩ := hRm
  obtain ⟨hWp, hWv, hWs, hWk, hWr, hWf⟩ := id hW
  obtain ⟨p0, p1, p2, p3, p4, p5⟩ := hWp
  obtain ⟨v0, v1, v2, v3, v4⟩ := hWv
  obtain ⟨s0, s1, s2, s3⟩ := hWs
  obtain ⟨f0, f1, f2, f3⟩ := hWf
  refine zz_aload_n hX dX5_light_0 0 rfl rfl ?_
  refine zz_vI (x := zp_light S) hX zf_M_X5_195 (As := []) (st := []) (K_lampLight S sh mi mr hW hR) m1 rfl rfl rfl (by decide) (Nat.le_of_ble_eq_true rfl) (Nat.le_of_ble_eq_true rfl) (Nat.le_of_ble_eq_true rfl) dX5_light_1 ?_
  refine zz_iret hX hr rfl (Nat.le_of_ble_eq_true rfl) (Nat.le_of_ble_eq_true rfl) dX5_light_4 ?_
  unfold zq_ok
  skip
  exact ⟨⟨trivial, trivial, trivial⟩, rfl, hR, zr_same.rfl'⟩

set_option maxRecDepth 20000 in
theorem P_degree (S : zS) (sh : zm_Sh) (mi : zm_Mi) (mr : zm_Mr) (hW : zW S) (hR : zR S sh mi mr) (s jx fx : Int32) : zz_Con yX5_degree (.code yX5_degree cX5_degree 5 (some Jvm.ClassFile.FieldType.int)) 10 10 60 [.ref 2, .int s, .int jx, .int fx] sh mi mr (zq_ok ((zs_ix s (zv_ns S)) ∧ (zs_ix jx (zv_jn S (zv_pu S (zn s)))) ∧ (zs_ix fx (zv_fr S (zn s)))) (True) (True) (zp_deg S (zn s) (zn jx) (zn fx)) S sh mi mr) (zq_no ((zs_ix s (zv_ns S)) ∧ (zs_ix jx (zv_jn S (zv_pu S (zn s)))) ∧ (zs_ix fx (zv_fr S (zn s)))) (True) (True) sh mi mr) := by
  refine zz_begin RX5 [(0, .ref 2), (1, .int s), (2, .int jx), (3, .int fx)] (by decide) rfl rfl (Nat.le_of_ble_eq_true rfl) rfl ?_
  intro Γ D E ad hX hr hN hT
  obtain ⟨hRm, hRp, hRv, hRs, hRf⟩ := id hR
  obtain ⟨m1, m2, m3, m4, m5, m6, m7, m8, m9, m10, m11, m12, m13, m14, m15, m16, m17, m18, m19, m20⟩ := hRm
  obtain ⟨hWp, hWv, hWs, hWk, hWr, hWf⟩ := id hW
  obtain ⟨p0, p1, p2, p3, p4, p5⟩ := hWp
  obtain ⟨v0, v1, v2, v3, v4⟩ := hWv
  obtain ⟨s0, s1, s2, s3⟩ := hWs
  obtain ⟨f0, f1, f2, f3⟩ := hWf
  refine zz_aload_n hX dX5_degree_0 0 rfl rfl ?_
  refine zz_iload_n hX dX5_degree_1 1 rfl rfl ?_
  refine zz_callV hX zf_M_X5_106 (As := [.int s]) (st := []) (K_shotAt S sh mi mr hW hR s) m1 rfl rfl rfl (by decide) (Nat.le_of_ble_eq_true rfl) (Nat.le_of_ble_eq_true rfl) (Nat.le_of_ble_eq_true rfl) dX5_degree_2 ?_ ?_
  rotate_left
  · rintro e9 s9 i9 m9 ⟨x2, rfl, rfl, rfl, rfl⟩ -; exact zz_out hX hT (Nat.le_of_ble_eq_true rfl) (Nat.le_of_ble_eq_true rfl) (by unfold zq_no; skip; exact ⟨Or.inl ⟨rfl, fun h => x2 (h.1)⟩, rfl, rfl, rfl⟩)
  rintro v9 s9 i9 m9 ⟨i, hi, rfl, rfl, e2, e3, e4⟩ -
  obtain rfl := e2.symm
  obtain rfl := e3.symm
  obtain rfl := e4.symm
  have z_i : zn (nI i) = i := nI_clamp (n := i) (by omega)
  obtain ⟨a1, a2, a3, a4, a5, a6, a7, a8⟩ := zR_sh hW hR hi
  obtain ⟨t1, t2, t3, t4, t5, t6, t7, t8, t9, t10⟩ := a3
  obtain ⟨r1, r2, r3, r4, r5, r6, r7, r8, r9, r10, r11, r12, r13, r14, r15⟩ := t10
  obtain ⟨u1, u2, u3, u4, u5, u6, u7, u8, u9, u10⟩ := hRs i hi
  obtain ⟨b1, b2, b3, b4, b5, b6, b7, b8, b9, b10, b11, b12, b13⟩ := s2 i hi
  refine zz_astore (ls' := [(0, .ref 2), (1, .int (nI i)), (2, .int jx), (3, .int fx), (4, .ref (1000 + 100 * i))]) hX dX5_degree_5 (Nat.le_of_ble_eq_true rfl) rfl ?_
  refine zz_aload hX dX5_degree_7 4 rfl ?_
  refine zz_getR (y := (200 + 4 * zv_pu S i)) hX zf_F_X5_134 t1 rfl t2 dX5_degree_9 ?_
  refine zz_iload_n hX dX5_degree_12 2 rfl rfl ?_
  refine zz_sC hX zf_M_X5_138 (As := [.ref (200 + 4 * zv_pu S i), .int jx]) (st := []) (K_needJoint S sh mi mr hW hR (zv_pu S i) b2 jx) rfl rfl (by decide) (Nat.le_of_ble_eq_true rfl) (Nat.le_of_ble_eq_true rfl) (Nat.le_of_ble_eq_true rfl) dX5_degree_13 (fun p13 => ?_) (fun x13 => zz_out hX hT (Nat.le_of_ble_eq_true rfl) (Nat.le_of_ble_eq_true rfl) (by unfold zq_no; (try rw [z_i]); exact ⟨Or.inl ⟨rfl, fun h => x13 (h.2.1)⟩, rfl, rfl, rfl⟩))
  obtain ⟨j, hj, rfl⟩ := zs_ix_of p13 (by omega)
  have z_j : zn (nI j) = j := nI_clamp (n := j) (by omega)
  refine zz_aload hX dX5_degree_16 4 rfl ?_
  refine zz_iload_n hX dX5_degree_18 3 rfl rfl ?_
  refine zz_sC hX zf_M_X5_142 (As := [.ref (1000 + 100 * i), .int fx]) (st := []) (K_needFrame S sh mi mr hW hR i hi fx) rfl rfl (by decide) (Nat.le_of_ble_eq_true rfl) (Nat.le_of_ble_eq_true rfl) (Nat.le_of_ble_eq_true rfl) dX5_degree_19 (fun p19 => ?_) (fun x19 => zz_out hX hT (Nat.le_of_ble_eq_true rfl) (Nat.le_of_ble_eq_true rfl) (by unfold zq_no; (try rw [z_i]); (try rw [z_j]); exact ⟨Or.inl ⟨rfl, fun h => x19 (h.2.2)⟩, rfl, rfl, rfl⟩))
  obtain ⟨f, hf, rfl⟩ := zs_ix_of p19 (by omega)
  have z_f : zn (nI f) = f := nI_clamp (n := f) (by omega)
  refine zz_aload hX dX5_degree_22 4 rfl ?_
  refine zz_iload_n hX dX5_degree_24 2 rfl rfl ?_
  refine zz_iload_n hX dX5_degree_25 3 rfl rfl ?_
  refine zz_vI (x := zp_deg S i j f) hX zf_M_X5_154 (As := [.int (nI j), .int (nI f)]) (st := []) (K_sheetDegree S sh mi mr hW hR i hi j hj f (by omega)) t1 rfl rfl rfl (by decide) (Nat.le_of_ble_eq_true rfl) (Nat.le_of_ble_eq_true rfl) (Nat.le_of_ble_eq_true rfl) dX5_degree_26 ?_
  refine zz_iret hX hr rfl (Nat.le_of_ble_eq_true rfl) (Nat.le_of_ble_eq_true rfl) dX5_degree_29 ?_
  unfold zq_ok
  (try rw [z_i]); (try rw [z_j]); (try rw [z_f])
  exact ⟨⟨⟨zs_ix_nI hi (by omega), zs_ix_nI hj (by omega), zs_ix_nI hf (by omega)⟩, trivial, trivial⟩, rfl, hR, zr_same.rfl'⟩

set_option maxRecDepth 20000 in
theorem P_mouth (S : zS) (sh : zm_Sh) (mi : zm_Mi) (mr : zm_Mr) (hW : zW S) (hR : zR S sh mi mr) (s fx : Int32) : zz_Con yX5_mouth (.code yX5_mouth cX5_mouth 4 (some Jvm.ClassFile.FieldType.int)) 10 10 60 [.ref 2, .int s, .int fx] sh mi mr (zq_ok ((zs_ix s (zv_ns S)) ∧ (zs_ix fx (zv_fr S (zn s)))) (True) (True) (zp_mouth S (zn s) (zn fx)) S sh mi mr) (zq_no ((zs_ix s (zv_ns S)) ∧ (zs_ix fx (zv_fr S (zn s)))) (True) (True) sh mi mr) := by
  refine zz_begin RX5 [(0, .ref 2), (1, .int s), (2, .int fx)] (by decide) rfl rfl (Nat.le_of_ble_eq_true rfl) rfl ?_
  intro Γ D E ad hX hr hN hT
  obtain ⟨hRm, hRp, hRv, hRs, hRf⟩ := id hR
  obtain ⟨m1, m2, m3, m4, m5, m6, m7, m8, m9, m10, m11, m12, m13, m14, m15, m16, m17, m18, m19, m20⟩ := hRm
  obtain ⟨hWp, hWv, hWs, hWk, hWr, hWf⟩ := id hW
  obtain ⟨p0, p1, p2, p3, p4, p5⟩ := hWp
  obtain ⟨v0, v1, v2, v3, v4⟩ := hWv
  obtain ⟨s0, s1, s2, s3⟩ := hWs
  obtain ⟨f0, f1, f2, f3⟩ := hWf
  refine zz_aload_n hX dX5_mouth_0 0 rfl rfl ?_
  refine zz_iload_n hX dX5_mouth_1 1 rfl rfl ?_
  refine zz_callV hX zf_M_X5_106 (As := [.int s]) (st := []) (K_shotAt S sh mi mr hW hR s) m1 rfl rfl rfl (by decide) (Nat.le_of_ble_eq_true rfl) (Nat.le_of_ble_eq_true rfl) (Nat.le_of_ble_eq_true rfl) dX5_mouth_2 ?_ ?_
  rotate_left
  · rintro e9 s9 i9 m9 ⟨x2, rfl, rfl, rfl, rfl⟩ -; exact zz_out hX hT (Nat.le_of_ble_eq_true rfl) (Nat.le_of_ble_eq_true rfl) (by unfold zq_no; skip; exact ⟨Or.inl ⟨rfl, fun h => x2 (h.1)⟩, rfl, rfl, rfl⟩)
  rintro v9 s9 i9 m9 ⟨i, hi, rfl, rfl, e2, e3, e4⟩ -
  obtain rfl := e2.symm
  obtain rfl := e3.symm
  obtain rfl := e4.symm
  have z_i : zn (nI i) = i := nI_clamp (n := i) (by omega)
  obtain ⟨a1, a2, a3, a4, a5, a6, a7, a8⟩ := zR_sh hW hR hi
  obtain ⟨t1, t2, t3, t4, t5, t6, t7, t8, t9, t10⟩ := a3
  obtain ⟨r1, r2, r3, r4, r5, r6, r7, r8, r9, r10, r11, r12, r13, r14, r15⟩ := t10
  obtain ⟨u1, u2, u3, u4, u5, u6, u7, u8, u9, u10⟩ := hRs i hi
  obtain ⟨b1, b2, b3, b4, b5, b6, b7, b8, b9, b10, b11, b12, b13⟩ := s2 i hi
  refine zz_astore_n (ls' := [(0, .ref 2), (1, .int (nI i)), (2, .int fx), (3, .ref (1000 + 100 * i))]) hX dX5_mouth_5 rfl (Nat.le_of_ble_eq_true rfl) rfl ?_
  refine zz_aload_n hX dX5_mouth_6 3 rfl rfl ?_
  refine zz_iload_n hX dX5_mouth_7 2 rfl rfl ?_
  refine zz_sC hX zf_M_X5_142 (As := [.ref (1000 + 100 * i), .int fx]) (st := []) (K_needFrame S sh mi mr hW hR i hi fx) rfl rfl (by decide) (Nat.le_of_ble_eq_true rfl) (Nat.le_of_ble_eq_true rfl) (Nat.le_of_ble_eq_true rfl) dX5_mouth_8 (fun p8 => ?_) (fun x8 => zz_out hX hT (Nat.le_of_ble_eq_true rfl) (Nat.le_of_ble_eq_true rfl) (by unfold zq_no; (try rw [z_i]); exact ⟨Or.inl ⟨rfl, fun h => x8 (h.2)⟩, rfl, rfl, rfl⟩))
  obtain ⟨f, hf, rfl⟩ := zs_ix_of p8 (by omega)
  have z_f : zn (nI f) = f := nI_clamp (n := f) (by omega)
  refine zz_aload_n hX dX5_mouth_11 0 rfl rfl ?_
  refine zz_aload_n hX dX5_mouth_12 3 rfl rfl ?_
  refine zz_iload_n hX dX5_mouth_13 2 rfl rfl ?_
  refine zz_vI (x := zp_mouth S i f) hX zf_M_X5_231 (As := [.ref (1000 + 100 * i), .int (nI f)]) (st := []) (K_sheetMouth S sh mi mr hW hR i hi f (by omega)) m1 rfl rfl rfl (by decide) (Nat.le_of_ble_eq_true rfl) (Nat.le_of_ble_eq_true rfl) (Nat.le_of_ble_eq_true rfl) dX5_mouth_14 ?_
  refine zz_iret hX hr rfl (Nat.le_of_ble_eq_true rfl) (Nat.le_of_ble_eq_true rfl) dX5_mouth_17 ?_
  unfold zq_ok
  (try rw [z_i]); (try rw [z_f])
  exact ⟨⟨⟨zs_ix_nI hi (by omega), zs_ix_nI hf (by omega)⟩, trivial, trivial⟩, rfl, hR, zr_same.rfl'⟩

set_option maxRecDepth 20000 in
theorem P_place (S : zS) (sh : zm_Sh) (mi : zm_Mi) (mr : zm_Mr) (hW : zW S) (hR : zR S sh mi mr) (s fx : Int32) : zz_Con yX5_place (.code yX5_place cX5_place 4 (some Jvm.ClassFile.FieldType.int)) 10 10 60 [.ref 2, .int s, .int fx] sh mi mr (zq_ok ((zs_ix s (zv_ns S)) ∧ (zs_ix fx (zv_fr S (zn s)))) (True) (True) (zp_place S (zn s) (zn fx)) S sh mi mr) (zq_no ((zs_ix s (zv_ns S)) ∧ (zs_ix fx (zv_fr S (zn s)))) (True) (True) sh mi mr) := by
  refine zz_begin RX5 [(0, .ref 2), (1, .int s), (2, .int fx)] (by decide) rfl rfl (Nat.le_of_ble_eq_true rfl) rfl ?_
  intro Γ D E ad hX hr hN hT
  obtain ⟨hRm, hRp, hRv, hRs, hRf⟩ := id hR
  obtain ⟨m1, m2, m3, m4, m5, m6, m7, m8, m9, m10, m11, m12, m13, m14, m15, m16, m17, m18, m19, m20⟩ := hRm
  obtain ⟨hWp, hWv, hWs, hWk, hWr, hWf⟩ := id hW
  obtain ⟨p0, p1, p2, p3, p4, p5⟩ := hWp
  obtain ⟨v0, v1, v2, v3, v4⟩ := hWv
  obtain ⟨s0, s1, s2, s3⟩ := hWs
  obtain ⟨f0, f1, f2, f3⟩ := hWf
  refine zz_aload_n hX dX5_place_0 0 rfl rfl ?_
  refine zz_iload_n hX dX5_place_1 1 rfl rfl ?_
  refine zz_callV hX zf_M_X5_106 (As := [.int s]) (st := []) (K_shotAt S sh mi mr hW hR s) m1 rfl rfl rfl (by decide) (Nat.le_of_ble_eq_true rfl) (Nat.le_of_ble_eq_true rfl) (Nat.le_of_ble_eq_true rfl) dX5_place_2 ?_ ?_
  rotate_left
  · rintro e9 s9 i9 m9 ⟨x2, rfl, rfl, rfl, rfl⟩ -; exact zz_out hX hT (Nat.le_of_ble_eq_true rfl) (Nat.le_of_ble_eq_true rfl) (by unfold zq_no; skip; exact ⟨Or.inl ⟨rfl, fun h => x2 (h.1)⟩, rfl, rfl, rfl⟩)
  rintro v9 s9 i9 m9 ⟨i, hi, rfl, rfl, e2, e3, e4⟩ -
  obtain rfl := e2.symm
  obtain rfl := e3.symm
  obtain rfl := e4.symm
  have z_i : zn (nI i) = i := nI_clamp (n := i) (by omega)
  obtain ⟨a1, a2, a3, a4, a5, a6, a7, a8⟩ := zR_sh hW hR hi
  obtain ⟨t1, t2, t3, t4, t5, t6, t7, t8, t9, t10⟩ := a3
  obtain ⟨r1, r2, r3, r4, r5, r6, r7, r8, r9, r10, r11, r12, r13, r14, r15⟩ := t10
  obtain ⟨u1, u2, u3, u4, u5, u6, u7, u8, u9, u10⟩ := hRs i hi
  obtain ⟨b1, b2, b3, b4, b5, b6, b7, b8, b9, b10, b11, b12, b13⟩ := s2 i hi
  refine zz_astore_n (ls' := [(0, .ref 2), (1, .int (nI i)), (2, .int fx), (3, .ref (1000 + 100 * i))]) hX dX5_place_5 rfl (Nat.le_of_ble_eq_true rfl) rfl ?_
  refine zz_aload_n hX dX5_place_6 3 rfl rfl ?_
  refine zz_iload_n hX dX5_place_7 2 rfl rfl ?_
  refine zz_sC hX zf_M_X5_142 (As := [.ref (1000 + 100 * i), .int fx]) (st := []) (K_needFrame S sh mi mr hW hR i hi fx) rfl rfl (by decide) (Nat.le_of_ble_eq_true rfl) (Nat.le_of_ble_eq_true rfl) (Nat.le_of_ble_eq_true rfl) dX5_place_8 (fun p8 => ?_) (fun x8 => zz_out hX hT (Nat.le_of_ble_eq_true rfl) (Nat.le_of_ble_eq_true rfl) (by unfold zq_no; (try rw [z_i]); exact ⟨Or.inl ⟨rfl, fun h => x8 (h.2)⟩, rfl, rfl, rfl⟩))
  obtain ⟨f, hf, rfl⟩ := zs_ix_of p8 (by omega)
  have z_f : zn (nI f) = f := nI_clamp (n := f) (by omega)
  refine zz_aload_n hX dX5_place_11 3 rfl rfl ?_
  refine zz_getR (y := (1000 + 100 * i + 2)) hX zf_F_X5_167 t1 rfl t4 dX5_place_12 ?_
  refine zz_iload_n hX dX5_place_15 2 rfl rfl ?_
  refine zz_vI (x := zp_place S i f) hX zf_M_X5_171 (As := [.int (nI f)]) (st := []) (K_placeAt S sh mi mr hW hR i hi f (by omega)) t9.1 rfl rfl rfl (by decide) (Nat.le_of_ble_eq_true rfl) (Nat.le_of_ble_eq_true rfl) (Nat.le_of_ble_eq_true rfl) dX5_place_16 ?_
  refine zz_iret hX hr rfl (Nat.le_of_ble_eq_true rfl) (Nat.le_of_ble_eq_true rfl) dX5_place_19 ?_
  unfold zq_ok
  (try rw [z_i]); (try rw [z_f])
  exact ⟨⟨⟨zs_ix_nI hi (by omega), zs_ix_nI hf (by omega)⟩, trivial, trivial⟩, rfl, hR, zr_same.rfl'⟩

set_option maxRecDepth 20000 in
theorem P_mouths (S : zS) (sh : zm_Sh) (mi : zm_Mi) (mr : zm_Mr) (hW : zW S) (hR : zR S sh mi mr) (px s n : Int32) : zz_Con yX5_mouths (.code yX5_mouths cX5_mouths 5 (some Jvm.ClassFile.FieldType.int)) 10 10 60 [.ref 2, .int px, .int s, .int n] sh mi mr (zq_ok ((zs_ix px (zv_np S))) ((nI 0 ≤ s ∧ s ≤ nI 9) ∧ (nI 1 ≤ n ∧ n ≤ nI 9)) ((S 4 (10 * zn px + zn s) + n ≤ nI 9)) (S 4 (10 * zn px + zn s) + n) (zm_u2 S 4 (10 * zn px + zn s) (S 4 (10 * zn px + zn s) + n)) sh mi mr) (zq_no ((zs_ix px (zv_np S))) ((nI 0 ≤ s ∧ s ≤ nI 9) ∧ (nI 1 ≤ n ∧ n ≤ nI 9)) ((S 4 (10 * zn px + zn s) + n ≤ nI 9)) sh mi mr) := by
  refine zz_begin RX5 [(0, .ref 2), (1, .int px), (2, .int s), (3, .int n)] (by decide) rfl rfl (Nat.le_of_ble_eq_true rfl) rfl ?_
  intro Γ D E ad hX hr hN hT
  obtain ⟨hRm, hRp, hRv, hRs, hRf⟩ := id hR
  obtain ⟨m1, m2, m3, m4, m5, m6, m7, m8, m9, m10, m11, m12, m13, m14, m15, m16, m17, m18, m19, m20⟩ := hRm
  obtain ⟨hWp, hWv, hWs, hWk, hWr, hWf⟩ := id hW
  obtain ⟨p0, p1, p2, p3, p4, p5⟩ := hWp
  obtain ⟨v0, v1, v2, v3, v4⟩ := hWv
  obtain ⟨s0, s1, s2, s3⟩ := hWs
  obtain ⟨f0, f1, f2, f3⟩ := hWf
  refine zz_aload_n hX dX5_mouths_0 0 rfl rfl ?_
  refine zz_iload_n hX dX5_mouths_1 1 rfl rfl ?_
  refine zz_callV hX zf_M_X5_73 (As := [.int px]) (st := []) (K_puppetAt S sh mi mr hW hR px) m1 rfl rfl rfl (by decide) (Nat.le_of_ble_eq_true rfl) (Nat.le_of_ble_eq_true rfl) (Nat.le_of_ble_eq_true rfl) dX5_mouths_2 ?_ ?_
  rotate_left
  · rintro e9 s9 i9 m9 ⟨x2, rfl, rfl, rfl, rfl⟩ -; exact zz_out hX hT (Nat.le_of_ble_eq_true rfl) (Nat.le_of_ble_eq_true rfl) (by unfold zq_no; skip; exact ⟨Or.inl ⟨rfl, fun h => x2 (h)⟩, rfl, rfl, rfl⟩)
  rintro v9 s9 i9 m9 ⟨p, hp, rfl, rfl, e2, e3, e4⟩ -
  obtain rfl := e2.symm
  obtain rfl := e3.symm
  obtain rfl := e4.symm
  have z_p : zn (nI p) = p := nI_clamp (n := p) (by omega)
  obtain ⟨e1, e2, e3, e4, e5, e6⟩ := hRp p hp
  obtain ⟨g1, g2, g3, g4, g5, g6, g7⟩ := e2
  obtain ⟨h1, h2, h3⟩ := p2 p hp
  refine zz_astore (ls' := [(0, .ref 2), (1, .int (nI p)), (2, .int s), (3, .int n), (4, .ref (200 + 4 * p))]) hX dX5_mouths_5 (Nat.le_of_ble_eq_true rfl) rfl ?_
  refine zz_iload_n hX dX5_mouths_7 2 rfl rfl ?_
  refine zz_sC hX zf_M_X5_77 (As := [.int s]) (st := []) (k_needSound s sh mi mr) rfl rfl (by decide) (Nat.le_of_ble_eq_true rfl) (Nat.le_of_ble_eq_true rfl) (Nat.le_of_ble_eq_true rfl) dX5_mouths_8 (fun p8 => ?_) (fun x8 => zz_out hX hT (Nat.le_of_ble_eq_true rfl) (Nat.le_of_ble_eq_true rfl) (by unfold zq_no; (try rw [z_p]); exact ⟨Or.inr (Or.inl ⟨rfl, zs_ix_nI hp (by omega), fun h => x8 (h.1)⟩), rfl, rfl, rfl⟩))
  obtain ⟨t, ht, rfl⟩ := zs_ix_of (zs_rng_of p8 (by omega)) (by omega)
  have z_t : zn (nI t) = t := nI_clamp (n := t) (by omega)
  refine zz_iload_n hX dX5_mouths_11 3 rfl rfl ?_
  refine zz_iconst (v := nI 1) hX dX5_mouths_12 rfl ?_
  refine zz_bipush (v := nI 9) hX dX5_mouths_13 rfl ?_
  refine zz_sC hX zf_M_X5_59 (As := [.int n, .int (nI 1), .int (nI 9)]) (st := []) (k_needRange n (nI 1) (nI 9) sh mi mr) rfl rfl (by decide) (Nat.le_of_ble_eq_true rfl) (Nat.le_of_ble_eq_true rfl) (Nat.le_of_ble_eq_true rfl) dX5_mouths_15 (fun p15 => ?_) (fun x15 => zz_out hX hT (Nat.le_of_ble_eq_true rfl) (Nat.le_of_ble_eq_true rfl) (by unfold zq_no; (try rw [z_p]); (try rw [z_t]); exact ⟨Or.inr (Or.inl ⟨rfl, zs_ix_nI hp (by omega), fun h => x15 (h.2)⟩), rfl, rfl, rfl⟩))
  refine zz_aload hX dX5_mouths_18 4 rfl ?_
  refine zz_getR (y := (200 + 4 * p + 3)) hX zf_F_X5_80 g1 rfl g4 dX5_mouths_20 ?_
  refine zz_iload_n hX dX5_mouths_23 2 rfl rfl ?_
  refine zz_iald (x := S 4 (10 * p + t)) hX g7 t rfl (by omega) (by decide) ((e6 t (by omega))) dX5_mouths_24 ?_
  refine zz_iload_n hX dX5_mouths_25 3 rfl rfl ?_
  refine zz_iadd (z := (S 4 (10 * p + t)) + n) hX dX5_mouths_26 rfl ?_
  refine zz_bipush (v := nI 9) hX dX5_mouths_27 rfl ?_
  refine zz_icmp_le hX 42 dX5_mouths_29 (by decide) (fun c29 => ?_) (fun c29 => ?_)
  · skip
    refine zz_aload hX dX5_mouths_42 4 rfl ?_
    refine zz_getR (y := (200 + 4 * p + 3)) hX zf_F_X5_80 g1 rfl g4 dX5_mouths_44 ?_
    refine zz_iload_n hX dX5_mouths_47 2 rfl rfl ?_
    refine zz_dup2 hX dX5_mouths_48 rfl rfl ?_
    refine zz_iald (x := S 4 (10 * p + t)) hX g7 t rfl (by omega) (by decide) ((e6 t (by omega))) dX5_mouths_49 ?_
    refine zz_iload_n hX dX5_mouths_50 3 rfl rfl ?_
    refine zz_iadd (z := (S 4 (10 * p + t)) + n) hX dX5_mouths_51 rfl ?_
    refine zz_iast hX g7 t rfl (by omega) (by decide) dX5_mouths_52 ?_
    refine zz_aload hX dX5_mouths_53 4 rfl ?_
    refine zz_getR (y := (200 + 4 * p + 3)) hX zf_F_X5_80 g1 rfl g4 dX5_mouths_55 ?_
    refine zz_iload_n hX dX5_mouths_58 2 rfl rfl ?_
    refine zz_iald (x := (S 4 (10 * p + t)) + n) hX g7 t rfl (by omega) (by decide) (zm_u2s) dX5_mouths_59 ?_
    refine zz_iret hX hr rfl (Nat.le_of_ble_eq_true rfl) (Nat.le_of_ble_eq_true rfl) dX5_mouths_60 ?_
    unfold zq_ok
    (try rw [z_p]); (try rw [z_t])
    exact ⟨⟨zs_ix_nI hp (by omega), ⟨zs_rng_nI ht (by omega), p15⟩, c29⟩, rfl, (zR_set hW hR (Or.inr (Or.inl ⟨p, hp, by omega⟩)) (by unfold zs_str; omega)), (zr_fr zr_same.rfl' (by unfold zr_out; omega))⟩
  · skip
    refine zz_throw hX hT zf_T_X5_83 dX5_mouths_32 dX5_mouths_35 dX5_mouths_36 dX5_mouths_38 dX5_mouths_41 (by decide) (Nat.le_of_ble_eq_true rfl) (Nat.le_of_ble_eq_true rfl) (Nat.le_of_ble_eq_true rfl) ?_
    unfold zq_no; (try rw [z_p]); (try rw [z_t]); exact ⟨Or.inr (Or.inr ⟨rfl, zs_ix_nI hp (by omega), ⟨zs_rng_nI ht (by omega), p15⟩, fun h => c29 h⟩), rfl, rfl, rfl⟩

set_option maxRecDepth 20000 in
theorem P_left (S : zS) (sh : zm_Sh) (mi : zm_Mi) (mr : zm_Mr) (hW : zW S) (hR : zR S sh mi mr) (px s : Int32) : zz_Con yX5_left (.code yX5_left cX5_left 4 (some Jvm.ClassFile.FieldType.int)) 10 10 60 [.ref 2, .int px, .int s] sh mi mr (zq_ok ((zs_ix px (zv_np S))) ((nI 0 ≤ s ∧ s ≤ nI 9)) (True) (S 4 (10 * zn px + zn s)) S sh mi mr) (zq_no ((zs_ix px (zv_np S))) ((nI 0 ≤ s ∧ s ≤ nI 9)) (True) sh mi mr) := by
  refine zz_begin RX5 [(0, .ref 2), (1, .int px), (2, .int s)] (by decide) rfl rfl (Nat.le_of_ble_eq_true rfl) rfl ?_
  intro Γ D E ad hX hr hN hT
  obtain ⟨hRm, hRp, hRv, hRs, hRf⟩ := id hR
  obtain ⟨m1, m2, m3, m4, m5, m6, m7, m8, m9, m10, m11, m12, m13, m14, m15, m16, m17, m18, m19, m20⟩ := hRm
  obtain ⟨hWp, hWv, hWs, hWk, hWr, hWf⟩ := id hW
  obtain ⟨p0, p1, p2, p3, p4, p5⟩ := hWp
  obtain ⟨v0, v1, v2, v3, v4⟩ := hWv
  obtain ⟨s0, s1, s2, s3⟩ := hWs
  obtain ⟨f0, f1, f2, f3⟩ := hWf
  refine zz_aload_n hX dX5_left_0 0 rfl rfl ?_
  refine zz_iload_n hX dX5_left_1 1 rfl rfl ?_
  refine zz_callV hX zf_M_X5_73 (As := [.int px]) (st := []) (K_puppetAt S sh mi mr hW hR px) m1 rfl rfl rfl (by decide) (Nat.le_of_ble_eq_true rfl) (Nat.le_of_ble_eq_true rfl) (Nat.le_of_ble_eq_true rfl) dX5_left_2 ?_ ?_
  rotate_left
  · rintro e9 s9 i9 m9 ⟨x2, rfl, rfl, rfl, rfl⟩ -; exact zz_out hX hT (Nat.le_of_ble_eq_true rfl) (Nat.le_of_ble_eq_true rfl) (by unfold zq_no; skip; exact ⟨Or.inl ⟨rfl, fun h => x2 (h)⟩, rfl, rfl, rfl⟩)
  rintro v9 s9 i9 m9 ⟨p, hp, rfl, rfl, e2, e3, e4⟩ -
  obtain rfl := e2.symm
  obtain rfl := e3.symm
  obtain rfl := e4.symm
  have z_p : zn (nI p) = p := nI_clamp (n := p) (by omega)
  obtain ⟨e1, e2, e3, e4, e5, e6⟩ := hRp p hp
  obtain ⟨g1, g2, g3, g4, g5, g6, g7⟩ := e2
  obtain ⟨h1, h2, h3⟩ := p2 p hp
  refine zz_astore_n (ls' := [(0, .ref 2), (1, .int (nI p)), (2, .int s), (3, .ref (200 + 4 * p))]) hX dX5_left_5 rfl (Nat.le_of_ble_eq_true rfl) rfl ?_
  refine zz_iload_n hX dX5_left_6 2 rfl rfl ?_
  refine zz_sC hX zf_M_X5_77 (As := [.int s]) (st := []) (k_needSound s sh mi mr) rfl rfl (by decide) (Nat.le_of_ble_eq_true rfl) (Nat.le_of_ble_eq_true rfl) (Nat.le_of_ble_eq_true rfl) dX5_left_7 (fun p7 => ?_) (fun x7 => zz_out hX hT (Nat.le_of_ble_eq_true rfl) (Nat.le_of_ble_eq_true rfl) (by unfold zq_no; (try rw [z_p]); exact ⟨Or.inr (Or.inl ⟨rfl, zs_ix_nI hp (by omega), fun h => x7 (h)⟩), rfl, rfl, rfl⟩))
  obtain ⟨t, ht, rfl⟩ := zs_ix_of (zs_rng_of p7 (by omega)) (by omega)
  have z_t : zn (nI t) = t := nI_clamp (n := t) (by omega)
  refine zz_aload_n hX dX5_left_10 3 rfl rfl ?_
  refine zz_getR (y := (200 + 4 * p + 3)) hX zf_F_X5_80 g1 rfl g4 dX5_left_11 ?_
  refine zz_iload_n hX dX5_left_14 2 rfl rfl ?_
  refine zz_iald (x := S 4 (10 * p + t)) hX g7 t rfl (by omega) (by decide) ((e6 t (by omega))) dX5_left_15 ?_
  refine zz_iret hX hr rfl (Nat.le_of_ble_eq_true rfl) (Nat.le_of_ble_eq_true rfl) dX5_left_16 ?_
  unfold zq_ok
  (try rw [z_p]); (try rw [z_t])
  exact ⟨⟨zs_ix_nI hp (by omega), zs_rng_nI ht (by omega), trivial⟩, rfl, hR, zr_same.rfl'⟩

set_option maxRecDepth 20000 in
theorem P_ofJoint (S : zS) (sh : zm_Sh) (mi : zm_Mi) (mr : zm_Mr) (hW : zW S) (hR : zR S sh mi mr) (px jx x : Int32) : zz_Con yX5_ofJoint (.code yX5_ofJoint cX5_ofJoint 5 (some Jvm.ClassFile.FieldType.int)) 10 10 60 [.ref 2, .int px, .int jx, .int x] sh mi mr (zq_ok ((zs_ix px (zv_np S)) ∧ (zs_ix jx (zv_jn S (zn px)))) ((nI 0 ≤ x ∧ x ≤ nI 1)) (True) (if x = 0 then S 2 (6 * zn px + zn jx) else S 3 (6 * zn px + zn jx)) S sh mi mr) (zq_no ((zs_ix px (zv_np S)) ∧ (zs_ix jx (zv_jn S (zn px)))) ((nI 0 ≤ x ∧ x ≤ nI 1)) (True) sh mi mr) := by
  refine zz_begin RX5 [(0, .ref 2), (1, .int px), (2, .int jx), (3, .int x)] (by decide) rfl rfl (Nat.le_of_ble_eq_true rfl) rfl ?_
  intro Γ D E ad hX hr hN hT
  obtain ⟨hRm, hRp, hRv, hRs, hRf⟩ := id hR
  obtain ⟨m1, m2, m3, m4, m5, m6, m7, m8, m9, m10, m11, m12, m13, m14, m15, m16, m17, m18, m19, m20⟩ := hRm
  obtain ⟨hWp, hWv, hWs, hWk, hWr, hWf⟩ := id hW
  obtain ⟨p0, p1, p2, p3, p4, p5⟩ := hWp
  obtain ⟨v0, v1, v2, v3, v4⟩ := hWv
  obtain ⟨s0, s1, s2, s3⟩ := hWs
  obtain ⟨f0, f1, f2, f3⟩ := hWf
  refine zz_aload_n hX dX5_ofJoint_0 0 rfl rfl ?_
  refine zz_iload_n hX dX5_ofJoint_1 1 rfl rfl ?_
  refine zz_callV hX zf_M_X5_73 (As := [.int px]) (st := []) (K_puppetAt S sh mi mr hW hR px) m1 rfl rfl rfl (by decide) (Nat.le_of_ble_eq_true rfl) (Nat.le_of_ble_eq_true rfl) (Nat.le_of_ble_eq_true rfl) dX5_ofJoint_2 ?_ ?_
  rotate_left
  · rintro e9 s9 i9 m9 ⟨x2, rfl, rfl, rfl, rfl⟩ -; exact zz_out hX hT (Nat.le_of_ble_eq_true rfl) (Nat.le_of_ble_eq_true rfl) (by unfold zq_no; skip; exact ⟨Or.inl ⟨rfl, fun h => x2 (h.1)⟩, rfl, rfl, rfl⟩)
  rintro v9 s9 i9 m9 ⟨p, hp, rfl, rfl, e2, e3, e4⟩ -
  obtain rfl := e2.symm
  obtain rfl := e3.symm
  obtain rfl := e4.symm
  have z_p : zn (nI p) = p := nI_clamp (n := p) (by omega)
  obtain ⟨e1, e2, e3, e4, e5, e6⟩ := hRp p hp
  obtain ⟨g1, g2, g3, g4, g5, g6, g7⟩ := e2
  obtain ⟨h1, h2, h3⟩ := p2 p hp
  refine zz_astore (ls' := [(0, .ref 2), (1, .int (nI p)), (2, .int jx), (3, .int x), (4, .ref (200 + 4 * p))]) hX dX5_ofJoint_5 (Nat.le_of_ble_eq_true rfl) rfl ?_
  refine zz_aload hX dX5_ofJoint_7 4 rfl ?_
  refine zz_iload_n hX dX5_ofJoint_9 2 rfl rfl ?_
  refine zz_sC hX zf_M_X5_138 (As := [.ref (200 + 4 * p), .int jx]) (st := []) (K_needJoint S sh mi mr hW hR p hp jx) rfl rfl (by decide) (Nat.le_of_ble_eq_true rfl) (Nat.le_of_ble_eq_true rfl) (Nat.le_of_ble_eq_true rfl) dX5_ofJoint_10 (fun p10 => ?_) (fun x10 => zz_out hX hT (Nat.le_of_ble_eq_true rfl) (Nat.le_of_ble_eq_true rfl) (by unfold zq_no; (try rw [z_p]); exact ⟨Or.inl ⟨rfl, fun h => x10 (h.2)⟩, rfl, rfl, rfl⟩))
  obtain ⟨j, hj, rfl⟩ := zs_ix_of p10 (by omega)
  have z_j : zn (nI j) = j := nI_clamp (n := j) (by omega)
  refine zz_iload_n hX dX5_ofJoint_13 3 rfl rfl ?_
  refine zz_iconst (v := nI 0) hX dX5_ofJoint_14 rfl ?_
  refine zz_iconst (v := nI 1) hX dX5_ofJoint_15 rfl ?_
  refine zz_sC hX zf_M_X5_59 (As := [.int x, .int (nI 0), .int (nI 1)]) (st := []) (k_needRange x (nI 0) (nI 1) sh mi mr) rfl rfl (by decide) (Nat.le_of_ble_eq_true rfl) (Nat.le_of_ble_eq_true rfl) (Nat.le_of_ble_eq_true rfl) dX5_ofJoint_16 (fun p16 => ?_) (fun x16 => zz_out hX hT (Nat.le_of_ble_eq_true rfl) (Nat.le_of_ble_eq_true rfl) (by unfold zq_no; (try rw [z_p]); (try rw [z_j]); exact ⟨Or.inr (Or.inl ⟨rfl, ⟨zs_ix_nI hp (by omega), zs_ix_nI hj (by omega)⟩, fun h => x16 (h)⟩), rfl, rfl, rfl⟩))
  refine zz_iload_n hX dX5_ofJoint_19 3 rfl rfl ?_
  refine zz_if_ne hX 33 dX5_ofJoint_20 (by decide) (fun c20 => ?_) (fun c20 => ?_)
  · skip
    refine zz_aload hX dX5_ofJoint_33 4 rfl ?_
    refine zz_getR (y := (200 + 4 * p + 2)) hX zf_F_X5_218 g1 rfl g3 dX5_ofJoint_35 ?_
    refine zz_iload_n hX dX5_ofJoint_38 2 rfl rfl ?_
    refine zz_iald (x := S 3 (6 * p + j)) hX g6 j rfl (by omega) (by omega) ((e5 j (by omega))) dX5_ofJoint_39 ?_
    refine zz_iret hX hr rfl (Nat.le_of_ble_eq_true rfl) (Nat.le_of_ble_eq_true rfl) dX5_ofJoint_40 ?_
    unfold zq_ok
    (try rw [z_p]); (try rw [z_j])
    exact ⟨⟨⟨zs_ix_nI hp (by omega), zs_ix_nI hj (by omega)⟩, p16, trivial⟩, by rw [if_neg c20], hR, zr_same.rfl'⟩
  · skip
    refine zz_aload hX dX5_ofJoint_23 4 rfl ?_
    refine zz_getR (y := (200 + 4 * p + 1)) hX zf_F_X5_238 g1 rfl g2 dX5_ofJoint_25 ?_
    refine zz_iload_n hX dX5_ofJoint_28 2 rfl rfl ?_
    refine zz_iald (x := S 2 (6 * p + j)) hX g5 j rfl (by omega) (by omega) ((e4 j (by omega))) dX5_ofJoint_29 ?_
    refine zz_goto hX 40 dX5_ofJoint_30 (by decide) ?_
    refine zz_iret hX hr rfl (Nat.le_of_ble_eq_true rfl) (Nat.le_of_ble_eq_true rfl) dX5_ofJoint_40 ?_
    unfold zq_ok
    (try rw [z_p]); (try rw [z_j])
    exact ⟨⟨⟨zs_ix_nI hp (by omega), zs_ix_nI hj (by omega)⟩, p16, trivial⟩, by rw [if_pos c20], hR, zr_same.rfl'⟩

set_option maxRecDepth 20000 in
theorem P_mend (S : zS) (sh : zm_Sh) (mi : zm_Mi) (mr : zm_Mr) (hW : zW S) (hR : zR S sh mi mr) (px jx : Int32) : zz_Con yX5_mend (.code yX5_mend cX5_mend 5 (some Jvm.ClassFile.FieldType.int)) 10 10 60 [.ref 2, .int px, .int jx] sh mi mr (zq_ok ((zs_ix px (zv_np S)) ∧ (zs_ix jx (zv_jn S (zn px)))) (True) (True) (S 3 (6 * zn px + zn jx)) (zm_u2 S 3 (6 * zn px + zn jx) (0)) sh mi mr) (zq_no ((zs_ix px (zv_np S)) ∧ (zs_ix jx (zv_jn S (zn px)))) (True) (True) sh mi mr) := by
  refine zz_begin RX5 [(0, .ref 2), (1, .int px), (2, .int jx)] (by decide) rfl rfl (Nat.le_of_ble_eq_true rfl) rfl ?_
  intro Γ D E ad hX hr hN hT
  obtain ⟨hRm, hRp, hRv, hRs, hRf⟩ := id hR
  obtain ⟨m1, m2, m3, m4, m5, m6, m7, m8, m9, m10, m11, m12, m13, m14, m15, m16, m17, m18, m19, m20⟩ := hRm
  obtain ⟨hWp, hWv, hWs, hWk, hWr, hWf⟩ := id hW
  obtain ⟨p0, p1, p2, p3, p4, p5⟩ := hWp
  obtain ⟨v0, v1, v2, v3, v4⟩ := hWv
  obtain ⟨s0, s1, s2, s3⟩ := hWs
  obtain ⟨f0, f1, f2, f3⟩ := hWf
  refine zz_aload_n hX dX5_mend_0 0 rfl rfl ?_
  refine zz_iload_n hX dX5_mend_1 1 rfl rfl ?_
  refine zz_callV hX zf_M_X5_73 (As := [.int px]) (st := []) (K_puppetAt S sh mi mr hW hR px) m1 rfl rfl rfl (by decide) (Nat.le_of_ble_eq_true rfl) (Nat.le_of_ble_eq_true rfl) (Nat.le_of_ble_eq_true rfl) dX5_mend_2 ?_ ?_
  rotate_left
  · rintro e9 s9 i9 m9 ⟨x2, rfl, rfl, rfl, rfl⟩ -; exact zz_out hX hT (Nat.le_of_ble_eq_true rfl) (Nat.le_of_ble_eq_true rfl) (by unfold zq_no; skip; exact ⟨Or.inl ⟨rfl, fun h => x2 (h.1)⟩, rfl, rfl, rfl⟩)
  rintro v9 s9 i9 m9 ⟨p, hp, rfl, rfl, e2, e3, e4⟩ -
  obtain rfl := e2.symm
  obtain rfl := e3.symm
  obtain rfl := e4.symm
  have z_p : zn (nI p) = p := nI_clamp (n := p) (by omega)
  obtain ⟨e1, e2, e3, e4, e5, e6⟩ := hRp p hp
  obtain ⟨g1, g2, g3, g4, g5, g6, g7⟩ := e2
  obtain ⟨h1, h2, h3⟩ := p2 p hp
  refine zz_astore_n (ls' := [(0, .ref 2), (1, .int (nI p)), (2, .int jx), (3, .ref (200 + 4 * p))]) hX dX5_mend_5 rfl (Nat.le_of_ble_eq_true rfl) rfl ?_
  refine zz_aload_n hX dX5_mend_6 3 rfl rfl ?_
  refine zz_iload_n hX dX5_mend_7 2 rfl rfl ?_
  refine zz_sC hX zf_M_X5_138 (As := [.ref (200 + 4 * p), .int jx]) (st := []) (K_needJoint S sh mi mr hW hR p hp jx) rfl rfl (by decide) (Nat.le_of_ble_eq_true rfl) (Nat.le_of_ble_eq_true rfl) (Nat.le_of_ble_eq_true rfl) dX5_mend_8 (fun p8 => ?_) (fun x8 => zz_out hX hT (Nat.le_of_ble_eq_true rfl) (Nat.le_of_ble_eq_true rfl) (by unfold zq_no; (try rw [z_p]); exact ⟨Or.inl ⟨rfl, fun h => x8 (h.2)⟩, rfl, rfl, rfl⟩))
  obtain ⟨j, hj, rfl⟩ := zs_ix_of p8 (by omega)
  have z_j : zn (nI j) = j := nI_clamp (n := j) (by omega)
  refine zz_aload_n hX dX5_mend_11 3 rfl rfl ?_
  refine zz_getR (y := (200 + 4 * p + 2)) hX zf_F_X5_218 g1 rfl g3 dX5_mend_12 ?_
  refine zz_iload_n hX dX5_mend_15 2 rfl rfl ?_
  refine zz_iald (x := S 3 (6 * p + j)) hX g6 j rfl (by omega) (by omega) ((e5 j (by omega))) dX5_mend_16 ?_
  refine zz_istore (ls' := [(0, .ref 2), (1, .int (nI p)), (2, .int (nI j)), (3, .ref (200 + 4 * p)), (4, .int (S 3 (6 * p + j)))]) hX dX5_mend_17 (Nat.le_of_ble_eq_true rfl) rfl ?_
  refine zz_aload_n hX dX5_mend_19 3 rfl rfl ?_
  refine zz_getR (y := (200 + 4 * p + 2)) hX zf_F_X5_218 g1 rfl g3 dX5_mend_20 ?_
  refine zz_iload_n hX dX5_mend_23 2 rfl rfl ?_
  refine zz_iconst (v := nI 0) hX dX5_mend_24 rfl ?_
  refine zz_iast hX g6 j rfl (by omega) (by omega) dX5_mend_25 ?_
  refine zz_iload hX dX5_mend_26 4 rfl ?_
  refine zz_iret hX hr rfl (Nat.le_of_ble_eq_true rfl) (Nat.le_of_ble_eq_true rfl) dX5_mend_28 ?_
  unfold zq_ok
  (try rw [z_p]); (try rw [z_j])
  exact ⟨⟨⟨zs_ix_nI hp (by omega), zs_ix_nI hj (by omega)⟩, trivial, trivial⟩, rfl, (zR_set hW hR (Or.inr (Or.inl ⟨p, hp, by omega⟩)) (by unfold zs_str; omega)), (zr_fr zr_same.rfl' (by unfold zr_out; omega))⟩

set_option maxRecDepth 20000 in
theorem P_assign (S : zS) (sh : zm_Sh) (mi : zm_Mi) (mr : zm_Mr) (hW : zW S) (hR : zR S sh mi mr) (s ax : Int32) : zz_Con yX5_assign (.code yX5_assign cX5_assign 5 (some Jvm.ClassFile.FieldType.int)) 10 10 60 [.ref 2, .int s, .int ax] sh mi mr (zq_ok ((zs_ix s (zv_ns S)) ∧ (zs_ix ax 5)) (True) ((¬ zv_fr S (zn s) ≤ zv_sk S (zn s)) ∧ (0 < zv_sk S (zn s) → (¬ S 14 (zn s) = -1 ∧ ¬ S 17 (zn (S 14 (zn s))) = 0))) (S 14 (zn s)) (zm_u2 S 14 (zn s) (ax)) sh mi mr) (zq_no ((zs_ix s (zv_ns S)) ∧ (zs_ix ax 5)) (True) ((¬ zv_fr S (zn s) ≤ zv_sk S (zn s)) ∧ (0 < zv_sk S (zn s) → (¬ S 14 (zn s) = -1 ∧ ¬ S 17 (zn (S 14 (zn s))) = 0))) sh mi mr) := by
  refine zz_begin RX5 [(0, .ref 2), (1, .int s), (2, .int ax)] (by decide) rfl rfl (Nat.le_of_ble_eq_true rfl) rfl ?_
  intro Γ D E ad hX hr hN hT
  obtain ⟨hRm, hRp, hRv, hRs, hRf⟩ := id hR
  obtain ⟨m1, m2, m3, m4, m5, m6, m7, m8, m9, m10, m11, m12, m13, m14, m15, m16, m17, m18, m19, m20⟩ := hRm
  obtain ⟨hWp, hWv, hWs, hWk, hWr, hWf⟩ := id hW
  obtain ⟨p0, p1, p2, p3, p4, p5⟩ := hWp
  obtain ⟨v0, v1, v2, v3, v4⟩ := hWv
  obtain ⟨s0, s1, s2, s3⟩ := hWs
  obtain ⟨f0, f1, f2, f3⟩ := hWf
  refine zz_aload_n hX dX5_assign_0 0 rfl rfl ?_
  refine zz_iload_n hX dX5_assign_1 1 rfl rfl ?_
  refine zz_callV hX zf_M_X5_106 (As := [.int s]) (st := []) (K_shotAt S sh mi mr hW hR s) m1 rfl rfl rfl (by decide) (Nat.le_of_ble_eq_true rfl) (Nat.le_of_ble_eq_true rfl) (Nat.le_of_ble_eq_true rfl) dX5_assign_2 ?_ ?_
  rotate_left
  · rintro e9 s9 i9 m9 ⟨x2, rfl, rfl, rfl, rfl⟩ -; exact zz_out hX hT (Nat.le_of_ble_eq_true rfl) (Nat.le_of_ble_eq_true rfl) (by unfold zq_no; skip; exact ⟨Or.inl ⟨rfl, fun h => x2 (h.1)⟩, rfl, rfl, rfl⟩)
  rintro v9 s9 i9 m9 ⟨i, hi, rfl, rfl, e2, e3, e4⟩ -
  obtain rfl := e2.symm
  obtain rfl := e3.symm
  obtain rfl := e4.symm
  have z_i : zn (nI i) = i := nI_clamp (n := i) (by omega)
  obtain ⟨a1, a2, a3, a4, a5, a6, a7, a8⟩ := zR_sh hW hR hi
  obtain ⟨t1, t2, t3, t4, t5, t6, t7, t8, t9, t10⟩ := a3
  obtain ⟨r1, r2, r3, r4, r5, r6, r7, r8, r9, r10, r11, r12, r13, r14, r15⟩ := t10
  obtain ⟨u1, u2, u3, u4, u5, u6, u7, u8, u9, u10⟩ := hRs i hi
  obtain ⟨b1, b2, b3, b4, b5, b6, b7, b8, b9, b10, b11, b12, b13⟩ := s2 i hi
  refine zz_astore_n (ls' := [(0, .ref 2), (1, .int (nI i)), (2, .int ax), (3, .ref (1000 + 100 * i))]) hX dX5_assign_5 rfl (Nat.le_of_ble_eq_true rfl) rfl ?_
  refine zz_iload_n hX dX5_assign_6 2 rfl rfl ?_
  refine zz_sC hX zf_M_X5_110 (As := [.int ax]) (st := []) (k_needAnimator ax sh mi mr) rfl rfl (by decide) (Nat.le_of_ble_eq_true rfl) (Nat.le_of_ble_eq_true rfl) (Nat.le_of_ble_eq_true rfl) dX5_assign_7 (fun p7 => ?_) (fun x7 => zz_out hX hT (Nat.le_of_ble_eq_true rfl) (Nat.le_of_ble_eq_true rfl) (by unfold zq_no; (try rw [z_i]); exact ⟨Or.inl ⟨rfl, fun h => x7 (h.2)⟩, rfl, rfl, rfl⟩))
  refine zz_aload_n hX dX5_assign_10 3 rfl rfl ?_
  refine zz_vI (x := zz_bi (zv_fr S i ≤ zv_sk S i)) hX zf_M_X5_113 (As := []) (st := []) (K_isDone S sh mi mr hW hR i hi) t1 rfl rfl rfl (by decide) (Nat.le_of_ble_eq_true rfl) (Nat.le_of_ble_eq_true rfl) (Nat.le_of_ble_eq_true rfl) dX5_assign_11 ?_
  refine zz_if_eqB hX 27 dX5_assign_14 (by decide) (fun c14 => ?_) (fun c14 => ?_)
  · skip
    refine zz_aload_n hX dX5_assign_27 3 rfl rfl ?_
    refine zz_vI (x := zz_bi (0 < zv_sk S i)) hX zf_M_X5_119 (As := []) (st := []) (K_hasBegun S sh mi mr hW hR i hi) t1 rfl rfl rfl (by decide) (Nat.le_of_ble_eq_true rfl) (Nat.le_of_ble_eq_true rfl) (Nat.le_of_ble_eq_true rfl) dX5_assign_28 ?_
    refine zz_if_eqB hX 55 dX5_assign_31 (by decide) (fun c31 => ?_) (fun c31 => ?_)
    · skip
      refine zz_aload_n hX dX5_assign_55 3 rfl rfl ?_
      refine zz_getI (x := S 14 i) hX zf_F_X5_122.r t1 rfl (u6) dX5_assign_56 ?_
      refine zz_istore (ls' := [(0, .ref 2), (1, .int (nI i)), (2, .int ax), (3, .ref (1000 + 100 * i)), (4, .int (S 14 i))]) hX dX5_assign_59 (Nat.le_of_ble_eq_true rfl) rfl ?_
      refine zz_aload_n hX dX5_assign_61 3 rfl rfl ?_
      refine zz_iload_n hX dX5_assign_62 2 rfl rfl ?_
      refine zz_putI hX zf_F_X5_122 t1 rfl rfl rfl dX5_assign_63 ?_
      refine zz_iload hX dX5_assign_66 4 rfl ?_
      refine zz_iret hX hr rfl (Nat.le_of_ble_eq_true rfl) (Nat.le_of_ble_eq_true rfl) dX5_assign_68 ?_
      unfold zq_ok
      (try rw [z_i])
      exact ⟨⟨⟨zs_ix_nI hi (by omega), p7⟩, trivial, ⟨c14, fun h => absurd h c31⟩⟩, rfl, (zR_set hW hR (Or.inr (Or.inr (Or.inr (Or.inl ⟨i, hi, by omega⟩)))) (by unfold zs_str; omega)), (zr_fr zr_same.rfl' (by unfold zr_out; omega))⟩
    · skip
      refine zz_aload_n hX dX5_assign_34 0 rfl rfl ?_
      refine zz_aload_n hX dX5_assign_35 3 rfl rfl ?_
      refine zz_getI (x := S 14 i) hX zf_F_X5_122.r t1 rfl (u6) dX5_assign_36 ?_
      refine zz_vI (x := zz_bi (¬ S 14 i = -1 ∧ ¬ S 17 (zn (S 14 i)) = 0)) hX zf_M_X5_125 (As := [.int (S 14 i)]) (st := []) (K_isIll S sh mi mr hW hR (S 14 i) b10) m1 rfl rfl rfl (by decide) (Nat.le_of_ble_eq_true rfl) (Nat.le_of_ble_eq_true rfl) (Nat.le_of_ble_eq_true rfl) dX5_assign_39 ?_
      refine zz_if_neB hX 55 dX5_assign_42 (by decide) (fun c42 => ?_) (fun c42 => ?_)
      · skip
        refine zz_aload_n hX dX5_assign_55 3 rfl rfl ?_
        refine zz_getI (x := S 14 i) hX zf_F_X5_122.r t1 rfl (u6) dX5_assign_56 ?_
        refine zz_istore (ls' := [(0, .ref 2), (1, .int (nI i)), (2, .int ax), (3, .ref (1000 + 100 * i)), (4, .int (S 14 i))]) hX dX5_assign_59 (Nat.le_of_ble_eq_true rfl) rfl ?_
        refine zz_aload_n hX dX5_assign_61 3 rfl rfl ?_
        refine zz_iload_n hX dX5_assign_62 2 rfl rfl ?_
        refine zz_putI hX zf_F_X5_122 t1 rfl rfl rfl dX5_assign_63 ?_
        refine zz_iload hX dX5_assign_66 4 rfl ?_
        refine zz_iret hX hr rfl (Nat.le_of_ble_eq_true rfl) (Nat.le_of_ble_eq_true rfl) dX5_assign_68 ?_
        unfold zq_ok
        (try rw [z_i])
        exact ⟨⟨⟨zs_ix_nI hi (by omega), p7⟩, trivial, ⟨c14, fun _ => c42⟩⟩, rfl, (zR_set hW hR (Or.inr (Or.inr (Or.inr (Or.inl ⟨i, hi, by omega⟩)))) (by unfold zs_str; omega)), (zr_fr zr_same.rfl' (by unfold zr_out; omega))⟩
      · skip
        refine zz_throw hX hT zf_T_X5_129 dX5_assign_45 dX5_assign_48 dX5_assign_49 dX5_assign_51 dX5_assign_54 (by decide) (Nat.le_of_ble_eq_true rfl) (Nat.le_of_ble_eq_true rfl) (Nat.le_of_ble_eq_true rfl) ?_
        unfold zq_no; (try rw [z_i]); exact ⟨Or.inr (Or.inr ⟨rfl, ⟨zs_ix_nI hi (by omega), p7⟩, trivial, fun h => c42 (h.2 c31)⟩), rfl, rfl, rfl⟩
  · skip
    refine zz_throw hX hT zf_T_X5_117 dX5_assign_17 dX5_assign_20 dX5_assign_21 dX5_assign_23 dX5_assign_26 (by decide) (Nat.le_of_ble_eq_true rfl) (Nat.le_of_ble_eq_true rfl) (Nat.le_of_ble_eq_true rfl) ?_
    unfold zq_no; (try rw [z_i]); exact ⟨Or.inr (Or.inr ⟨rfl, ⟨zs_ix_nI hi (by omega), p7⟩, trivial, fun h => h.1 c14⟩), rfl, rfl, rfl⟩

set_option maxRecDepth 20000 in
theorem P_dub (S : zS) (sh : zm_Sh) (mi : zm_Mi) (mr : zm_Mr) (hW : zW S) (hR : zR S sh mi mr) (s v : Int32) : zz_Con yX5_dub (.code yX5_dub cX5_dub 5 (some Jvm.ClassFile.FieldType.int)) 10 10 60 [.ref 2, .int s, .int v] sh mi mr (zq_ok ((zs_ix s (zv_ns S)) ∧ (v = -1 ∨ zs_ix v (zv_nv S))) (True) (True) (S 13 (zn s)) (zm_u2 S 13 (zn s) (v)) sh mi mr) (zq_no ((zs_ix s (zv_ns S)) ∧ (v = -1 ∨ zs_ix v (zv_nv S))) (True) (True) sh mi mr) := by
  refine zz_begin RX5 [(0, .ref 2), (1, .int s), (2, .int v)] (by decide) rfl rfl (Nat.le_of_ble_eq_true rfl) rfl ?_
  intro Γ D E ad hX hr hN hT
  obtain ⟨hRm, hRp, hRv, hRs, hRf⟩ := id hR
  obtain ⟨m1, m2, m3, m4, m5, m6, m7, m8, m9, m10, m11, m12, m13, m14, m15, m16, m17, m18, m19, m20⟩ := hRm
  obtain ⟨hWp, hWv, hWs, hWk, hWr, hWf⟩ := id hW
  obtain ⟨p0, p1, p2, p3, p4, p5⟩ := hWp
  obtain ⟨v0, v1, v2, v3, v4⟩ := hWv
  obtain ⟨s0, s1, s2, s3⟩ := hWs
  obtain ⟨f0, f1, f2, f3⟩ := hWf
  refine zz_aload_n hX dX5_dub_0 0 rfl rfl ?_
  refine zz_iload_n hX dX5_dub_1 1 rfl rfl ?_
  refine zz_callV hX zf_M_X5_106 (As := [.int s]) (st := []) (K_shotAt S sh mi mr hW hR s) m1 rfl rfl rfl (by decide) (Nat.le_of_ble_eq_true rfl) (Nat.le_of_ble_eq_true rfl) (Nat.le_of_ble_eq_true rfl) dX5_dub_2 ?_ ?_
  rotate_left
  · rintro e9 s9 i9 m9 ⟨x2, rfl, rfl, rfl, rfl⟩ -; exact zz_out hX hT (Nat.le_of_ble_eq_true rfl) (Nat.le_of_ble_eq_true rfl) (by unfold zq_no; skip; exact ⟨Or.inl ⟨rfl, fun h => x2 (h.1)⟩, rfl, rfl, rfl⟩)
  rintro v9 s9 i9 m9 ⟨i, hi, rfl, rfl, e2, e3, e4⟩ -
  obtain rfl := e2.symm
  obtain rfl := e3.symm
  obtain rfl := e4.symm
  have z_i : zn (nI i) = i := nI_clamp (n := i) (by omega)
  obtain ⟨a1, a2, a3, a4, a5, a6, a7, a8⟩ := zR_sh hW hR hi
  obtain ⟨t1, t2, t3, t4, t5, t6, t7, t8, t9, t10⟩ := a3
  obtain ⟨r1, r2, r3, r4, r5, r6, r7, r8, r9, r10, r11, r12, r13, r14, r15⟩ := t10
  obtain ⟨u1, u2, u3, u4, u5, u6, u7, u8, u9, u10⟩ := hRs i hi
  obtain ⟨b1, b2, b3, b4, b5, b6, b7, b8, b9, b10, b11, b12, b13⟩ := s2 i hi
  refine zz_astore_n (ls' := [(0, .ref 2), (1, .int (nI i)), (2, .int v), (3, .ref (1000 + 100 * i))]) hX dX5_dub_5 rfl (Nat.le_of_ble_eq_true rfl) rfl ?_
  refine zz_aload_n hX dX5_dub_6 0 rfl rfl ?_
  refine zz_iload_n hX dX5_dub_7 2 rfl rfl ?_
  refine zz_vC hX zf_M_X5_98 (As := [.int v]) (st := []) (K_needVoice S sh mi mr hW hR v) m1 rfl rfl rfl (by decide) (Nat.le_of_ble_eq_true rfl) (Nat.le_of_ble_eq_true rfl) (Nat.le_of_ble_eq_true rfl) dX5_dub_8 (fun p8 => ?_) (fun x8 => zz_out hX hT (Nat.le_of_ble_eq_true rfl) (Nat.le_of_ble_eq_true rfl) (by unfold zq_no; (try rw [z_i]); exact ⟨Or.inl ⟨rfl, fun h => x8 (h.2)⟩, rfl, rfl, rfl⟩))
  refine zz_aload_n hX dX5_dub_11 3 rfl rfl ?_
  refine zz_getI (x := S 13 i) hX zf_F_X5_131.r t1 rfl (u5) dX5_dub_12 ?_
  refine zz_istore (ls' := [(0, .ref 2), (1, .int (nI i)), (2, .int v), (3, .ref (1000 + 100 * i)), (4, .int (S 13 i))]) hX dX5_dub_15 (Nat.le_of_ble_eq_true rfl) rfl ?_
  refine zz_aload_n hX dX5_dub_17 3 rfl rfl ?_
  refine zz_iload_n hX dX5_dub_18 2 rfl rfl ?_
  refine zz_putI hX zf_F_X5_131 t1 rfl rfl rfl dX5_dub_19 ?_
  refine zz_iload hX dX5_dub_22 4 rfl ?_
  refine zz_iret hX hr rfl (Nat.le_of_ble_eq_true rfl) (Nat.le_of_ble_eq_true rfl) dX5_dub_24 ?_
  unfold zq_ok
  (try rw [z_i])
  exact ⟨⟨⟨zs_ix_nI hi (by omega), p8⟩, trivial, trivial⟩, rfl, (zR_set hW hR (Or.inr (Or.inr (Or.inr (Or.inl ⟨i, hi, by omega⟩)))) (by unfold zs_str; omega)), (zr_fr zr_same.rfl' (by unfold zr_out; omega))⟩

set_option maxRecDepth 20000 in
theorem P_play (S : zS) (sh : zm_Sh) (mi : zm_Mi) (mr : zm_Mr) (hW : zW S) (hR : zR S sh mi mr) (u : Int32) : zz_Con yX5_play (.code yX5_play cX5_play 3 (some Jvm.ClassFile.FieldType.int)) 10 10 60 [.ref 2, .int u] sh mi mr (zq_ok (True) ((nI 0 ≤ u ∧ u ≤ nI 20)) (True) (S 20 0) (zm_u2 S 20 (0) (u)) sh mi mr) (zq_no (True) ((nI 0 ≤ u ∧ u ≤ nI 20)) (True) sh mi mr) := by
  refine zz_begin RX5 [(0, .ref 2), (1, .int u)] (by decide) rfl rfl (Nat.le_of_ble_eq_true rfl) rfl ?_
  intro Γ D E ad hX hr hN hT
  obtain ⟨hRm, hRp, hRv, hRs, hRf⟩ := id hR
  obtain ⟨m1, m2, m3, m4, m5, m6, m7, m8, m9, m10, m11, m12, m13, m14, m15, m16, m17, m18, m19, m20⟩ := hRm
  obtain ⟨hWp, hWv, hWs, hWk, hWr, hWf⟩ := id hW
  obtain ⟨p0, p1, p2, p3, p4, p5⟩ := hWp
  obtain ⟨v0, v1, v2, v3, v4⟩ := hWv
  obtain ⟨s0, s1, s2, s3⟩ := hWs
  obtain ⟨f0, f1, f2, f3⟩ := hWf
  refine zz_iload_n hX dX5_play_0 1 rfl rfl ?_
  refine zz_iconst (v := nI 0) hX dX5_play_1 rfl ?_
  refine zz_bipush (v := nI 20) hX dX5_play_2 rfl ?_
  refine zz_sC hX zf_M_X5_59 (As := [.int u, .int (nI 0), .int (nI 20)]) (st := []) (k_needRange u (nI 0) (nI 20) sh mi mr) rfl rfl (by decide) (Nat.le_of_ble_eq_true rfl) (Nat.le_of_ble_eq_true rfl) (Nat.le_of_ble_eq_true rfl) dX5_play_4 (fun p4 => ?_) (fun x4 => zz_out hX hT (Nat.le_of_ble_eq_true rfl) (Nat.le_of_ble_eq_true rfl) (by unfold zq_no; skip; exact ⟨Or.inr (Or.inl ⟨rfl, trivial, fun h => x4 (h)⟩), rfl, rfl, rfl⟩))
  refine zz_aload_n hX dX5_play_7 0 rfl rfl ?_
  refine zz_getI (x := S 20 0) hX zf_F_X5_53.r m1 rfl (m17) dX5_play_8 ?_
  refine zz_istore_n (ls' := [(0, .ref 2), (1, .int u), (2, .int (S 20 0))]) hX dX5_play_11 rfl (Nat.le_of_ble_eq_true rfl) rfl ?_
  refine zz_aload_n hX dX5_play_12 0 rfl rfl ?_
  refine zz_iload_n hX dX5_play_13 1 rfl rfl ?_
  refine zz_putI hX zf_F_X5_53 m1 rfl rfl rfl dX5_play_14 ?_
  refine zz_iload_n hX dX5_play_17 2 rfl rfl ?_
  refine zz_iret hX hr rfl (Nat.le_of_ble_eq_true rfl) (Nat.le_of_ble_eq_true rfl) dX5_play_18 ?_
  unfold zq_ok
  skip
  exact ⟨⟨trivial, p4, trivial⟩, rfl, (zR_set hW hR (Or.inl (by unfold zR_at1; omega)) (by unfold zs_str; omega)), (zr_fr zr_same.rfl' (by unfold zr_out; omega))⟩

set_option maxRecDepth 20000 in
theorem P_bump (S : zS) (sh : zm_Sh) (mi : zm_Mi) (mr : zm_Mr) (hW : zW S) (hR : zR S sh mi mr) (s u : Int32) : zz_Con yX5_bump (.code yX5_bump cX5_bump 4 (some Jvm.ClassFile.FieldType.int)) 10 10 60 [.ref 2, .int s, .int u] sh mi mr (zq_ok ((zs_ix s (zv_ns S))) (((-99) ≤ u ∧ u ≤ nI 99)) ((0 < zv_sk S (zn s))) (S 16 (zn s) + u) (zm_u2 S 16 (zn s) (S 16 (zn s) + u)) sh mi mr) (zq_no ((zs_ix s (zv_ns S))) (((-99) ≤ u ∧ u ≤ nI 99)) ((0 < zv_sk S (zn s))) sh mi mr) := by
  refine zz_begin RX5 [(0, .ref 2), (1, .int s), (2, .int u)] (by decide) rfl rfl (Nat.le_of_ble_eq_true rfl) rfl ?_
  intro Γ D E ad hX hr hN hT
  obtain ⟨hRm, hRp, hRv, hRs, hRf⟩ := id hR
  obtain ⟨m1, m2, m3, m4, m5, m6, m7, m8, m9, m10, m11, m12, m13, m14, m15, m16, m17, m18, m19, m20⟩ := hRm
  obtain ⟨hWp, hWv, hWs, hWk, hWr, hWf⟩ := id hW
  obtain ⟨p0, p1, p2, p3, p4, p5⟩ := hWp
  obtain ⟨v0, v1, v2, v3, v4⟩ := hWv
  obtain ⟨s0, s1, s2, s3⟩ := hWs
  obtain ⟨f0, f1, f2, f3⟩ := hWf
  refine zz_aload_n hX dX5_bump_0 0 rfl rfl ?_
  refine zz_iload_n hX dX5_bump_1 1 rfl rfl ?_
  refine zz_callV hX zf_M_X5_106 (As := [.int s]) (st := []) (K_shotAt S sh mi mr hW hR s) m1 rfl rfl rfl (by decide) (Nat.le_of_ble_eq_true rfl) (Nat.le_of_ble_eq_true rfl) (Nat.le_of_ble_eq_true rfl) dX5_bump_2 ?_ ?_
  rotate_left
  · rintro e9 s9 i9 m9 ⟨x2, rfl, rfl, rfl, rfl⟩ -; exact zz_out hX hT (Nat.le_of_ble_eq_true rfl) (Nat.le_of_ble_eq_true rfl) (by unfold zq_no; skip; exact ⟨Or.inl ⟨rfl, fun h => x2 (h)⟩, rfl, rfl, rfl⟩)
  rintro v9 s9 i9 m9 ⟨i, hi, rfl, rfl, e2, e3, e4⟩ -
  obtain rfl := e2.symm
  obtain rfl := e3.symm
  obtain rfl := e4.symm
  have z_i : zn (nI i) = i := nI_clamp (n := i) (by omega)
  obtain ⟨a1, a2, a3, a4, a5, a6, a7, a8⟩ := zR_sh hW hR hi
  obtain ⟨t1, t2, t3, t4, t5, t6, t7, t8, t9, t10⟩ := a3
  obtain ⟨r1, r2, r3, r4, r5, r6, r7, r8, r9, r10, r11, r12, r13, r14, r15⟩ := t10
  obtain ⟨u1, u2, u3, u4, u5, u6, u7, u8, u9, u10⟩ := hRs i hi
  obtain ⟨b1, b2, b3, b4, b5, b6, b7, b8, b9, b10, b11, b12, b13⟩ := s2 i hi
  refine zz_astore_n (ls' := [(0, .ref 2), (1, .int (nI i)), (2, .int u), (3, .ref (1000 + 100 * i))]) hX dX5_bump_5 rfl (Nat.le_of_ble_eq_true rfl) rfl ?_
  refine zz_iload_n hX dX5_bump_6 2 rfl rfl ?_
  refine zz_bipush (v := (-99)) hX dX5_bump_7 rfl ?_
  refine zz_bipush (v := nI 99) hX dX5_bump_9 rfl ?_
  refine zz_sC hX zf_M_X5_59 (As := [.int u, .int (-99), .int (nI 99)]) (st := []) (k_needRange u (-99) (nI 99) sh mi mr) rfl rfl (by decide) (Nat.le_of_ble_eq_true rfl) (Nat.le_of_ble_eq_true rfl) (Nat.le_of_ble_eq_true rfl) dX5_bump_11 (fun p11 => ?_) (fun x11 => zz_out hX hT (Nat.le_of_ble_eq_true rfl) (Nat.le_of_ble_eq_true rfl) (by unfold zq_no; (try rw [z_i]); exact ⟨Or.inr (Or.inl ⟨rfl, zs_ix_nI hi (by omega), fun h => x11 (h)⟩), rfl, rfl, rfl⟩))
  refine zz_aload_n hX dX5_bump_14 3 rfl rfl ?_
  refine zz_vI (x := zz_bi (0 < zv_sk S i)) hX zf_M_X5_119 (As := []) (st := []) (K_hasBegun S sh mi mr hW hR i hi) t1 rfl rfl rfl (by decide) (Nat.le_of_ble_eq_true rfl) (Nat.le_of_ble_eq_true rfl) (Nat.le_of_ble_eq_true rfl) dX5_bump_15 ?_
  refine zz_if_neB hX 31 dX5_bump_18 (by decide) (fun c18 => ?_) (fun c18 => ?_)
  · skip
    refine zz_aload_n hX dX5_bump_31 3 rfl rfl ?_
    refine zz_dup hX dX5_bump_32 rfl ?_
    refine zz_getI (x := S 16 i) hX zf_F_X5_199.r t1 rfl (u7) dX5_bump_33 ?_
    refine zz_iload_n hX dX5_bump_36 2 rfl rfl ?_
    refine zz_iadd (z := (S 16 i) + u) hX dX5_bump_37 rfl ?_
    refine zz_putI hX zf_F_X5_199 t1 rfl rfl rfl dX5_bump_38 ?_
    refine zz_aload_n hX dX5_bump_41 3 rfl rfl ?_
    refine zz_getI (x := (S 16 i) + u) hX zf_F_X5_199.r t1 rfl (zm_u2s) dX5_bump_42 ?_
    refine zz_iret hX hr rfl (Nat.le_of_ble_eq_true rfl) (Nat.le_of_ble_eq_true rfl) dX5_bump_45 ?_
    unfold zq_ok
    (try rw [z_i])
    exact ⟨⟨zs_ix_nI hi (by omega), p11, c18⟩, rfl, (zR_set hW hR (Or.inr (Or.inr (Or.inr (Or.inl ⟨i, hi, by omega⟩)))) (by unfold zs_str; omega)), (zr_fr zr_same.rfl' (by unfold zr_out; omega))⟩
  · skip
    refine zz_throw hX hT zf_T_X5_206 dX5_bump_21 dX5_bump_24 dX5_bump_25 dX5_bump_27 dX5_bump_30 (by decide) (Nat.le_of_ble_eq_true rfl) (Nat.le_of_ble_eq_true rfl) (Nat.le_of_ble_eq_true rfl) ?_
    unfold zq_no; (try rw [z_i]); exact ⟨Or.inr (Or.inr ⟨rfl, zs_ix_nI hi (by omega), p11, fun h => c18 h⟩), rfl, rfl, rfl⟩

set_option maxRecDepth 20000 in
theorem P_level (S : zS) (sh : zm_Sh) (mi : zm_Mi) (mr : zm_Mr) (hW : zW S) (hR : zR S sh mi mr) (s : Int32) : zz_Con yX5_level (.code yX5_level cX5_level 4 (some Jvm.ClassFile.FieldType.int)) 10 10 60 [.ref 2, .int s] sh mi mr (zq_ok ((zs_ix s (zv_ns S))) (True) (True) (S 16 (zn s)) (zm_u2 S 16 (zn s) (0)) sh mi mr) (zq_no ((zs_ix s (zv_ns S))) (True) (True) sh mi mr) := by
  refine zz_begin RX5 [(0, .ref 2), (1, .int s)] (by decide) rfl rfl (Nat.le_of_ble_eq_true rfl) rfl ?_
  intro Γ D E ad hX hr hN hT
  obtain ⟨hRm, hRp, hRv, hRs, hRf⟩ := id hR
  obtain ⟨m1, m2, m3, m4, m5, m6, m7, m8, m9, m10, m11, m12, m13, m14, m15, m16, m17, m18, m19, m20⟩ := hRm
  obtain ⟨hWp, hWv, hWs, hWk, hWr, hWf⟩ := id hW
  obtain ⟨p0, p1, p2, p3, p4, p5⟩ := hWp
  obtain ⟨v0, v1, v2, v3, v4⟩ := hWv
  obtain ⟨s0, s1, s2, s3⟩ := hWs
  obtain ⟨f0, f1, f2, f3⟩ := hWf
  refine zz_aload_n hX dX5_level_0 0 rfl rfl ?_
  refine zz_iload_n hX dX5_level_1 1 rfl rfl ?_
  refine zz_callV hX zf_M_X5_106 (As := [.int s]) (st := []) (K_shotAt S sh mi mr hW hR s) m1 rfl rfl rfl (by decide) (Nat.le_of_ble_eq_true rfl) (Nat.le_of_ble_eq_true rfl) (Nat.le_of_ble_eq_true rfl) dX5_level_2 ?_ ?_
  rotate_left
  · rintro e9 s9 i9 m9 ⟨x2, rfl, rfl, rfl, rfl⟩ -; exact zz_out hX hT (Nat.le_of_ble_eq_true rfl) (Nat.le_of_ble_eq_true rfl) (by unfold zq_no; skip; exact ⟨Or.inl ⟨rfl, fun h => x2 (h)⟩, rfl, rfl, rfl⟩)
  rintro v9 s9 i9 m9 ⟨i, hi, rfl, rfl, e2, e3, e4⟩ -
  obtain rfl := e2.symm
  obtain rfl := e3.symm
  obtain rfl := e4.symm
  have z_i : zn (nI i) = i := nI_clamp (n := i) (by omega)
  obtain ⟨a1, a2, a3, a4, a5, a6, a7, a8⟩ := zR_sh hW hR hi
  obtain ⟨t1, t2, t3, t4, t5, t6, t7, t8, t9, t10⟩ := a3
  obtain ⟨r1, r2, r3, r4, r5, r6, r7, r8, r9, r10, r11, r12, r13, r14, r15⟩ := t10
  obtain ⟨u1, u2, u3, u4, u5, u6, u7, u8, u9, u10⟩ := hRs i hi
  obtain ⟨b1, b2, b3, b4, b5, b6, b7, b8, b9, b10, b11, b12, b13⟩ := s2 i hi
  refine zz_astore_n (ls' := [(0, .ref 2), (1, .int (nI i)), (2, .ref (1000 + 100 * i))]) hX dX5_level_5 rfl (Nat.le_of_ble_eq_true rfl) rfl ?_
  refine zz_aload_n hX dX5_level_6 2 rfl rfl ?_
  refine zz_getI (x := S 16 i) hX zf_F_X5_199.r t1 rfl (u7) dX5_level_7 ?_
  refine zz_istore_n (ls' := [(0, .ref 2), (1, .int (nI i)), (2, .ref (1000 + 100 * i)), (3, .int (S 16 i))]) hX dX5_level_10 rfl (Nat.le_of_ble_eq_true rfl) rfl ?_
  refine zz_aload_n hX dX5_level_11 2 rfl rfl ?_
  refine zz_iconst (v := nI 0) hX dX5_level_12 rfl ?_
  refine zz_putI hX zf_F_X5_199 t1 rfl rfl rfl dX5_level_13 ?_
  refine zz_iload_n hX dX5_level_16 3 rfl rfl ?_
  refine zz_iret hX hr rfl (Nat.le_of_ble_eq_true rfl) (Nat.le_of_ble_eq_true rfl) dX5_level_17 ?_
  unfold zq_ok
  (try rw [z_i])
  exact ⟨⟨zs_ix_nI hi (by omega), trivial, trivial⟩, rfl, (zR_set hW hR (Or.inr (Or.inr (Or.inr (Or.inl ⟨i, hi, by omega⟩)))) (by unfold zs_str; omega)), (zr_fr zr_same.rfl' (by unfold zr_out; omega))⟩

set_option maxRecDepth 20000 in
theorem P_lamp (S : zS) (sh : zm_Sh) (mi : zm_Mi) (mr : zm_Mr) (hW : zW S) (hR : zR S sh mi mr)  : zz_Con yX5_lamp (.code yX5_lamp cX5_lamp 2 (some Jvm.ClassFile.FieldType.int)) 10 10 60 [.ref 2] sh mi mr (zq_ok (True) (True) (True) (zp_light S) (zm_u2 S 21 (0) (0)) sh mi mr) (zq_no (True) (True) (True) sh mi mr) := by
  refine zz_begin RX5 [(0, .ref 2)] (by decide) rfl rfl (Nat.le_of_ble_eq_true rfl) rfl ?_
  intro Γ D E ad hX hr hN hT
  obtain ⟨hRm, hRp, hRv, hRs, hRf⟩ := id hR
  obtain ⟨m1, m2, m3, m4, m5, m6, m7, m8, m9, m10, m11, m12, m13, m14, m15, m16, m17, m18, m19, m20⟩ := hRm
  obtain ⟨hWp, hWv, hWs, hWk, hWr, hWf⟩ := id hW
  obtain ⟨p0, p1, p2, p3, p4, p5⟩ := hWp
  obtain ⟨v0, v1, v2, v3, v4⟩ := hWv
  obtain ⟨s0, s1, s2, s3⟩ := hWs
  obtain ⟨f0, f1, f2, f3⟩ := hWf
  refine zz_aload_n hX dX5_lamp_0 0 rfl rfl ?_
  refine zz_vI (x := zp_light S) hX zf_M_X5_195 (As := []) (st := []) (K_lampLight S sh mi mr hW hR) m1 rfl rfl rfl (by decide) (Nat.le_of_ble_eq_true rfl) (Nat.le_of_ble_eq_true rfl) (Nat.le_of_ble_eq_true rfl) dX5_lamp_1 ?_
  refine zz_istore_n (ls' := [(0, .ref 2), (1, .int (zp_light S))]) hX dX5_lamp_4 rfl (Nat.le_of_ble_eq_true rfl) rfl ?_
  refine zz_aload_n hX dX5_lamp_5 0 rfl rfl ?_
  refine zz_iconst (v := nI 0) hX dX5_lamp_6 rfl ?_
  refine zz_putI hX zf_F_X5_56 m1 rfl rfl rfl dX5_lamp_7 ?_
  refine zz_iload_n hX dX5_lamp_10 1 rfl rfl ?_
  refine zz_iret hX hr rfl (Nat.le_of_ble_eq_true rfl) (Nat.le_of_ble_eq_true rfl) dX5_lamp_11 ?_
  unfold zq_ok
  skip
  exact ⟨⟨trivial, trivial, trivial⟩, rfl, (zR_set hW hR (Or.inl (by unfold zR_at1; omega)) (by unfold zs_str; omega)), (zr_fr zr_same.rfl' (by unfold zr_out; omega))⟩

set_option maxRecDepth 20000 in
theorem P_ill (S : zS) (sh : zm_Sh) (mi : zm_Mi) (mr : zm_Mr) (hW : zW S) (hR : zR S sh mi mr) (ax x : Int32) (hx : x = 0 ∨ x = 1) : zz_Con yX5_ill (.code yX5_ill cX5_ill 4 (some Jvm.ClassFile.FieldType.boolean)) 10 10 60 [.ref 2, .int ax, .int x] sh mi mr (zq_ok ((zs_ix ax 5)) (True) (True) (S 17 (zn ax)) (zm_u2 S 17 (zn ax) (x)) sh mi mr) (zq_no ((zs_ix ax 5)) (True) (True) sh mi mr) := by
  refine zz_begin RX5 [(0, .ref 2), (1, .int ax), (2, .int x)] (by decide) rfl rfl (Nat.le_of_ble_eq_true rfl) rfl ?_
  intro Γ D E ad hX hr hN hT
  obtain ⟨hRm, hRp, hRv, hRs, hRf⟩ := id hR
  obtain ⟨m1, m2, m3, m4, m5, m6, m7, m8, m9, m10, m11, m12, m13, m14, m15, m16, m17, m18, m19, m20⟩ := hRm
  obtain ⟨hWp, hWv, hWs, hWk, hWr, hWf⟩ := id hW
  obtain ⟨p0, p1, p2, p3, p4, p5⟩ := hWp
  obtain ⟨v0, v1, v2, v3, v4⟩ := hWv
  obtain ⟨s0, s1, s2, s3⟩ := hWs
  obtain ⟨f0, f1, f2, f3⟩ := hWf
  refine zz_iload_n hX dX5_ill_0 1 rfl rfl ?_
  refine zz_sC hX zf_M_X5_110 (As := [.int ax]) (st := []) (k_needAnimator ax sh mi mr) rfl rfl (by decide) (Nat.le_of_ble_eq_true rfl) (Nat.le_of_ble_eq_true rfl) (Nat.le_of_ble_eq_true rfl) dX5_ill_1 (fun p1 => ?_) (fun x1 => zz_out hX hT (Nat.le_of_ble_eq_true rfl) (Nat.le_of_ble_eq_true rfl) (by unfold zq_no; skip; exact ⟨Or.inl ⟨rfl, fun h => x1 (h)⟩, rfl, rfl, rfl⟩))
  obtain ⟨a, ha, rfl⟩ := zs_ix_of p1 (by omega)
  have z_a : zn (nI a) = a := nI_clamp (n := a) (by omega)
  refine zz_aload_n hX dX5_ill_4 0 rfl rfl ?_
  refine zz_getR (y := 6) hX zf_F_X5_42.r m1 rfl m6 dX5_ill_5 ?_
  refine zz_iload_n hX dX5_ill_8 1 rfl rfl ?_
  refine zz_bald (x := S 17 a) hX m11 a rfl (by omega) (by decide) ((m19 a (by omega))) dX5_ill_9 ?_
  refine zz_istore_n (ls' := [(0, .ref 2), (1, .int (nI a)), (2, .int x), (3, .int (S 17 a))]) hX dX5_ill_10 rfl (Nat.le_of_ble_eq_true rfl) rfl ?_
  refine zz_aload_n hX dX5_ill_11 0 rfl rfl ?_
  refine zz_getR (y := 6) hX zf_F_X5_42.r m1 rfl m6 dX5_ill_12 ?_
  refine zz_iload_n hX dX5_ill_15 1 rfl rfl ?_
  refine zz_iload_n hX dX5_ill_16 2 rfl rfl ?_
  refine zz_bast hX m11 a rfl (by omega) (by decide) (by rcases hx with rfl | rfl <;> rfl) dX5_ill_17 ?_
  refine zz_iload_n hX dX5_ill_18 3 rfl rfl ?_
  refine zz_iret hX hr (by rcases f3.2 a with e | e <;> rw [e] <;> rfl) (Nat.le_of_ble_eq_true rfl) (Nat.le_of_ble_eq_true rfl) dX5_ill_19 ?_
  unfold zq_ok
  (try rw [z_a])
  exact ⟨⟨zs_ix_nI ha (by omega), trivial, trivial⟩, rfl, (zR_set hW hR (Or.inl (by unfold zR_at1; omega)) (by unfold zs_str; omega)), (zr_fr zr_same.rfl' (by unfold zr_out; omega))⟩

set_option maxRecDepth 20000 in
theorem P_pose (S : zS) (sh : zm_Sh) (mi : zm_Mi) (mr : zm_Mr) (hW : zW S) (hR : zR S sh mi mr) (s jx fx : Int32) : zz_Con yX5_pose (.code yX5_pose cX5_pose 5 (some Jvm.ClassFile.FieldType.int)) 10 10 60 [.ref 2, .int s, .int jx, .int fx] sh mi mr (zq_ok ((zs_ix s (zv_ns S)) ∧ (zs_ix jx (zv_jn S (zv_pu S (zn s)))) ∧ (zs_ix fx (zv_sk S (zn s)))) (True) (True) (S 22 (48 * (6 * zn s + zn jx) + zn fx)) S sh mi mr) (zq_no ((zs_ix s (zv_ns S)) ∧ (zs_ix jx (zv_jn S (zv_pu S (zn s)))) ∧ (zs_ix fx (zv_sk S (zn s)))) (True) (True) sh mi mr) := by
  refine zz_begin RX5 [(0, .ref 2), (1, .int s), (2, .int jx), (3, .int fx)] (by decide) rfl rfl (Nat.le_of_ble_eq_true rfl) rfl ?_
  intro Γ D E ad hX hr hN hT
  obtain ⟨hRm, hRp, hRv, hRs, hRf⟩ := id hR
  obtain ⟨m1, m2, m3, m4, m5, m6, m7, m8, m9, m10, m11, m12, m13, m14, m15, m16, m17, m18, m19, m20⟩ := hRm
  obtain ⟨hWp, hWv, hWs, hWk, hWr, hWf⟩ := id hW
  obtain ⟨p0, p1, p2, p3, p4, p5⟩ := hWp
  obtain ⟨v0, v1, v2, v3, v4⟩ := hWv
  obtain ⟨s0, s1, s2, s3⟩ := hWs
  obtain ⟨f0, f1, f2, f3⟩ := hWf
  refine zz_aload_n hX dX5_pose_0 0 rfl rfl ?_
  refine zz_iload_n hX dX5_pose_1 1 rfl rfl ?_
  refine zz_callV hX zf_M_X5_106 (As := [.int s]) (st := []) (K_shotAt S sh mi mr hW hR s) m1 rfl rfl rfl (by decide) (Nat.le_of_ble_eq_true rfl) (Nat.le_of_ble_eq_true rfl) (Nat.le_of_ble_eq_true rfl) dX5_pose_2 ?_ ?_
  rotate_left
  · rintro e9 s9 i9 m9 ⟨x2, rfl, rfl, rfl, rfl⟩ -; exact zz_out hX hT (Nat.le_of_ble_eq_true rfl) (Nat.le_of_ble_eq_true rfl) (by unfold zq_no; skip; exact ⟨Or.inl ⟨rfl, fun h => x2 (h.1)⟩, rfl, rfl, rfl⟩)
  rintro v9 s9 i9 m9 ⟨i, hi, rfl, rfl, e2, e3, e4⟩ -
  obtain rfl := e2.symm
  obtain rfl := e3.symm
  obtain rfl := e4.symm
  have z_i : zn (nI i) = i := nI_clamp (n := i) (by omega)
  obtain ⟨a1, a2, a3, a4, a5, a6, a7, a8⟩ := zR_sh hW hR hi
  obtain ⟨t1, t2, t3, t4, t5, t6, t7, t8, t9, t10⟩ := a3
  obtain ⟨r1, r2, r3, r4, r5, r6, r7, r8, r9, r10, r11, r12, r13, r14, r15⟩ := t10
  obtain ⟨u1, u2, u3, u4, u5, u6, u7, u8, u9, u10⟩ := hRs i hi
  obtain ⟨b1, b2, b3, b4, b5, b6, b7, b8, b9, b10, b11, b12, b13⟩ := s2 i hi
  refine zz_astore (ls' := [(0, .ref 2), (1, .int (nI i)), (2, .int jx), (3, .int fx), (4, .ref (1000 + 100 * i))]) hX dX5_pose_5 (Nat.le_of_ble_eq_true rfl) rfl ?_
  refine zz_aload hX dX5_pose_7 4 rfl ?_
  refine zz_getR (y := (200 + 4 * zv_pu S i)) hX zf_F_X5_134 t1 rfl t2 dX5_pose_9 ?_
  refine zz_iload_n hX dX5_pose_12 2 rfl rfl ?_
  refine zz_sC hX zf_M_X5_138 (As := [.ref (200 + 4 * zv_pu S i), .int jx]) (st := []) (K_needJoint S sh mi mr hW hR (zv_pu S i) b2 jx) rfl rfl (by decide) (Nat.le_of_ble_eq_true rfl) (Nat.le_of_ble_eq_true rfl) (Nat.le_of_ble_eq_true rfl) dX5_pose_13 (fun p13 => ?_) (fun x13 => zz_out hX hT (Nat.le_of_ble_eq_true rfl) (Nat.le_of_ble_eq_true rfl) (by unfold zq_no; (try rw [z_i]); exact ⟨Or.inl ⟨rfl, fun h => x13 (h.2.1)⟩, rfl, rfl, rfl⟩))
  obtain ⟨j, hj, rfl⟩ := zs_ix_of p13 (by omega)
  have z_j : zn (nI j) = j := nI_clamp (n := j) (by omega)
  refine zz_aload hX dX5_pose_16 4 rfl ?_
  refine zz_iload_n hX dX5_pose_18 3 rfl rfl ?_
  refine zz_sC hX zf_M_X5_249 (As := [.ref (1000 + 100 * i), .int fx]) (st := []) (K_needStruck S sh mi mr hW hR i hi fx) rfl rfl (by decide) (Nat.le_of_ble_eq_true rfl) (Nat.le_of_ble_eq_true rfl) (Nat.le_of_ble_eq_true rfl) dX5_pose_19 (fun p19 => ?_) (fun x19 => zz_out hX hT (Nat.le_of_ble_eq_true rfl) (Nat.le_of_ble_eq_true rfl) (by unfold zq_no; (try rw [z_i]); (try rw [z_j]); exact ⟨Or.inl ⟨rfl, fun h => x19 (h.2.2)⟩, rfl, rfl, rfl⟩))
  obtain ⟨f, hf, rfl⟩ := zs_ix_of p19 (by omega)
  have z_f : zn (nI f) = f := nI_clamp (n := f) (by omega)
  refine zz_aload hX dX5_pose_22 4 rfl ?_
  refine zz_getR (y := (1000 + 100 * i + 5)) hX zf_F_X5_182 t1 rfl t5 dX5_pose_24 ?_
  refine zz_getR (y := (1000 + 100 * i + 6)) hX zf_F_X5_252 r1 rfl r2 dX5_pose_27 ?_
  refine zz_iload_n hX dX5_pose_30 2 rfl rfl ?_
  refine zz_aald (y := (1000 + 100 * i + 40 + j)) hX r8 (by decide) (by decide) j rfl (by omega) (by omega) (r14 j hj) dX5_pose_31 ?_
  refine zz_iload_n hX dX5_pose_32 3 rfl rfl ?_
  refine zz_iald (x := S 22 (48 * (6 * i + j) + f)) hX (r15 j hj) f rfl (by omega) (by omega) (((u10 f (by omega)).2.2.2.2.2 j hj)) dX5_pose_33 ?_
  refine zz_iret hX hr rfl (Nat.le_of_ble_eq_true rfl) (Nat.le_of_ble_eq_true rfl) dX5_pose_34 ?_
  unfold zq_ok
  (try rw [z_i]); (try rw [z_j]); (try rw [z_f])
  exact ⟨⟨⟨zs_ix_nI hi (by omega), zs_ix_nI hj (by omega), zs_ix_nI hf (by omega)⟩, trivial, trivial⟩, rfl, hR, zr_same.rfl'⟩

set_option maxRecDepth 20000 in
theorem P_ofFrame (S : zS) (sh : zm_Sh) (mi : zm_Mi) (mr : zm_Mr) (hW : zW S) (hR : zR S sh mi mr) (s fx x : Int32) : zz_Con yX5_ofFrame (.code yX5_ofFrame cX5_ofFrame 5 (some Jvm.ClassFile.FieldType.int)) 10 10 60 [.ref 2, .int s, .int fx, .int x] sh mi mr (zq_ok ((zs_ix s (zv_ns S)) ∧ (zs_ix fx (zv_sk S (zn s)))) ((nI 0 ≤ x ∧ x ≤ nI 3)) (True) (if x = nI 0 then S 23 (48 * zn s + zn fx) else if x = nI 1 then S 25 (48 * zn s + zn fx) else if x = nI 2 then S 26 (48 * zn s + zn fx) else S 27 (48 * zn s + zn fx)) S sh mi mr) (zq_no ((zs_ix s (zv_ns S)) ∧ (zs_ix fx (zv_sk S (zn s)))) ((nI 0 ≤ x ∧ x ≤ nI 3)) (True) sh mi mr) := by
  refine zz_begin RX5 [(0, .ref 2), (1, .int s), (2, .int fx), (3, .int x)] (by decide) rfl rfl (Nat.le_of_ble_eq_true rfl) rfl ?_
  intro Γ D E ad hX hr hN hT
  obtain ⟨hRm, hRp, hRv, hRs, hRf⟩ := id hR
  obtain ⟨m1, m2, m3, m4, m5, m6, m7, m8, m9, m10, m11, m12, m13, m14, m15, m16, m17, m18, m19, m20⟩ := hRm
  obtain ⟨hWp, hWv, hWs, hWk, hWr, hWf⟩ := id hW
  obtain ⟨p0, p1, p2, p3, p4, p5⟩ := hWp
  obtain ⟨v0, v1, v2, v3, v4⟩ := hWv
  obtain ⟨s0, s1, s2, s3⟩ := hWs
  obtain ⟨f0, f1, f2, f3⟩ := hWf
  refine zz_aload_n hX dX5_ofFrame_0 0 rfl rfl ?_
  refine zz_iload_n hX dX5_ofFrame_1 1 rfl rfl ?_
  refine zz_callV hX zf_M_X5_106 (As := [.int s]) (st := []) (K_shotAt S sh mi mr hW hR s) m1 rfl rfl rfl (by decide) (Nat.le_of_ble_eq_true rfl) (Nat.le_of_ble_eq_true rfl) (Nat.le_of_ble_eq_true rfl) dX5_ofFrame_2 ?_ ?_
  rotate_left
  · rintro e9 s9 i9 m9 ⟨x2, rfl, rfl, rfl, rfl⟩ -; exact zz_out hX hT (Nat.le_of_ble_eq_true rfl) (Nat.le_of_ble_eq_true rfl) (by unfold zq_no; skip; exact ⟨Or.inl ⟨rfl, fun h => x2 (h.1)⟩, rfl, rfl, rfl⟩)
  rintro v9 s9 i9 m9 ⟨i, hi, rfl, rfl, e2, e3, e4⟩ -
  obtain rfl := e2.symm
  obtain rfl := e3.symm
  obtain rfl := e4.symm
  have z_i : zn (nI i) = i := nI_clamp (n := i) (by omega)
  obtain ⟨a1, a2, a3, a4, a5, a6, a7, a8⟩ := zR_sh hW hR hi
  obtain ⟨t1, t2, t3, t4, t5, t6, t7, t8, t9, t10⟩ := a3
  obtain ⟨r1, r2, r3, r4, r5, r6, r7, r8, r9, r10, r11, r12, r13, r14, r15⟩ := t10
  obtain ⟨u1, u2, u3, u4, u5, u6, u7, u8, u9, u10⟩ := hRs i hi
  obtain ⟨b1, b2, b3, b4, b5, b6, b7, b8, b9, b10, b11, b12, b13⟩ := s2 i hi
  refine zz_astore (ls' := [(0, .ref 2), (1, .int (nI i)), (2, .int fx), (3, .int x), (4, .ref (1000 + 100 * i))]) hX dX5_ofFrame_5 (Nat.le_of_ble_eq_true rfl) rfl ?_
  refine zz_aload hX dX5_ofFrame_7 4 rfl ?_
  refine zz_iload_n hX dX5_ofFrame_9 2 rfl rfl ?_
  refine zz_sC hX zf_M_X5_249 (As := [.ref (1000 + 100 * i), .int fx]) (st := []) (K_needStruck S sh mi mr hW hR i hi fx) rfl rfl (by decide) (Nat.le_of_ble_eq_true rfl) (Nat.le_of_ble_eq_true rfl) (Nat.le_of_ble_eq_true rfl) dX5_ofFrame_10 (fun p10 => ?_) (fun x10 => zz_out hX hT (Nat.le_of_ble_eq_true rfl) (Nat.le_of_ble_eq_true rfl) (by unfold zq_no; (try rw [z_i]); exact ⟨Or.inl ⟨rfl, fun h => x10 (h.2)⟩, rfl, rfl, rfl⟩))
  obtain ⟨f, hf, rfl⟩ := zs_ix_of p10 (by omega)
  have z_f : zn (nI f) = f := nI_clamp (n := f) (by omega)
  refine zz_iload_n hX dX5_ofFrame_13 3 rfl rfl ?_
  refine zz_iconst (v := nI 0) hX dX5_ofFrame_14 rfl ?_
  refine zz_iconst (v := nI 3) hX dX5_ofFrame_15 rfl ?_
  refine zz_sC hX zf_M_X5_59 (As := [.int x, .int (nI 0), .int (nI 3)]) (st := []) (k_needRange x (nI 0) (nI 3) sh mi mr) rfl rfl (by decide) (Nat.le_of_ble_eq_true rfl) (Nat.le_of_ble_eq_true rfl) (Nat.le_of_ble_eq_true rfl) dX5_ofFrame_16 (fun p16 => ?_) (fun x16 => zz_out hX hT (Nat.le_of_ble_eq_true rfl) (Nat.le_of_ble_eq_true rfl) (by unfold zq_no; (try rw [z_i]); (try rw [z_f]); exact ⟨Or.inr (Or.inl ⟨rfl, ⟨zs_ix_nI hi (by omega), zs_ix_nI hf (by omega)⟩, fun h => x16 (h)⟩), rfl, rfl, rfl⟩))
  refine zz_iload_n hX dX5_ofFrame_19 3 rfl rfl ?_
  by_cases s20_0 : x = nI 0
  · skip
    refine zz_tableIn hX 48 (off := 28) dX5_ofFrame_20 (by rw [s20_0]; decide) (by rw [s20_0]; decide) (by rw [s20_0]; rfl) (by decide) ?_
    refine zz_aload hX dX5_ofFrame_48 4 rfl ?_
    refine zz_getR (y := (1000 + 100 * i + 5)) hX zf_F_X5_182 t1 rfl t5 dX5_ofFrame_50 ?_
    refine zz_getR (y := (1000 + 100 * i + 7)) hX zf_F_X5_256 r1 rfl r3 dX5_ofFrame_53 ?_
    refine zz_iload_n hX dX5_ofFrame_56 2 rfl rfl ?_
    refine zz_iald (x := S 23 (48 * i + f)) hX r9 f rfl (by omega) (by omega) ((u10 f (by omega)).1) dX5_ofFrame_57 ?_
    refine zz_iret hX hr rfl (Nat.le_of_ble_eq_true rfl) (Nat.le_of_ble_eq_true rfl) dX5_ofFrame_58 ?_
    unfold zq_ok
    (try rw [z_i]); (try rw [z_f])
    exact ⟨⟨⟨zs_ix_nI hi (by omega), zs_ix_nI hf (by omega)⟩, p16, trivial⟩, by rw [if_pos s20_0], hR, zr_same.rfl'⟩
  by_cases s20_1 : x = nI 1
  · skip
    refine zz_tableIn hX 59 (off := 39) dX5_ofFrame_20 (by rw [s20_1]; decide) (by rw [s20_1]; decide) (by rw [s20_1]; rfl) (by decide) ?_
    refine zz_aload hX dX5_ofFrame_59 4 rfl ?_
    refine zz_getR (y := (1000 + 100 * i + 5)) hX zf_F_X5_182 t1 rfl t5 dX5_ofFrame_61 ?_
    refine zz_getR (y := (1000 + 100 * i + 8)) hX zf_F_X5_259 r1 rfl r4 dX5_ofFrame_64 ?_
    refine zz_iload_n hX dX5_ofFrame_67 2 rfl rfl ?_
    refine zz_iald (x := S 25 (48 * i + f)) hX r10 f rfl (by omega) (by omega) ((u10 f (by omega)).2.1) dX5_ofFrame_68 ?_
    refine zz_iret hX hr rfl (Nat.le_of_ble_eq_true rfl) (Nat.le_of_ble_eq_true rfl) dX5_ofFrame_69 ?_
    unfold zq_ok
    (try rw [z_i]); (try rw [z_f])
    exact ⟨⟨⟨zs_ix_nI hi (by omega), zs_ix_nI hf (by omega)⟩, p16, trivial⟩, by rw [if_neg s20_0, if_pos s20_1], hR, zr_same.rfl'⟩
  by_cases s20_2 : x = nI 2
  · skip
    refine zz_tableIn hX 70 (off := 50) dX5_ofFrame_20 (by rw [s20_2]; decide) (by rw [s20_2]; decide) (by rw [s20_2]; rfl) (by decide) ?_
    refine zz_aload hX dX5_ofFrame_70 4 rfl ?_
    refine zz_getR (y := (1000 + 100 * i + 5)) hX zf_F_X5_182 t1 rfl t5 dX5_ofFrame_72 ?_
    refine zz_getR (y := (1000 + 100 * i + 9)) hX zf_F_X5_262 r1 rfl r5 dX5_ofFrame_75 ?_
    refine zz_iload_n hX dX5_ofFrame_78 2 rfl rfl ?_
    refine zz_iald (x := S 26 (48 * i + f)) hX r11 f rfl (by omega) (by omega) ((u10 f (by omega)).2.2.1) dX5_ofFrame_79 ?_
    refine zz_iret hX hr rfl (Nat.le_of_ble_eq_true rfl) (Nat.le_of_ble_eq_true rfl) dX5_ofFrame_80 ?_
    unfold zq_ok
    (try rw [z_i]); (try rw [z_f])
    exact ⟨⟨⟨zs_ix_nI hi (by omega), zs_ix_nI hf (by omega)⟩, p16, trivial⟩, by rw [if_neg s20_0, if_neg s20_1, if_pos s20_2], hR, zr_same.rfl'⟩
  have t20_0 := zs_neqn s20_0 (by decide)
  have t20_1 := zs_neqn s20_1 (by decide)
  have t20_2 := zs_neqn s20_2 (by decide)
  refine zz_tableOut hX 81 dX5_ofFrame_20 (by omega) (by decide) ?_
  refine zz_aload hX dX5_ofFrame_81 4 rfl ?_
  refine zz_getR (y := (1000 + 100 * i + 5)) hX zf_F_X5_182 t1 rfl t5 dX5_ofFrame_83 ?_
  refine zz_getR (y := (1000 + 100 * i + 10)) hX zf_F_X5_265 r1 rfl r6 dX5_ofFrame_86 ?_
  refine zz_iload_n hX dX5_ofFrame_89 2 rfl rfl ?_
  refine zz_iald (x := S 27 (48 * i + f)) hX r12 f rfl (by omega) (by omega) ((u10 f (by omega)).2.2.2.1) dX5_ofFrame_90 ?_
  refine zz_iret hX hr rfl (Nat.le_of_ble_eq_true rfl) (Nat.le_of_ble_eq_true rfl) dX5_ofFrame_91 ?_
  unfold zq_ok
  (try rw [z_i]); (try rw [z_f])
  exact ⟨⟨⟨zs_ix_nI hi (by omega), zs_ix_nI hf (by omega)⟩, p16, trivial⟩, by rw [if_neg s20_0, if_neg s20_1, if_neg s20_2], hR, zr_same.rfl'⟩

/-! what the longer questions answer -/
def zp_bef (S : zS) (i k : Nat) : Int32 := if k = 0 then -1 else zp_mouth S i (k - 1)
def zp_wants (S : zS) (i : Nat) (s : Int32) : Nat → Int32
  | 0 => nI 0
  | k + 1 => if zp_mouth S i k = s ∧ ¬ zp_mouth S i k = zp_bef S i k then zp_wants S i s k + 1 else zp_wants S i s k
def zp_wr (S : zS) (i j : Nat) : Nat → Int32 × Int32
  | 0 => (S 2 (6 * zv_pu S i + j), nI 0)
  | m + 1 => if zp_held S i (zv_sk S i + m) then zp_wr S i j m else (zp_deg S i j (zv_sk S i + m), (zp_wr S i j m).2 + zs_abs (zs_sw (zp_wr S i j m).1 (zp_deg S i j (zv_sk S i + m))))
def zp_atfilm (S : zS) (x : Int32) : Int32 := zs_fst (fun k => x - zs_sum (fun q => S 11 (zv_fl S q)) k < S 11 (zv_fl S k)) (fun k => nI 100 * S 29 k + x - zs_sum (fun q => S 11 (zv_fl S q)) k) (zv_nf S) 0
def zp_f0 (S : zS) (i f : Nat) : Int32 := if zs_any (fun j => ¬ S 22 (48 * (6 * i + j) + f) = zp_deg S i j f) (zv_jn S (zv_pu S i)) = false then 0 else 1
def zp_f1 (S : zS) (i f : Nat) : Int32 := if S 23 (48 * i + f) = zp_mouth S i f then zp_f0 S i f else zp_f0 S i f ||| nI 2
def zp_f2 (S : zS) (i f : Nat) : Int32 := if S 27 (48 * i + f) = 0 then zp_f1 S i f else zp_f1 S i f ||| nI 4
def zp_f3 (S : zS) (i f : Nat) : Int32 := if 0 < f ∧ nI 20 < zs_abs (S 26 (48 * i + f) - S 26 (48 * i + (f - 1))) then zp_f2 S i f ||| nI 8 else zp_f2 S i f
def zp_faults (S : zS) (i f : Nat) : Int32 := if S 25 (48 * i + f) = zp_place S i f then zp_f3 S i f else zp_f3 S i f ||| nI 16
set_option maxRecDepth 20000 in
theorem P_key (S : zS) (sh : zm_Sh) (mi : zm_Mi) (mr : zm_Mr) (hW : zW S) (hR : zR S sh mi mr) (s jx fx d : Int32) : zz_Con yX5_key (.code yX5_key cX5_key 7 (some Jvm.ClassFile.FieldType.int)) 10 10 60 [.ref 2, .int s, .int jx, .int fx, .int d] sh mi mr (zq_ok ((zs_ix s (zv_ns S)) ∧ (zs_ix jx (zv_jn S (zv_pu S (zn s)))) ∧ (zs_ix fx (zv_fr S (zn s)))) ((nI 0 ≤ d ∧ d ≤ nI 359)) ((¬ fx < nI (zv_sk S (zn s))) ∧ (¬ zp_held S (zn s) (zn fx))) (zp_deg S (zn s) (zn jx) (zn fx)) (zm_u2 S 18 (48 * (6 * zn s + zn jx) + zn fx) d) sh mi mr) (zq_no ((zs_ix s (zv_ns S)) ∧ (zs_ix jx (zv_jn S (zv_pu S (zn s)))) ∧ (zs_ix fx (zv_fr S (zn s)))) ((nI 0 ≤ d ∧ d ≤ nI 359)) ((¬ fx < nI (zv_sk S (zn s))) ∧ (¬ zp_held S (zn s) (zn fx))) sh mi mr) := by
  refine zz_begin RX5 [(0, .ref 2), (1, .int s), (2, .int jx), (3, .int fx), (4, .int d)] (by decide) rfl rfl (Nat.le_of_ble_eq_true rfl) rfl ?_
  intro Γ D E ad hX hr hN hT
  obtain ⟨hRm, hRp, hRv, hRs, hRf⟩ := id hR
  obtain ⟨m1, m2, m3, m4, m5, m6, m7, m8, m9, m10, m11, m12, m13, m14, m15, m16, m17, m18, m19, m20⟩ := hRm
  obtain ⟨hWp, hWv, hWs, hWk, hWr, hWf⟩ := id hW
  obtain ⟨p0, p1, p2, p3, p4, p5⟩ := hWp
  obtain ⟨v0, v1, v2, v3, v4⟩ := hWv
  obtain ⟨s0, s1, s2, s3⟩ := hWs
  obtain ⟨f0, f1, f2, f3⟩ := hWf
  refine zz_aload_n hX dX5_key_0 0 rfl rfl ?_
  refine zz_iload_n hX dX5_key_1 1 rfl rfl ?_
  refine zz_callV hX zf_M_X5_106 (As := [.int s]) (st := []) (K_shotAt S sh mi mr hW hR s) m1 rfl rfl rfl (by decide) (Nat.le_of_ble_eq_true rfl) (Nat.le_of_ble_eq_true rfl) (Nat.le_of_ble_eq_true rfl) dX5_key_2 ?_ ?_
  rotate_left
  · rintro e9 s9 i9 m9 ⟨x2, rfl, rfl, rfl, rfl⟩ -; exact zz_out hX hT (Nat.le_of_ble_eq_true rfl) (Nat.le_of_ble_eq_true rfl) (by unfold zq_no; skip; exact ⟨Or.inl ⟨rfl, fun h => x2 (h.1)⟩, rfl, rfl, rfl⟩)
  rintro v9 s9 i9 m9 ⟨i, hi, rfl, rfl, e2, e3, e4⟩ -
  obtain rfl := e2.symm
  obtain rfl := e3.symm
  obtain rfl := e4.symm
  have z_i : zn (nI i) = i := nI_clamp (n := i) (by omega)
  obtain ⟨a1, a2, a3, a4, a5, a6, a7, a8⟩ := zR_sh hW hR hi
  obtain ⟨t1, t2, t3, t4, t5, t6, t7, t8, t9, t10⟩ := a3
  obtain ⟨r1, r2, r3, r4, r5, r6, r7, r8, r9, r10, r11, r12, r13, r14, r15⟩ := t10
  obtain ⟨u1, u2, u3, u4, u5, u6, u7, u8, u9, u10⟩ := hRs i hi
  obtain ⟨b1, b2, b3, b4, b5, b6, b7, b8, b9, b10, b11, b12, b13⟩ := s2 i hi
  refine zz_astore (ls' := [(0, .ref 2), (1, .int (nI i)), (2, .int jx), (3, .int fx), (4, .int d), (5, .ref (1000 + 100 * i))]) hX dX5_key_5 (Nat.le_of_ble_eq_true rfl) rfl ?_
  refine zz_aload hX dX5_key_7 5 rfl ?_
  refine zz_getR (y := (200 + 4 * zv_pu S i)) hX zf_F_X5_134 t1 rfl t2 dX5_key_9 ?_
  refine zz_iload_n hX dX5_key_12 2 rfl rfl ?_
  refine zz_sC hX zf_M_X5_138 (As := [.ref (200 + 4 * zv_pu S i), .int jx]) (st := []) (K_needJoint S sh mi mr hW hR (zv_pu S i) b2 jx) rfl rfl (by decide) (Nat.le_of_ble_eq_true rfl) (Nat.le_of_ble_eq_true rfl) (Nat.le_of_ble_eq_true rfl) dX5_key_13 (fun p13 => ?_) (fun x13 => zz_out hX hT (Nat.le_of_ble_eq_true rfl) (Nat.le_of_ble_eq_true rfl) (by unfold zq_no; (try rw [z_i]); exact ⟨Or.inl ⟨rfl, fun h => x13 (h.2.1)⟩, rfl, rfl, rfl⟩))
  obtain ⟨j, hj, rfl⟩ := zs_ix_of p13 (by omega)
  have z_j : zn (nI j) = j := nI_clamp (n := j) (by omega)
  refine zz_aload hX dX5_key_16 5 rfl ?_
  refine zz_iload_n hX dX5_key_18 3 rfl rfl ?_
  refine zz_sC hX zf_M_X5_142 (As := [.ref (1000 + 100 * i), .int fx]) (st := []) (K_needFrame S sh mi mr hW hR i hi fx) rfl rfl (by decide) (Nat.le_of_ble_eq_true rfl) (Nat.le_of_ble_eq_true rfl) (Nat.le_of_ble_eq_true rfl) dX5_key_19 (fun p19 => ?_) (fun x19 => zz_out hX hT (Nat.le_of_ble_eq_true rfl) (Nat.le_of_ble_eq_true rfl) (by unfold zq_no; (try rw [z_i]); (try rw [z_j]); exact ⟨Or.inl ⟨rfl, fun h => x19 (h.2.2)⟩, rfl, rfl, rfl⟩))
  obtain ⟨f, hf, rfl⟩ := zs_ix_of p19 (by omega)
  have z_f : zn (nI f) = f := nI_clamp (n := f) (by omega)
  refine zz_iload hX dX5_key_22 4 rfl ?_
  refine zz_iconst (v := nI 0) hX dX5_key_24 rfl ?_
  refine zz_sipush (v := nI 359) hX dX5_key_25 rfl ?_
  refine zz_sC hX zf_M_X5_59 (As := [.int d, .int (nI 0), .int (nI 359)]) (st := []) (k_needRange d (nI 0) (nI 359) sh mi mr) rfl rfl (by decide) (Nat.le_of_ble_eq_true rfl) (Nat.le_of_ble_eq_true rfl) (Nat.le_of_ble_eq_true rfl) dX5_key_28 (fun p28 => ?_) (fun x28 => zz_out hX hT (Nat.le_of_ble_eq_true rfl) (Nat.le_of_ble_eq_true rfl) (by unfold zq_no; (try rw [z_i]); (try rw [z_j]); (try rw [z_f]); exact ⟨Or.inr (Or.inl ⟨rfl, ⟨zs_ix_nI hi (by omega), zs_ix_nI hj (by omega), zs_ix_nI hf (by omega)⟩, fun h => x28 (h)⟩), rfl, rfl, rfl⟩))
  refine zz_aload hX dX5_key_31 5 rfl ?_
  refine zz_iload_n hX dX5_key_33 3 rfl rfl ?_
  refine zz_sC hX zf_M_X5_146 (As := [.ref (1000 + 100 * i), .int (nI f)]) (st := []) (K_needNotStruck S sh mi mr hW hR i hi (nI f)) rfl rfl (by decide) (Nat.le_of_ble_eq_true rfl) (Nat.le_of_ble_eq_true rfl) (Nat.le_of_ble_eq_true rfl) dX5_key_34 (fun p34 => ?_) (fun x34 => zz_out hX hT (Nat.le_of_ble_eq_true rfl) (Nat.le_of_ble_eq_true rfl) (by unfold zq_no; (try rw [z_i]); (try rw [z_j]); (try rw [z_f]); exact ⟨Or.inr (Or.inr ⟨rfl, ⟨zs_ix_nI hi (by omega), zs_ix_nI hj (by omega), zs_ix_nI hf (by omega)⟩, p28, fun h => x34 h.1⟩), rfl, rfl, rfl⟩))
  refine zz_aload hX dX5_key_37 5 rfl ?_
  refine zz_iload_n hX dX5_key_39 3 rfl rfl ?_
  refine zz_vI (x := zz_bi (zp_held S i f)) hX zf_M_X5_149 (As := [.int (nI f)]) (st := []) (K_isHeld S sh mi mr hW hR i hi f (by omega)) t1 rfl rfl rfl (by decide) (Nat.le_of_ble_eq_true rfl) (Nat.le_of_ble_eq_true rfl) (Nat.le_of_ble_eq_true rfl) dX5_key_40 ?_
  refine zz_if_eqB hX 56 dX5_key_43 (by decide) (fun c43 => ?_) (fun c43 => ?_)
  · skip
    refine zz_aload hX dX5_key_56 5 rfl ?_
    refine zz_iload_n hX dX5_key_58 2 rfl rfl ?_
    refine zz_iload_n hX dX5_key_59 3 rfl rfl ?_
    refine zz_vI (x := zp_deg S i j f) hX zf_M_X5_154 (As := [.int (nI j), .int (nI f)]) (st := []) (K_sheetDegree S sh mi mr hW hR i hi j hj f (by omega)) t1 rfl rfl rfl (by decide) (Nat.le_of_ble_eq_true rfl) (Nat.le_of_ble_eq_true rfl) (Nat.le_of_ble_eq_true rfl) dX5_key_60 ?_
    refine zz_istore (ls' := [(0, .ref 2), (1, .int (nI i)), (2, .int (nI j)), (3, .int (nI f)), (4, .int d), (5, .ref (1000 + 100 * i)), (6, .int (zp_deg S i j f))]) hX dX5_key_63 (Nat.le_of_ble_eq_true rfl) rfl ?_
    refine zz_aload hX dX5_key_65 5 rfl ?_
    refine zz_getR (y := (1000 + 100 * i + 1)) hX zf_F_X5_158 t1 rfl t3 dX5_key_67 ?_
    refine zz_iload_n hX dX5_key_70 2 rfl rfl ?_
    refine zz_aald (y := (1000 + 100 * i + 20 + 3 * j)) hX t6 (by decide) (by decide) j rfl (by omega) (by omega) (t7 j hj) dX5_key_71 ?_
    refine zz_iload_n hX dX5_key_72 3 rfl rfl ?_
    refine zz_iload hX dX5_key_73 4 rfl ?_
    refine zz_vN hX zf_M_X5_162 (As := [.int (nI f), .int d]) (st := []) (k_tell sh mi mr (1000 + 100 * i + 20 + 3 * j) (1000 + 100 * i + 20 + 3 * j + 1) (1000 + 100 * i + 20 + 3 * j + 2) (zv_fr S i) a2 (t8 j hj).1 (t8 j hj).2.1 (t8 j hj).2.2.1 (t8 j hj).2.2.2.1 (t8 j hj).2.2.2.2 f hf d) (t8 j hj).1 rfl rfl rfl (by decide) (Nat.le_of_ble_eq_true rfl) (Nat.le_of_ble_eq_true rfl) (Nat.le_of_ble_eq_true rfl) dX5_key_75 ?_
    refine zz_iload hX dX5_key_78 6 rfl ?_
    refine zz_iret hX hr rfl (Nat.le_of_ble_eq_true rfl) (Nat.le_of_ble_eq_true rfl) dX5_key_80 ?_
    unfold zq_ok
    (try rw [z_i]); (try rw [z_j]); (try rw [z_f])
    exact ⟨⟨⟨zs_ix_nI hi (by omega), zs_ix_nI hj (by omega), zs_ix_nI hf (by omega)⟩, p28, ⟨p34, c43⟩⟩, rfl, (zR_key hW hR hi hj hf (fun e => by rw [e] at p28; exact absurd p28 (by decide))), (zr_fr (zr_fr zr_same.rfl' (by unfold zr_out; omega)) (by unfold zr_out; omega))⟩
  · skip
    refine zz_throw hX hT zf_T_X5_152 dX5_key_46 dX5_key_49 dX5_key_50 dX5_key_52 dX5_key_55 (by decide) (Nat.le_of_ble_eq_true rfl) (Nat.le_of_ble_eq_true rfl) (Nat.le_of_ble_eq_true rfl) ?_
    unfold zq_no; (try rw [z_i]); (try rw [z_j]); (try rw [z_f]); exact ⟨Or.inr (Or.inr ⟨rfl, ⟨zs_ix_nI hi (by omega), zs_ix_nI hj (by omega), zs_ix_nI hf (by omega)⟩, p28, fun h => h.2 c43⟩), rfl, rfl, rfl⟩

set_option maxRecDepth 20000 in
theorem P_camera (S : zS) (sh : zm_Sh) (mi : zm_Mi) (mr : zm_Mr) (hW : zW S) (hR : zR S sh mi mr) (s fx x : Int32) : zz_Con yX5_camera (.code yX5_camera cX5_camera 6 (some Jvm.ClassFile.FieldType.int)) 10 10 60 [.ref 2, .int s, .int fx, .int x] sh mi mr (zq_ok ((zs_ix s (zv_ns S)) ∧ (zs_ix fx (zv_fr S (zn s)))) (((-999) ≤ x ∧ x ≤ nI 999)) ((¬ fx < nI (zv_sk S (zn s)))) (zp_place S (zn s) (zn fx)) (zm_u2 S 19 (48 * zn s + zn fx) x) sh mi mr) (zq_no ((zs_ix s (zv_ns S)) ∧ (zs_ix fx (zv_fr S (zn s)))) (((-999) ≤ x ∧ x ≤ nI 999)) ((¬ fx < nI (zv_sk S (zn s)))) sh mi mr) := by
  refine zz_begin RX5 [(0, .ref 2), (1, .int s), (2, .int fx), (3, .int x)] (by decide) rfl rfl (Nat.le_of_ble_eq_true rfl) rfl ?_
  intro Γ D E ad hX hr hN hT
  obtain ⟨hRm, hRp, hRv, hRs, hRf⟩ := id hR
  obtain ⟨m1, m2, m3, m4, m5, m6, m7, m8, m9, m10, m11, m12, m13, m14, m15, m16, m17, m18, m19, m20⟩ := hRm
  obtain ⟨hWp, hWv, hWs, hWk, hWr, hWf⟩ := id hW
  obtain ⟨p0, p1, p2, p3, p4, p5⟩ := hWp
  obtain ⟨v0, v1, v2, v3, v4⟩ := hWv
  obtain ⟨s0, s1, s2, s3⟩ := hWs
  obtain ⟨f0, f1, f2, f3⟩ := hWf
  refine zz_aload_n hX dX5_camera_0 0 rfl rfl ?_
  refine zz_iload_n hX dX5_camera_1 1 rfl rfl ?_
  refine zz_callV hX zf_M_X5_106 (As := [.int s]) (st := []) (K_shotAt S sh mi mr hW hR s) m1 rfl rfl rfl (by decide) (Nat.le_of_ble_eq_true rfl) (Nat.le_of_ble_eq_true rfl) (Nat.le_of_ble_eq_true rfl) dX5_camera_2 ?_ ?_
  rotate_left
  · rintro e9 s9 i9 m9 ⟨x2, rfl, rfl, rfl, rfl⟩ -; exact zz_out hX hT (Nat.le_of_ble_eq_true rfl) (Nat.le_of_ble_eq_true rfl) (by unfold zq_no; skip; exact ⟨Or.inl ⟨rfl, fun h => x2 (h.1)⟩, rfl, rfl, rfl⟩)
  rintro v9 s9 i9 m9 ⟨i, hi, rfl, rfl, e2, e3, e4⟩ -
  obtain rfl := e2.symm
  obtain rfl := e3.symm
  obtain rfl := e4.symm
  have z_i : zn (nI i) = i := nI_clamp (n := i) (by omega)
  obtain ⟨a1, a2, a3, a4, a5, a6, a7, a8⟩ := zR_sh hW hR hi
  obtain ⟨t1, t2, t3, t4, t5, t6, t7, t8, t9, t10⟩ := a3
  obtain ⟨r1, r2, r3, r4, r5, r6, r7, r8, r9, r10, r11, r12, r13, r14, r15⟩ := t10
  obtain ⟨u1, u2, u3, u4, u5, u6, u7, u8, u9, u10⟩ := hRs i hi
  obtain ⟨b1, b2, b3, b4, b5, b6, b7, b8, b9, b10, b11, b12, b13⟩ := s2 i hi
  refine zz_astore (ls' := [(0, .ref 2), (1, .int (nI i)), (2, .int fx), (3, .int x), (4, .ref (1000 + 100 * i))]) hX dX5_camera_5 (Nat.le_of_ble_eq_true rfl) rfl ?_
  refine zz_aload hX dX5_camera_7 4 rfl ?_
  refine zz_iload_n hX dX5_camera_9 2 rfl rfl ?_
  refine zz_sC hX zf_M_X5_142 (As := [.ref (1000 + 100 * i), .int fx]) (st := []) (K_needFrame S sh mi mr hW hR i hi fx) rfl rfl (by decide) (Nat.le_of_ble_eq_true rfl) (Nat.le_of_ble_eq_true rfl) (Nat.le_of_ble_eq_true rfl) dX5_camera_10 (fun p10 => ?_) (fun x10 => zz_out hX hT (Nat.le_of_ble_eq_true rfl) (Nat.le_of_ble_eq_true rfl) (by unfold zq_no; (try rw [z_i]); exact ⟨Or.inl ⟨rfl, fun h => x10 (h.2)⟩, rfl, rfl, rfl⟩))
  obtain ⟨f, hf, rfl⟩ := zs_ix_of p10 (by omega)
  have z_f : zn (nI f) = f := nI_clamp (n := f) (by omega)
  refine zz_iload_n hX dX5_camera_13 3 rfl rfl ?_
  refine zz_sipush (v := (-999)) hX dX5_camera_14 rfl ?_
  refine zz_sipush (v := nI 999) hX dX5_camera_17 rfl ?_
  refine zz_sC hX zf_M_X5_59 (As := [.int x, .int (-999), .int (nI 999)]) (st := []) (k_needRange x (-999) (nI 999) sh mi mr) rfl rfl (by decide) (Nat.le_of_ble_eq_true rfl) (Nat.le_of_ble_eq_true rfl) (Nat.le_of_ble_eq_true rfl) dX5_camera_20 (fun p20 => ?_) (fun x20 => zz_out hX hT (Nat.le_of_ble_eq_true rfl) (Nat.le_of_ble_eq_true rfl) (by unfold zq_no; (try rw [z_i]); (try rw [z_f]); exact ⟨Or.inr (Or.inl ⟨rfl, ⟨zs_ix_nI hi (by omega), zs_ix_nI hf (by omega)⟩, fun h => x20 (h)⟩), rfl, rfl, rfl⟩))
  refine zz_aload hX dX5_camera_23 4 rfl ?_
  refine zz_iload_n hX dX5_camera_25 2 rfl rfl ?_
  refine zz_sC hX zf_M_X5_146 (As := [.ref (1000 + 100 * i), .int (nI f)]) (st := []) (K_needNotStruck S sh mi mr hW hR i hi (nI f)) rfl rfl (by decide) (Nat.le_of_ble_eq_true rfl) (Nat.le_of_ble_eq_true rfl) (Nat.le_of_ble_eq_true rfl) dX5_camera_26 (fun p26 => ?_) (fun x26 => zz_out hX hT (Nat.le_of_ble_eq_true rfl) (Nat.le_of_ble_eq_true rfl) (by unfold zq_no; (try rw [z_i]); (try rw [z_f]); exact ⟨Or.inr (Or.inr ⟨rfl, ⟨zs_ix_nI hi (by omega), zs_ix_nI hf (by omega)⟩, p20, fun h => x26 h⟩), rfl, rfl, rfl⟩))
  refine zz_aload hX dX5_camera_29 4 rfl ?_
  refine zz_getR (y := (1000 + 100 * i + 2)) hX zf_F_X5_167 t1 rfl t4 dX5_camera_31 ?_
  refine zz_iload_n hX dX5_camera_34 2 rfl rfl ?_
  refine zz_vI (x := zp_place S i f) hX zf_M_X5_171 (As := [.int (nI f)]) (st := []) (K_placeAt S sh mi mr hW hR i hi f (by omega)) t9.1 rfl rfl rfl (by decide) (Nat.le_of_ble_eq_true rfl) (Nat.le_of_ble_eq_true rfl) (Nat.le_of_ble_eq_true rfl) dX5_camera_35 ?_
  refine zz_istore (ls' := [(0, .ref 2), (1, .int (nI i)), (2, .int (nI f)), (3, .int x), (4, .ref (1000 + 100 * i)), (5, .int (zp_place S i f))]) hX dX5_camera_38 (Nat.le_of_ble_eq_true rfl) rfl ?_
  refine zz_aload hX dX5_camera_40 4 rfl ?_
  refine zz_getR (y := (1000 + 100 * i + 2)) hX zf_F_X5_167 t1 rfl t4 dX5_camera_42 ?_
  refine zz_iload_n hX dX5_camera_45 2 rfl rfl ?_
  refine zz_iload_n hX dX5_camera_46 3 rfl rfl ?_
  refine zz_vN hX zf_M_X5_162 (As := [.int (nI f), .int x]) (st := []) (k_tell sh mi mr (1000 + 100 * i + 2) (1000 + 100 * i + 2 + 1) (1000 + 100 * i + 2 + 2) (zv_fr S i) a2 t9.1 t9.2.1 t9.2.2.1 t9.2.2.2.1 t9.2.2.2.2 f hf x) t9.1 rfl rfl rfl (by decide) (Nat.le_of_ble_eq_true rfl) (Nat.le_of_ble_eq_true rfl) (Nat.le_of_ble_eq_true rfl) dX5_camera_47 ?_
  refine zz_iload hX dX5_camera_50 5 rfl ?_
  refine zz_iret hX hr rfl (Nat.le_of_ble_eq_true rfl) (Nat.le_of_ble_eq_true rfl) dX5_camera_52 ?_
  unfold zq_ok
  (try rw [z_i]); (try rw [z_f])
  exact ⟨⟨⟨zs_ix_nI hi (by omega), zs_ix_nI hf (by omega)⟩, p20, p26⟩, rfl, (zR_cam hW hR hi hf (fun e => by rw [e] at p20; exact absurd p20 (by decide))), (zr_fr (zr_fr zr_same.rfl' (by unfold zr_out; omega)) (by unfold zr_out; omega))⟩

