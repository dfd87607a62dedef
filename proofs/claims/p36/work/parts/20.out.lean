/-! ===== a shot out of the film ===== -/
def zs_shf (m : Nat → Nat → Int32) (l q k : Nat) : Nat → Nat → Int32 := fun a b => if a = l ∧ q ≤ b ∧ b < k then m l (b + 1) else m a b
theorem zs_shf_0 {m : Nat → Nat → Int32} {l q : Nat} : zs_shf m l q q = m := funext fun a => funext fun b => if_neg (by omega)
theorem zs_shf_s {m : Nat → Nat → Int32} {l q k : Nat} (h : q ≤ k) : zm_u2 (zs_shf m l q k) l k (m l (k + 1)) = zs_shf m l q (k + 1) := by
  funext a b
  unfold zm_u2 zs_shf
  by_cases e : a = l ∧ b = k
  · rw [if_pos e, if_pos ⟨e.1, by omega, by omega⟩, e.2]
  · rw [if_neg e]
    by_cases c : a = l ∧ q ≤ b ∧ b < k
    · rw [if_pos c, if_pos ⟨c.1, c.2.1, by omega⟩]
    · rw [if_neg c, if_neg (by omega)]
theorem zs_shf_r {m : Nat → Nat → Int32} {l q k a b : Nat} (h : k ≤ b ∨ a ≠ l) : zs_shf m l q k a b = m a b := if_neg (by omega)
def zt_out (S : zS) (q : Nat) : zS := fun r c => if r = 28 ∧ c = 0 then nI (zv_nf S - 1) else zs_shf S 29 q (zv_nf S - 1) r c
theorem zt_out_nf {S : zS} {q : Nat} (h : zv_nf S ≤ 8) : zv_nf (zt_out S q) = zv_nf S - 1 := by
  show zn (zt_out S q 28 0) = _
  rw [show zt_out S q 28 0 = nI (zv_nf S - 1) from if_pos ⟨rfl, rfl⟩]
  exact nI_clamp (n := zv_nf S - 1) (by omega)
theorem zt_out_29 {S : zS} {q k : Nat} (h : k < zv_nf S - 1) : zt_out S q 29 k = if q ≤ k then S 29 (k + 1) else S 29 k := by
  show (if 29 = 28 ∧ k = 0 then nI (zv_nf S - 1) else zs_shf S 29 q (zv_nf S - 1) 29 k) = _
  rw [if_neg (by omega)]
  unfold zs_shf
  by_cases e : q ≤ k
  · rw [if_pos ⟨rfl, e, h⟩, if_pos e]
  · rw [if_neg (by omega), if_neg e]
theorem zt_out_r {S : zS} {q r : Nat} (h1 : r ≠ 28) (h2 : r ≠ 29) : zt_out S q r = S r := funext fun c => (if_neg (by omega)).trans (zs_shf_r (Or.inr h2))
theorem zW_out {S : zS} (hW : zW S) {q : Nat} (hq : q < zv_nf S) : zW (zt_out S q) := by
  obtain ⟨f0, f1, f2, f3, f4⟩ := id hW.2.2.2.2.2
  have hns : zv_ns (zt_out S q) = zv_ns S := by show zn (zt_out S q 9 0) = _; rw [zt_out_r (by decide) (by decide)]
  have hfl : ∀ k, k < zv_nf S - 1 → zv_fl (zt_out S q) k = if q ≤ k then zv_fl S (k + 1) else zv_fl S k := fun k hk => by
    show zn (zt_out S q 29 k) = _
    rw [zt_out_29 hk]
    by_cases e : q ≤ k
    · rw [if_pos e, if_pos e]
    · rw [if_neg e, if_neg e]
  refine zW_film hW (fun r h1 h2 => zt_out_r h1 h2) ⟨?_, ?_, fun k hk => ?_, fun a b ha hb hab => ?_, fun a => ?_⟩
  · rw [zt_out_nf f1]; exact if_pos ⟨rfl, rfl⟩
  · rw [zt_out_nf f1]; omega
  · rw [zt_out_nf f1] at hk
    rw [hfl k hk, zt_out_29 hk, hns]
    by_cases e : q ≤ k
    · rw [if_pos e, if_pos e]; exact f2 (k + 1) (by omega)
    · rw [if_neg e, if_neg e]; exact f2 k (by omega)
  · rw [zt_out_nf f1] at ha hb
    rw [hfl a ha, hfl b hb] at hab
    by_cases e : q ≤ a <;> by_cases e' : q ≤ b
    · rw [if_pos e, if_pos e'] at hab; have := f3 (a + 1) (b + 1) (by omega) (by omega) hab; omega
    · rw [if_pos e, if_neg e'] at hab; have := f3 (a + 1) b (by omega) (by omega) hab; omega
    · rw [if_neg e, if_pos e'] at hab; have := f3 a (b + 1) (by omega) (by omega) hab; omega
    · rw [if_neg e, if_neg e'] at hab; exact f3 a b (by omega) (by omega) hab
  · rw [zt_out_r (by decide) (by decide)]; exact f4 a
theorem zR_outf {S : zS} {sh : zm_Sh} {mi : zm_Mi} {mr : zm_Mr} (hW : zW S) (hR : zR S sh mi mr) {q : Nat} (hq : q < zv_nf S) : zR (zt_out S q) sh (zs_shf (zm_u2 mi 2 9 (nI (zv_nf S - 1))) 7 q (zv_nf S - 1)) mr := by
  have f1 := hW.2.2.2.2.2.2.1
  refine zR_film hW hR (fun r h1 h2 => zt_out_r h1 h2) (fun a b h1 h2 => (zs_shf_r (Or.inr h2)).trans (if_neg h1)) ?_ (fun k hk => ?_)
  · rw [zs_shf_r (Or.inr (by decide)), zm_u2s]
    exact (if_pos ⟨rfl, rfl⟩).symm
  · rw [zt_out_nf f1] at hk
    have m20 := hR.1.2.2.2.2.2.2.2.2.2.2.2.2.2.2.2.2.2.2.2
    rw [zt_out_29 hk]
    unfold zs_shf
    by_cases e : q ≤ k
    · rw [if_pos ⟨rfl, e, hk⟩, if_pos e, zm_u2l (by decide)]; exact m20 (k + 1) (by omega)
    · rw [if_neg (by omega), if_neg e, zm_u2l (by decide)]; exact m20 k (by omega)

theorem zp_cut_some {S : zS} (hW : zW S) {s : Int32} (h : ¬ zp_cut S s = -1) : ∃ q, q < zv_nf S ∧ zp_cut S s = nI q := by
  rcases zs_fst_cases (fun k => S 29 k = s) nI (zv_nf S) 0 with ⟨e, -⟩ | ⟨j, h1, h2, h3, h4, -⟩
  · exact absurd e h
  · exact ⟨j, by omega, h4⟩
set_option maxRecDepth 20000 in
theorem P_cutOut (S : zS) (sh : zm_Sh) (mi : zm_Mi) (mr : zm_Mr) (hW : zW S) (hR : zR S sh mi mr) (s : Int32) : zz_Con yX5_cutOut (.code yX5_cutOut cX5_cutOut 4 (some Jvm.ClassFile.FieldType.int)) 10 10 60 [.ref 2, .int s] sh mi mr (zq_ok ((zs_ix s (zv_ns S))) (True) ((¬ zp_cut S s = -1)) (zp_film (zt_out S (zn (zp_cut S s)))) (zt_out S (zn (zp_cut S s))) sh mi mr) (zq_no ((zs_ix s (zv_ns S))) (True) ((¬ zp_cut S s = -1)) sh mi mr) := by
  refine zz_begin RX5 [(0, .ref 2), (1, .int s)] (by decide) rfl rfl (Nat.le_of_ble_eq_true rfl) rfl ?_
  intro Γ D E ad hX hr hN hT
  obtain ⟨hRm, hRp, hRv, hRs, hRf⟩ := id hR
  obtain ⟨m1, m2, m3, m4, m5, m6, m7, m8, m9, m10, m11, m12, m13, m14, m15, m16, m17, m18, m19, m20⟩ := hRm
  obtain ⟨hWp, hWv, hWs, hWk, hWr, hWf⟩ := id hW
  obtain ⟨p0, p1, p2, p3, p4, p5⟩ := hWp
  obtain ⟨v0, v1, v2, v3, v4⟩ := hWv
  obtain ⟨s0, s1, s2, s3⟩ := hWs
  obtain ⟨f0, f1, f2, f3⟩ := hWf
  refine zz_aload_n hX dX5_cutOut_0 0 rfl rfl ?_
  refine zz_iload_n hX dX5_cutOut_1 1 rfl rfl ?_
  refine zz_vC hX zf_M_X5_226 (As := [.int s]) (st := []) (K_needShot S sh mi mr hW hR s) m1 rfl rfl rfl (by decide) (Nat.le_of_ble_eq_true rfl) (Nat.le_of_ble_eq_true rfl) (Nat.le_of_ble_eq_true rfl) dX5_cutOut_2 (fun p2 => ?_) (fun x2 => zz_out hX hT (Nat.le_of_ble_eq_true rfl) (Nat.le_of_ble_eq_true rfl) (by unfold zq_no; skip; exact ⟨Or.inl ⟨rfl, fun h => x2 (h)⟩, rfl, rfl, rfl⟩))
  refine zz_aload_n hX dX5_cutOut_5 0 rfl rfl ?_
  refine zz_iload_n hX dX5_cutOut_6 1 rfl rfl ?_
  refine zz_vI (x := zp_cut S s) hX zf_M_X5_213 (As := [.int s]) (st := []) (K_cutIndex S sh mi mr hW hR s) m1 rfl rfl rfl (by decide) (Nat.le_of_ble_eq_true rfl) (Nat.le_of_ble_eq_true rfl) (Nat.le_of_ble_eq_true rfl) dX5_cutOut_7 ?_
  refine zz_istore_n (ls' := [(0, .ref 2), (1, .int s), (2, .int (zp_cut S s))]) hX dX5_cutOut_10 rfl (Nat.le_of_ble_eq_true rfl) rfl ?_
  refine zz_iload_n hX dX5_cutOut_11 2 rfl rfl ?_
  refine zz_iconst (v := (-1)) hX dX5_cutOut_12 rfl ?_
  refine zz_icmp_ne hX 26 dX5_cutOut_13 (by decide) (fun c13 => ?_) (fun c13 => ?_)
  · skip
    obtain ⟨q, hq, e9⟩ := zp_cut_some hW c13
    have z_q : zn (nI q) = q := nI_clamp (n := q) (by omega)
    rw [e9]
    refine zz_aload_n hX dX5_cutOut_26 0 rfl rfl ?_
    refine zz_dup hX dX5_cutOut_27 rfl ?_
    refine zz_getI (x := nI (zv_nf S)) hX zf_F_X5_50.r m1 rfl ((m16.trans f0)) dX5_cutOut_28 ?_
    refine zz_iconst (v := nI 1) hX dX5_cutOut_31 rfl ?_
    refine zz_isub (z := nI ((zv_nf S) - 1)) hX dX5_cutOut_32 (pk_sub (by omega)) ?_
    refine zz_putI hX zf_F_X5_50 m1 rfl rfl rfl dX5_cutOut_33 ?_
    refine zz_iload_n hX dX5_cutOut_36 2 rfl rfl ?_
    refine zz_istore_n (ls' := [(0, .ref 2), (1, .int s), (2, .int (nI q)), (3, .int (nI q))]) hX dX5_cutOut_37 rfl (Nat.le_of_ble_eq_true rfl) rfl ?_
    refine zz_mem (zs_shf_0 (m := (zm_u2 mi 2 9 (nI (zv_nf S - 1)))) (l := 7) (q := q)).symm ?_
    have L38 : ∀ (k38 : Nat) (k : Nat), zv_nf S - k < k38 → (q ≤ k) → (k ≤ zv_nf S - 1) → zz Γ (D, E, 4, ad, sh) (zz_End Γ (D, E, 4, ad, sh) (zq_ok ((zs_ix s (zv_ns S))) (True) ((¬ (nI q) = -1)) (zp_film (zt_out S (zn ((nI q))))) (zt_out S (zn ((nI q)))) sh mi mr) (zq_no ((zs_ix s (zv_ns S))) (True) ((¬ (nI q) = -1)) sh mi mr) 10 60) 1 6 sh (zs_shf (zm_u2 mi 2 9 (nI (zv_nf S - 1))) 7 q k) mr 38 [(0, .ref 2), (1, .int s), (2, .int (nI q)), (3, .int (nI k))] [] := by
      intro k38
      induction k38 with
      | zero => intro k hk38; exact absurd hk38 (Nat.not_lt_zero _)
      | succ k38 ih38 =>
        intro k hk38 hk8 hk9
        refine zz_iload_n hX dX5_cutOut_38 3 rfl rfl ?_
        refine zz_aload_n hX dX5_cutOut_39 0 rfl rfl ?_
        refine zz_getI (x := nI (zv_nf S - 1)) hX zf_F_X5_50.r m1 rfl (((zs_shf_r (Or.inr (by decide))).trans zm_u2s)) dX5_cutOut_40 ?_
        refine zz_icmp_geN hX (by omega) (by omega) 66 dX5_cutOut_43 (by decide) (fun c43 => ?_) (fun c43 => ?_)
        · skip
          obtain rfl : k = zv_nf S - 1 := by omega
          refine zz_aload_n hX dX5_cutOut_66 0 rfl rfl ?_
          refine zz_vI (x := zp_film (zt_out S q)) hX zf_M_X5_223 (As := []) (st := []) (K_filmLength (zt_out S q) sh (zs_shf (zm_u2 mi 2 9 (nI (zv_nf S - 1))) 7 q (zv_nf S - 1)) mr (zW_out hW hq) (zR_outf hW hR hq)) m1 rfl rfl rfl (by decide) (Nat.le_of_ble_eq_true rfl) (Nat.le_of_ble_eq_true rfl) (Nat.le_of_ble_eq_true rfl) dX5_cutOut_67 ?_
          refine zz_iret hX hr rfl (Nat.le_of_ble_eq_true rfl) (Nat.le_of_ble_eq_true rfl) dX5_cutOut_70 ?_
          unfold zq_ok
          (try rw [z_q])
          exact ⟨⟨p2, trivial, (e9 ▸ c13)⟩, rfl, (zR_outf hW hR hq), (fun l hl => ⟨rfl, funext fun b => (zs_shf_r (Or.inr (fun e => by unfold zr_out at hl; omega))).trans (zm_u2l (fun e => by unfold zr_out at hl; omega)), rfl⟩)⟩
        · skip
          refine zz_aload_n hX dX5_cutOut_46 0 rfl rfl ?_
          refine zz_getR (y := 7) hX zf_F_X5_46.r m1 rfl m7 dX5_cutOut_47 ?_
          refine zz_iload_n hX dX5_cutOut_50 3 rfl rfl ?_
          refine zz_aload_n hX dX5_cutOut_51 0 rfl rfl ?_
          refine zz_getR (y := 7) hX zf_F_X5_46.r m1 rfl m7 dX5_cutOut_52 ?_
          refine zz_iload_n hX dX5_cutOut_55 3 rfl rfl ?_
          refine zz_iconst (v := nI 1) hX dX5_cutOut_56 rfl ?_
          refine zz_iadd (z := nI (k + 1)) hX dX5_cutOut_57 (nI_add _ _) ?_
          refine zz_iald (x := (zm_u2 mi 2 9 (nI (zv_nf S - 1))) 7 (k + 1)) hX m12 (k + 1) rfl (by omega) (by decide) ((zs_shf_r (Or.inl (by omega)))) dX5_cutOut_58 ?_
          refine zz_iast hX m12 k rfl (by omega) (by decide) dX5_cutOut_59 ?_
          refine zz_iinc (v := nI (k + 1)) (ls' := [(0, .ref 2), (1, .int s), (2, .int (nI q)), (3, .int (nI (k + 1)))]) hX dX5_cutOut_60 3 rfl (nI_1 _) (Nat.le_of_ble_eq_true rfl) rfl ?_
          refine zz_goto hX 38 dX5_cutOut_63 (by decide) ?_
          refine zz_mem (zs_shf_s (by omega)) ?_
          exact ih38 (k + 1) (by omega) (by omega) (by omega)
    exact L38 ((zv_nf S - q + 1)) q (by omega) (Nat.le_refl _) (by omega)
  · skip
    refine zz_throw hX hT zf_T_X5_229 dX5_cutOut_16 dX5_cutOut_19 dX5_cutOut_20 dX5_cutOut_22 dX5_cutOut_25 (by decide) (Nat.le_of_ble_eq_true rfl) (Nat.le_of_ble_eq_true rfl) (Nat.le_of_ble_eq_true rfl) ?_
    unfold zq_no; (try rw [z_q]); exact ⟨Or.inr (Or.inr ⟨rfl, p2, trivial, fun h => h c13⟩), rfl, rfl, rfl⟩

