/-! ===== what stands in the way ===== -/
def ql_bk (S : zS) (i k : Nat) : Nat := if zs_any (fun k => ¬ k = i ∧ zp_on S k ∧ S 14 k = S 14 i) k = true then 3 else if zs_any (fun k => ¬ k = i ∧ zp_on S k ∧ zv_pu S k = zv_pu S i) k = true then 4 else 0
def ql_br (S : zS) (p k : Nat) : Nat := if zs_any (fun j => nI 1000 ≤ S 3 (6 * p + j)) k = true then 5 else 0
theorem ql_bk_3 {S : zS} {i k : Nat} (h : ¬ k = i ∧ zp_on S k ∧ S 14 k = S 14 i) : ql_bk S i (k + 1) = 3 := if_pos ((zs_any_s (p := fun k => ¬ k = i ∧ zp_on S k ∧ S 14 k = S 14 i) k).mpr (Or.inr h))
theorem ql_bk_4 {S : zS} {i k : Nat} (h1 : ¬ (¬ k = i ∧ zp_on S k ∧ S 14 k = S 14 i)) (h : ¬ k = i ∧ zp_on S k ∧ zv_pu S k = zv_pu S i) (h0 : ql_bk S i k = 0) : ql_bk S i (k + 1) = 4 := by
  unfold ql_bk at h0 ⊢
  have g1 : ¬ zs_any (fun k => ¬ k = i ∧ zp_on S k ∧ S 14 k = S 14 i) k = true := fun q => by rw [if_pos q] at h0; cases h0
  rw [if_neg (fun q => ((zs_any_s (p := fun k => ¬ k = i ∧ zp_on S k ∧ S 14 k = S 14 i) k).mp q).elim g1 h1), if_pos ((zs_any_s (p := fun k => ¬ k = i ∧ zp_on S k ∧ zv_pu S k = zv_pu S i) k).mpr (Or.inr h))]
theorem ql_bk_s {S : zS} {i k : Nat} (h1 : ¬ (¬ k = i ∧ zp_on S k ∧ S 14 k = S 14 i)) (h : ¬ (¬ k = i ∧ zp_on S k ∧ zv_pu S k = zv_pu S i) ∨ ¬ ql_bk S i k = 0) : ql_bk S i (k + 1) = ql_bk S i k := by
  have e1 := zs_any_s (p := fun k => ¬ k = i ∧ zp_on S k ∧ S 14 k = S 14 i) k
  have e2 := zs_any_s (p := fun k => ¬ k = i ∧ zp_on S k ∧ zv_pu S k = zv_pu S i) k
  unfold ql_bk at h ⊢
  by_cases g1 : zs_any (fun k => ¬ k = i ∧ zp_on S k ∧ S 14 k = S 14 i) k = true
  · rw [if_pos (e1.mpr (Or.inl g1)), if_pos g1]
  · rw [if_neg (fun q => (e1.mp q).elim g1 h1), if_neg g1]
    by_cases g2 : zs_any (fun k => ¬ k = i ∧ zp_on S k ∧ zv_pu S k = zv_pu S i) k = true
    · rw [if_pos (e2.mpr (Or.inl g2)), if_pos g2]
    · rw [if_neg (fun q => (e2.mp q).elim g2 (h.resolve_right (fun z => z (by rw [if_neg g1, if_neg g2])))), if_neg g2]
theorem ql_bk_le {S : zS} {i k : Nat} : ql_bk S i k ≤ 4 := by unfold ql_bk; split <;> (try split) <;> decide
theorem ql_br_le {S : zS} {p k : Nat} : ql_br S p k ≤ 5 := by unfold ql_br; split <;> decide
theorem ql_br_5 {S : zS} {p k : Nat} (h : nI 1000 ≤ S 3 (6 * p + k)) : ql_br S p (k + 1) = 5 := if_pos ((zs_any_s (p := fun j => nI 1000 ≤ S 3 (6 * p + j)) k).mpr (Or.inr h))
theorem ql_br_s {S : zS} {p k : Nat} (h : ¬ nI 1000 ≤ S 3 (6 * p + k)) : ql_br S p (k + 1) = ql_br S p k := by
  have e := zs_any_s (p := fun j => nI 1000 ≤ S 3 (6 * p + j)) k
  unfold ql_br
  by_cases g : zs_any (fun j => nI 1000 ≤ S 3 (6 * p + j)) k = true
  · rw [if_pos (e.mpr (Or.inl g)), if_pos g]
  · rw [if_neg (fun q => (e.mp q).elim g h), if_neg g]
theorem ql_bar_bk {S : zS} {i : Nat} (h1 : ¬ zv_fr S i ≤ zv_sk S i) (h2 : ¬ S 14 i = -1) (h3 : S 17 (zn (S 14 i)) = 0) : zp_bar S i = if ql_bk S i (zv_ns S) = 0 then (if zp_held S i (zv_sk S i) then 0 else zp_pbar S i) else ql_bk S i (zv_ns S) := by
  unfold zp_bar
  rw [if_neg h1, if_neg h2, if_neg (fun q => q h3)]
  unfold ql_bk
  by_cases g1 : zp_busy S i
  · rw [if_pos g1, if_pos g1]; rfl
  · rw [if_neg g1, if_neg g1]
    by_cases g2 : zp_puse S i
    · rw [if_pos g2, if_pos g2]; rfl
    · rw [if_neg g2, if_neg g2]; rfl
theorem ql_br_eq {S : zS} {p : Nat} : (ql_br S p (zv_jn S p) = 0 ↔ ¬ zp_brk S p) ∧ (¬ ql_br S p (zv_jn S p) = 0 → ql_br S p (zv_jn S p) = 5) := by
  unfold ql_br
  by_cases g : zp_brk S p
  · rw [if_pos g]; exact ⟨⟨(fun h => nomatch h), fun h => absurd g h⟩, fun _ => rfl⟩
  · rw [if_neg g]; exact ⟨⟨fun _ => g, fun _ => rfl⟩, fun h => absurd rfl h⟩
section ZL6
variable {n : Nat} {S : zS} {sh : zm_Sh} {mi : zm_Mi} {mr : zm_Mr}
theorem ql_i1 (h : zW S) (a : Nat) : zn (S 17 a) ≤ 1 ∧ (S 17 a = 0 ↔ zn (S 17 a) = 0) := by
  rcases h.2.2.2.2.2.2.2.2.2 a with e | e <;> rw [e] <;> decide
theorem ql_iw_lt (h : ql_I n S sh mi) : ql_iw S < 32 := by
  have a0 := (ql_i1 (ql_W h) 0).1
  have a1 := (ql_i1 (ql_W h) 1).1
  have a2 := (ql_i1 (ql_W h) 2).1
  have a3 := (ql_i1 (ql_W h) 3).1
  have a4 := (ql_i1 (ql_W h) 4).1
  unfold ql_iw; omega
theorem ql_iw_b (h : zW S) {a : Nat} (ha : a < 5) : ql_iw S / 2 ^ a % 2 = zn (S 17 a) := by
  have a0 := (ql_i1 h 0).1
  have a1 := (ql_i1 h 1).1
  have a2 := (ql_i1 h 2).1
  have a3 := (ql_i1 h 3).1
  have a4 := (ql_i1 h 4).1
  unfold ql_iw
  have hc : a = 0 ∨ a = 1 ∨ a = 2 ∨ a = 3 ∨ a = 4 := by omega
  rcases hc with rfl | rfl | rfl | rfl | rfl
  · show _ / 1 % 2 = _; omega
  · show _ / 2 % 2 = _; omega
  · show _ / 4 % 2 = _; omega
  · show _ / 8 % 2 = _; omega
  · show _ / 16 % 2 = _; omega
theorem ql_iw_ill (h : zW S) {a : Nat} (ha : a < 5) : (ql_iw S / 2 ^ a % 2 = 1 ↔ ¬ S 17 a = 0) := by
  have e := ql_iw_b h ha
  have f := ql_i1 h a
  rw [e, f.2]; omega
theorem ql_Jd (h : ql_I n S sh mi) (a : Nat) : zv_in (S 3 a) 0 100000 := by
  have h1 := (ql_BB h).2.2.2.2.1 a
  have h2 := ql_64 h
  unfold zv_in at *
  omega
theorem ql_S2 (h : ql_I n S sh mi) (a : Nat) : zv_in (S 2 a) 0 359 := (ql_W h).1.2.2.2.1 a
end ZL6
set_option maxRecDepth 20000 in
theorem Q_bars (n : Nat) (S : zS) (sh : zm_Sh) (mi : zm_Mi) (mr : zm_Mr) (hI : ql_I n S sh mi) (i : Nat) (hi : i < zv_ns S) : zz_Con yL_bars (.code yL_bars cL_bars 13 (some Jvm.ClassFile.FieldType.int)) 3 0 0 [.ref 100, .ref 101, .ref 102, .ref 103, .ref 104, .ref 108, .ref 109, .int (nI i)] sh mi mr (zz_q (some (.int (nI (zp_bar S i)))) sh mi mr) zz_none := by
  refine zz_begin RL [(0, .ref 100), (1, .ref 101), (2, .ref 102), (3, .ref 103), (4, .ref 104), (5, .ref 108), (6, .ref 109), (7, .int (nI i))] (by decide) rfl rfl (Nat.le_of_ble_eq_true rfl) rfl ?_
  intro Γ D E ad hX hr hN hT
  have hw9 := ql_hw_lt hI hi
  obtain ⟨q1, q2, q3, q4, q5, q6, q7, q8, q9, q10, q11, q12⟩ := ql_shot hI hi
  refine zz_aload hX dL_bars_0 4 rfl ?_
  refine zz_iload hX dL_bars_2 7 rfl ?_
  refine zz_iald (x := nI (ql_hw S i)) hX (ql_s104 hI) i rfl (by omega) (by decide) ((ql_rd_h hI (by omega))) dL_bars_4 ?_
  refine zz_sipush (v := nI 1024) hX dL_bars_5 rfl ?_
  refine zz_idiv (z := nI ((ql_hw S i) / 1024)) hX dL_bars_8 (by decide) (pk_div (by omega) (by decide) (by decide)) ?_
  refine zz_bipush (v := nI 8) hX dL_bars_9 rfl ?_
  refine zz_irem (z := nI (((ql_hw S i) / 1024) % 8)) hX dL_bars_11 (by decide) (pk_rem (by omega) (by decide) (by decide)) ?_
  refine zz_iconst (v := nI 1) hX dL_bars_12 rfl ?_
  refine zz_isub (z := S 14 i) hX dL_bars_13 ((congrArg (fun z => nI z - nI 1) (ql_hw_an hI (a := i) (by omega))).trans (ql_an hI (a := i) (by omega))) ?_
  refine zz_istore (ls' := [(0, .ref 100), (1, .ref 101), (2, .ref 102), (3, .ref 103), (4, .ref 104), (5, .ref 108), (6, .ref 109), (7, .int (nI i)), (8, .int (S 14 i))]) hX dL_bars_14 (Nat.le_of_ble_eq_true rfl) rfl ?_
  refine zz_aload hX dL_bars_16 4 rfl ?_
  refine zz_iload hX dL_bars_18 7 rfl ?_
  refine zz_iald (x := nI (ql_hw S i)) hX (ql_s104 hI) i rfl (by omega) (by decide) ((ql_rd_h hI (by omega))) dL_bars_20 ?_
  refine zz_iconst (v := nI 4) hX dL_bars_21 rfl ?_
  refine zz_irem (z := nI (zv_pu S i)) hX dL_bars_22 (by decide) ((pk_rem (by omega) (by decide) (by decide)).trans (congrArg nI (ql_hw_pu hI (a := i) (by omega)))) ?_
  refine zz_istore (ls' := [(0, .ref 100), (1, .ref 101), (2, .ref 102), (3, .ref 103), (4, .ref 104), (5, .ref 108), (6, .ref 109), (7, .int (nI i)), (8, .int (S 14 i)), (9, .int (nI (zv_pu S i)))]) hX dL_bars_23 (Nat.le_of_ble_eq_true rfl) rfl ?_
  refine zz_aload hX dL_bars_25 4 rfl ?_
  refine zz_iload hX dL_bars_27 7 rfl ?_
  refine zz_sI (x := nI (zv_sk S i)) hX zf_M_L_101 (As := [.ref 104, .int (nI i)]) (st := []) (Q_struck n S sh mi mr hI i (by omega)) rfl rfl (by decide) (Nat.le_of_ble_eq_true rfl) (Nat.le_of_ble_eq_true rfl) (Nat.le_of_ble_eq_true rfl) dL_bars_29 ?_
  refine zz_aload hX dL_bars_32 4 rfl ?_
  refine zz_iload hX dL_bars_34 7 rfl ?_
  refine zz_sI (x := nI (zv_fr S i)) hX zf_M_L_105 (As := [.ref 104, .int (nI i)]) (st := [.int (nI (zv_sk S i))]) (Q_frames n S sh mi mr hI i (by omega)) rfl rfl (by decide) (Nat.le_of_ble_eq_true rfl) (Nat.le_of_ble_eq_true rfl) (Nat.le_of_ble_eq_true rfl) dL_bars_36 ?_
  refine zz_icmp_neN hX (by omega) (by omega) 45 dL_bars_39 (by decide) (fun c39 => ?_) (fun c39 => ?_)
  · skip
    rcases ((ql_W hI).2.2.1.2.2.1 i hi).2.2.2.2.2.2.2.2.2.1 with h14 | h14
    · skip
      refine zz_lcl (ls' := [(0, .ref 100), (1, .ref 101), (2, .ref 102), (3, .ref 103), (4, .ref 104), (5, .ref 108), (6, .ref 109), (7, .int (nI i)), (8, .int (-1)), (9, .int (nI (zv_pu S i)))]) (by rw [h14]) ?_
      refine zz_iload hX dL_bars_45 8 rfl ?_
      refine zz_if_lt hX 63 dL_bars_47 (by decide) (fun _ => ?_) (fun c => absurd c (by decide))
      refine zz_iload hX dL_bars_63 8 rfl ?_
      refine zz_if_ge hX 72 dL_bars_65 (by decide) (fun c => absurd c (by decide)) (fun _ => ?_)
      refine zz_iconst (v := nI 1) hX dL_bars_68 rfl ?_
      refine zz_goto hX 73 dL_bars_69 (by decide) ?_
      refine zz_iret hX hr rfl (Nat.le_of_ble_eq_true rfl) (Nat.le_of_ble_eq_true rfl) dL_bars_73 ?_
      have e9 : zp_bar S i = 1 := by
        unfold zp_bar; rw [if_neg (by omega), if_pos h14]
      exact ⟨congrArg (fun z => some (Value.int z)) (congrArg nI e9.symm), rfl, rfl, rfl⟩
    · skip
      obtain ⟨a, ha5, ha14⟩ := zs_ix_of h14 (by omega)
      have z_a : zn (S 14 i) = a := by rw [ha14]; exact nI_clamp (n := a) (by omega)
      have hiw := ql_iw_lt hI
      have hill := ql_iw_ill (ql_W hI) ha5
      have hNs := ql_num hI
      have ha14n : ¬ S 14 i = -1 := fun q => by rw [q] at ha14; exact absurd ha14.symm (zs_nm1 (n := a) (by omega))
      refine zz_lcl (ls' := [(0, .ref 100), (1, .ref 101), (2, .ref 102), (3, .ref 103), (4, .ref 104), (5, .ref 108), (6, .ref 109), (7, .int (nI i)), (8, .int (nI a)), (9, .int (nI (zv_pu S i)))]) (by rw [ha14]) ?_
      refine zz_iload hX dL_bars_45 8 rfl ?_
      refine zz_if_lt hX 63 dL_bars_47 (by decide) (fun c47 => absurd c47 (nI_pos (by omega))) (fun c47 => ?_)
      refine zz_aload hX dL_bars_50 6 rfl ?_
      refine zz_iconst (v := nI 5) hX dL_bars_52 rfl ?_
      refine zz_iald (x := nI (ql_iw S)) hX (ql_s109 hI) 5 rfl (by decide) (by decide) ((ql_g5 hI)) dL_bars_53 ?_
      refine zz_iload hX dL_bars_54 8 rfl ?_
      refine zz_ishr (z := nI (ql_iw S) >>> (nI a &&& 31)) hX dL_bars_56 rfl ?_
      refine zz_iconst (v := nI 1) hX dL_bars_57 rfl ?_
      refine zz_iand (z := nI (ql_iw S / 2 ^ a % 2)) hX dL_bars_58 (ql_bit _ hiw _ (by omega)) ?_
      refine zz_iconst (v := nI 1) hX dL_bars_59 rfl ?_
      refine zz_icmp_neN hX (by omega) (by decide) 74 dL_bars_60 (by decide) (fun c60 => ?_) (fun c60 => ?_)
      · skip
        refine zz_iconst (v := nI 0) hX dL_bars_74 rfl ?_
        refine zz_istore (ls' := [(0, .ref 100), (1, .ref 101), (2, .ref 102), (3, .ref 103), (4, .ref 104), (5, .ref 108), (6, .ref 109), (7, .int (nI i)), (8, .int (nI a)), (9, .int (nI (zv_pu S i))), (10, .int (nI 0))]) hX dL_bars_75 (Nat.le_of_ble_eq_true rfl) rfl ?_
        refine zz_iconst (v := nI 0) hX dL_bars_77 rfl ?_
        refine zz_istore (ls' := [(0, .ref 100), (1, .ref 101), (2, .ref 102), (3, .ref 103), (4, .ref 104), (5, .ref 108), (6, .ref 109), (7, .int (nI i)), (8, .int (nI a)), (9, .int (nI (zv_pu S i))), (10, .int (nI 0)), (11, .int (nI 0))]) hX dL_bars_78 (Nat.le_of_ble_eq_true rfl) rfl ?_
        refine zz_lcl (ls' := [(0, .ref 100), (1, .ref 101), (2, .ref 102), (3, .ref 103), (4, .ref 104), (5, .ref 108), (6, .ref 109), (7, .int (nI i)), (8, .int (nI a)), (9, .int (nI (zv_pu S i))), (10, .int (nI (ql_bk S i 0))), (11, .int (nI 0))]) rfl ?_
        have L80 : ∀ (k80 : Nat) (k : Nat), zv_ns S - k < k80 → (k ≤ zv_ns S) → zz Γ (D, E, 13, ad, sh) (zz_End Γ (D, E, 13, ad, sh) (zz_q (some (.int (nI (zp_bar S i)))) sh mi mr) zz_none 0 0) 0 0 sh mi mr 80 [(0, .ref 100), (1, .ref 101), (2, .ref 102), (3, .ref 103), (4, .ref 104), (5, .ref 108), (6, .ref 109), (7, .int (nI i)), (8, .int (nI a)), (9, .int (nI (zv_pu S i))), (10, .int (nI (ql_bk S i k))), (11, .int (nI k))] [] := by
          intro k80
          induction k80 with
          | zero => intro k hk80; exact absurd hk80 (Nat.not_lt_zero _)
          | succ k80 ih80 =>
            intro k hk80 hk9
            have hbk := ql_bk_le (S := S) (i := i) (k := k)
            refine zz_iload hX dL_bars_80 11 rfl ?_
            refine zz_aload hX dL_bars_82 6 rfl ?_
            refine zz_iconst (v := nI 2) hX dL_bars_84 rfl ?_
            refine zz_iald (x := nI (zv_ns S)) hX (ql_s109 hI) 2 rfl (by decide) (by decide) ((ql_g2 hI)) dL_bars_85 ?_
            refine zz_icmp_geN hX (by omega) (by omega) 177 dL_bars_86 (by decide) (fun c86 => ?_) (fun c86 => ?_)
            · skip
              have e_k : k = zv_ns S := by omega
              refine zz_iload hX dL_bars_177 10 rfl ?_
              refine zz_if_gtN hX (by omega) 199 dL_bars_179 (by decide) (fun c179 => ?_) (fun c179 => ?_)
              · skip
                refine zz_iload hX dL_bars_199 10 rfl ?_
                refine zz_iret hX hr rfl (Nat.le_of_ble_eq_true rfl) (Nat.le_of_ble_eq_true rfl) dL_bars_201 ?_
                have e9 : zp_bar S i = ql_bk S i k := by
                  rw [ql_bar_bk (by omega) ha14n (by rw [z_a]; exact Classical.byContradiction (fun q => c60 (hill.mpr q)))]; rw [show k = zv_ns S by omega] at c179 ⊢; rw [if_neg (by omega)]
                exact ⟨congrArg (fun z => some (Value.int z)) (congrArg nI e9.symm), rfl, rfl, rfl⟩
              · skip
                refine zz_aload hX dL_bars_182 4 rfl ?_
                refine zz_iload hX dL_bars_184 7 rfl ?_
                refine zz_aload hX dL_bars_186 4 rfl ?_
                refine zz_iload hX dL_bars_188 7 rfl ?_
                refine zz_sI (x := nI (zv_sk S i)) hX zf_M_L_101 (As := [.ref 104, .int (nI i)]) (st := [.int (nI i), .ref 104]) (Q_struck n S sh mi mr hI i (by omega)) rfl rfl (by decide) (Nat.le_of_ble_eq_true rfl) (Nat.le_of_ble_eq_true rfl) (Nat.le_of_ble_eq_true rfl) dL_bars_190 ?_
                refine zz_sI (x := zz_bi (zp_held S i (zv_sk S i))) hX zf_M_L_91 (As := [.ref 104, .int (nI i), .int (nI (zv_sk S i))]) (st := []) (Q_isHeld n S sh mi mr hI i (by omega) (zv_sk S i) (by omega)) rfl rfl (by decide) (Nat.le_of_ble_eq_true rfl) (Nat.le_of_ble_eq_true rfl) (Nat.le_of_ble_eq_true rfl) dL_bars_193 ?_
                refine zz_if_eqB hX 202 dL_bars_196 (by decide) (fun c196 => ?_) (fun c196 => ?_)
                · skip
                  refine zz_iconst (v := nI 0) hX dL_bars_202 rfl ?_
                  refine zz_istore (ls' := [(0, .ref 100), (1, .ref 101), (2, .ref 102), (3, .ref 103), (4, .ref 104), (5, .ref 108), (6, .ref 109), (7, .int (nI i)), (8, .int (nI a)), (9, .int (nI (zv_pu S i))), (10, .int (nI (ql_bk S i k))), (11, .int (nI 0))]) hX dL_bars_203 (Nat.le_of_ble_eq_true rfl) rfl ?_
                  have hbk0 : ql_bk S i (zv_ns S) = 0 := by rw [← e_k]; exact c179
                  refine zz_lcl (ls' := [(0, .ref 100), (1, .ref 101), (2, .ref 102), (3, .ref 103), (4, .ref 104), (5, .ref 108), (6, .ref 109), (7, .int (nI i)), (8, .int (nI a)), (9, .int (nI (zv_pu S i))), (10, .int (nI (ql_br S (zv_pu S i) 0))), (11, .int (nI 0))]) (by rw [c179]; rfl) ?_
                  have L205 : ∀ (k205 : Nat) (m : Nat), zv_jn S (zv_pu S i) - m < k205 → (m ≤ zv_jn S (zv_pu S i)) → zz Γ (D, E, 13, ad, sh) (zz_End Γ (D, E, 13, ad, sh) (zz_q (some (.int (nI (zp_bar S i)))) sh mi mr) zz_none 0 0) 0 0 sh mi mr 205 [(0, .ref 100), (1, .ref 101), (2, .ref 102), (3, .ref 103), (4, .ref 104), (5, .ref 108), (6, .ref 109), (7, .int (nI i)), (8, .int (nI a)), (9, .int (nI (zv_pu S i))), (10, .int (nI (ql_br S (zv_pu S i) m))), (11, .int (nI m))] [] := by
                    intro k205
                    induction k205 with
                    | zero => intro m hk205; exact absurd hk205 (Nat.not_lt_zero _)
                    | succ k205 ih205 =>
                      intro m hk205 hm9
                      have hbr := ql_br_le (S := S) (p := zv_pu S i) (k := m)
                      refine zz_iload hX dL_bars_205 11 rfl ?_
                      refine zz_aload_n hX dL_bars_207 0 rfl rfl ?_
                      refine zz_iload hX dL_bars_208 9 rfl ?_
                      refine zz_iald (x := nI (zv_jn S (zv_pu S i))) hX (ql_s100 hI) (zv_pu S i) rfl (by omega) (by decide) ((ql_g100 hI (by omega))) dL_bars_210 ?_
                      refine zz_icmp_geN hX (by omega) (by omega) 247 dL_bars_211 (by decide) (fun c211 => ?_) (fun c211 => ?_)
                      · skip
                        obtain rfl : m = zv_jn S (zv_pu S i) := by omega
                        have hbe := ql_br_eq (S := S) (p := zv_pu S i)
                        refine zz_aload hX dL_bars_247 4 rfl ?_
                        refine zz_aload_n hX dL_bars_249 3 rfl rfl ?_
                        refine zz_aload hX dL_bars_250 5 rfl ?_
                        refine zz_iload hX dL_bars_252 7 rfl ?_
                        refine zz_sI (x := zp_want S i (zv_sk S i)) hX zf_M_L_116 (As := [.ref 104, .ref 103, .ref 108, .int (nI i)]) (st := []) (Q_wanted n S sh mi mr hI i (by omega) (by omega)) rfl rfl (by decide) (Nat.le_of_ble_eq_true rfl) (Nat.le_of_ble_eq_true rfl) (Nat.le_of_ble_eq_true rfl) dL_bars_254 ?_
                        rcases zp_want_in (ql_W hI) hi (zv_sk S i) with hwt | hwt
                        · skip
                          refine zz_top hwt ?_
                          refine zz_istore (ls' := [(0, .ref 100), (1, .ref 101), (2, .ref 102), (3, .ref 103), (4, .ref 104), (5, .ref 108), (6, .ref 109), (7, .int (nI i)), (8, .int (nI a)), (9, .int (nI (zv_pu S i))), (10, .int (nI (ql_br S (zv_pu S i) (zv_jn S (zv_pu S i))))), (11, .int (-1))]) hX dL_bars_257 (Nat.le_of_ble_eq_true rfl) rfl ?_
                          refine zz_iload hX dL_bars_259 10 rfl ?_
                          refine zz_if_leN hX (by omega) 269 dL_bars_261 (by decide) (fun c261 => ?_) (fun c261 => ?_)
                          · skip
                            refine zz_iload hX dL_bars_269 11 rfl ?_
                            refine zz_if_lt hX 292 dL_bars_271 (by decide) (fun _ => ?_) (fun c => absurd c (by decide))
                            refine zz_iconst (v := nI 0) hX dL_bars_292 rfl ?_
                            refine zz_iret hX hr rfl (Nat.le_of_ble_eq_true rfl) (Nat.le_of_ble_eq_true rfl) dL_bars_293 ?_
                            have e9 : zp_bar S i = 0 := by
                              rw [ql_bar_bk (by omega) ha14n (by rw [z_a]; exact Classical.byContradiction (fun q => c60 (hill.mpr q)))]; rw [if_pos hbk0, if_neg c196]; unfold zp_pbar; rw [if_neg (hbe.1.mp c261)]; rw [if_pos hwt]
                            exact ⟨congrArg (fun z => some (Value.int z)) (congrArg nI e9.symm), rfl, rfl, rfl⟩
                          · skip
                            refine zz_iload hX dL_bars_264 10 rfl ?_
                            refine zz_goto hX 293 dL_bars_266 (by decide) ?_
                            refine zz_iret hX hr rfl (Nat.le_of_ble_eq_true rfl) (Nat.le_of_ble_eq_true rfl) dL_bars_293 ?_
                            have e9 : zp_bar S i = ql_br S (zv_pu S i) (zv_jn S (zv_pu S i)) := by
                              rw [ql_bar_bk (by omega) ha14n (by rw [z_a]; exact Classical.byContradiction (fun q => c60 (hill.mpr q)))]; rw [if_pos hbk0, if_neg c196]; unfold zp_pbar; rw [if_pos (Classical.byContradiction (fun q => by have := hbe.1.mpr q; omega)), hbe.2 (by omega)]
                            exact ⟨congrArg (fun z => some (Value.int z)) (congrArg nI e9.symm), rfl, rfl, rfl⟩
                        · skip
                          obtain ⟨z, hz9, hwz⟩ := zs_ix_of hwt (by omega)
                          have z_z : zn (zp_want S i (zv_sk S i)) = z := by rw [hwz]; exact nI_clamp (n := z) (by omega)
                          have hwn : ¬ zp_want S i (zv_sk S i) = -1 := fun q => by rw [q] at hwz; exact absurd hwz.symm (zs_nm1 (n := z) (by omega))
                          refine zz_top hwz ?_
                          refine zz_istore (ls' := [(0, .ref 100), (1, .ref 101), (2, .ref 102), (3, .ref 103), (4, .ref 104), (5, .ref 108), (6, .ref 109), (7, .int (nI i)), (8, .int (nI a)), (9, .int (nI (zv_pu S i))), (10, .int (nI (ql_br S (zv_pu S i) (zv_jn S (zv_pu S i))))), (11, .int (nI z))]) hX dL_bars_257 (Nat.le_of_ble_eq_true rfl) rfl ?_
                          refine zz_iload hX dL_bars_259 10 rfl ?_
                          refine zz_if_leN hX (by omega) 269 dL_bars_261 (by decide) (fun c261 => ?_) (fun c261 => ?_)
                          · skip
                            refine zz_iload hX dL_bars_269 11 rfl ?_
                            refine zz_if_lt hX 292 dL_bars_271 (by decide) (fun c271 => absurd c271 (nI_pos (by omega))) (fun c271 => ?_)
                            refine zz_aload_n hX dL_bars_274 2 rfl rfl ?_
                            refine zz_bipush (v := nI 10) hX dL_bars_275 rfl ?_
                            refine zz_iload hX dL_bars_277 9 rfl ?_
                            refine zz_imul (z := nI (10 * (zv_pu S i))) hX dL_bars_279 (pk_mul _ _) ?_
                            refine zz_iload hX dL_bars_280 11 rfl ?_
                            refine zz_iadd (z := nI (10 * (zv_pu S i) + z)) hX dL_bars_282 (nI_add _ _) ?_
                            refine zz_iald (x := S 4 (10 * (zv_pu S i) + z)) hX (ql_s102 hI) (10 * (zv_pu S i) + z) rfl (by omega) (by decide) ((ql_Nm hI (zv_pu S i) z (by omega) (by omega))) dL_bars_283 ?_
                            refine zz_if_ne hX 292 dL_bars_284 (by decide) (fun c284 => ?_) (fun c284 => ?_)
                            · skip
                              refine zz_iconst (v := nI 0) hX dL_bars_292 rfl ?_
                              refine zz_iret hX hr rfl (Nat.le_of_ble_eq_true rfl) (Nat.le_of_ble_eq_true rfl) dL_bars_293 ?_
                              have e9 : zp_bar S i = 0 := by
                                rw [ql_bar_bk (by omega) ha14n (by rw [z_a]; exact Classical.byContradiction (fun q => c60 (hill.mpr q)))]; rw [if_pos hbk0, if_neg c196]; unfold zp_pbar; rw [if_neg (hbe.1.mp c261)]; rw [if_neg hwn, z_z, if_neg c284]
                              exact ⟨congrArg (fun z => some (Value.int z)) (congrArg nI e9.symm), rfl, rfl, rfl⟩
                            · skip
                              refine zz_bipush (v := nI 6) hX dL_bars_287 rfl ?_
                              refine zz_goto hX 293 dL_bars_289 (by decide) ?_
                              refine zz_iret hX hr rfl (Nat.le_of_ble_eq_true rfl) (Nat.le_of_ble_eq_true rfl) dL_bars_293 ?_
                              have e9 : zp_bar S i = 6 := by
                                rw [ql_bar_bk (by omega) ha14n (by rw [z_a]; exact Classical.byContradiction (fun q => c60 (hill.mpr q)))]; rw [if_pos hbk0, if_neg c196]; unfold zp_pbar; rw [if_neg (hbe.1.mp c261)]; rw [if_neg hwn, z_z, if_pos c284]
                              exact ⟨congrArg (fun z => some (Value.int z)) (congrArg nI e9.symm), rfl, rfl, rfl⟩
                          · skip
                            refine zz_iload hX dL_bars_264 10 rfl ?_
                            refine zz_goto hX 293 dL_bars_266 (by decide) ?_
                            refine zz_iret hX hr rfl (Nat.le_of_ble_eq_true rfl) (Nat.le_of_ble_eq_true rfl) dL_bars_293 ?_
                            have e9 : zp_bar S i = ql_br S (zv_pu S i) (zv_jn S (zv_pu S i)) := by
                              rw [ql_bar_bk (by omega) ha14n (by rw [z_a]; exact Classical.byContradiction (fun q => c60 (hill.mpr q)))]; rw [if_pos hbk0, if_neg c196]; unfold zp_pbar; rw [if_pos (Classical.byContradiction (fun q => by have := hbe.1.mpr q; omega)), hbe.2 (by omega)]
                            exact ⟨congrArg (fun z => some (Value.int z)) (congrArg nI e9.symm), rfl, rfl, rfl⟩
                      · skip
                        have K239 : zz Γ (D, E, 13, ad, sh) (zz_End Γ (D, E, 13, ad, sh) (zz_q (some (.int (nI (zp_bar S i)))) sh mi mr) zz_none 0 0) 0 0 sh mi mr 239 [(0, .ref 100), (1, .ref 101), (2, .ref 102), (3, .ref 103), (4, .ref 104), (5, .ref 108), (6, .ref 109), (7, .int (nI i)), (8, .int (nI a)), (9, .int (nI (zv_pu S i))), (10, .int (nI (ql_br S (zv_pu S i) m))), (11, .int (nI m))] [.int (nI (ql_br S (zv_pu S i) (m + 1)))] := by
                          refine zz_istore (ls' := [(0, .ref 100), (1, .ref 101), (2, .ref 102), (3, .ref 103), (4, .ref 104), (5, .ref 108), (6, .ref 109), (7, .int (nI i)), (8, .int (nI a)), (9, .int (nI (zv_pu S i))), (10, .int (nI (ql_br S (zv_pu S i) (m + 1)))), (11, .int (nI m))]) hX dL_bars_239 (Nat.le_of_ble_eq_true rfl) rfl ?_
                          refine zz_iinc (v := nI (m + 1)) (ls' := [(0, .ref 100), (1, .ref 101), (2, .ref 102), (3, .ref 103), (4, .ref 104), (5, .ref 108), (6, .ref 109), (7, .int (nI i)), (8, .int (nI a)), (9, .int (nI (zv_pu S i))), (10, .int (nI (ql_br S (zv_pu S i) (m + 1)))), (11, .int (nI (m + 1)))]) hX dL_bars_241 11 rfl (nI_1 _) (Nat.le_of_ble_eq_true rfl) rfl ?_
                          refine zz_goto hX 205 dL_bars_244 (by decide) ?_
                          exact ih205 (m + 1) (by omega) (by omega)
                        refine zz_aload_n hX dL_bars_214 1 rfl rfl ?_
                        refine zz_iconst (v := nI 3) hX dL_bars_215 rfl ?_
                        refine zz_iload hX dL_bars_216 9 rfl ?_
                        refine zz_imul (z := nI (3 * (zv_pu S i))) hX dL_bars_218 (pk_mul _ _) ?_
                        refine zz_iload hX dL_bars_219 11 rfl ?_
                        refine zz_iadd (z := nI (3 * (zv_pu S i) + m)) hX dL_bars_221 (nI_add _ _) ?_
                        refine zz_iald (x := S 3 (6 * (zv_pu S i) + m) * nI 360 + S 2 (6 * (zv_pu S i) + m)) hX (ql_s101 hI) (3 * (zv_pu S i) + m) rfl (by omega) (by decide) ((ql_Nj hI (zv_pu S i) m (by omega) (by omega))) dL_bars_222 ?_
                        refine zz_sipush (v := nI 360) hX dL_bars_223 rfl ?_
                        refine zz_idiv (z := S 3 (6 * (zv_pu S i) + m)) hX dL_bars_226 (by decide) (zs_divJ (ql_Jd hI _) (ql_S2 hI _)) ?_
                        refine zz_sipush (v := nI 999) hX dL_bars_227 rfl ?_
                        refine zz_icmp_le hX 237 dL_bars_230 (by decide) (fun c230 => ?_) (fun c230 => ?_)
                        · skip
                          refine zz_iload hX dL_bars_237 10 rfl ?_
                          exact zz_top (congrArg nI (ql_br_s (fun h => by rw [zs_le, nI_toInt (by decide)] at h; rw [zs_le, nI_toInt (by decide)] at c230; omega)).symm) K239
                        · skip
                          refine zz_iconst (v := nI 5) hX dL_bars_233 rfl ?_
                          refine zz_goto hX 239 dL_bars_234 (by decide) ?_
                          exact zz_top (congrArg nI (ql_br_5 (by rw [zs_le, nI_toInt (by decide)]; rw [zs_le, nI_toInt (by decide)] at c230; omega)).symm) K239
                  exact L205 ((zv_jn S (zv_pu S i) - 0 + 1)) 0 (by omega) (Nat.zero_le _)
                · skip
                  refine zz_iload hX dL_bars_199 10 rfl ?_
                  refine zz_iret hX hr rfl (Nat.le_of_ble_eq_true rfl) (Nat.le_of_ble_eq_true rfl) dL_bars_201 ?_
                  have e9 : zp_bar S i = ql_bk S i k := by
                    rw [ql_bar_bk (by omega) ha14n (by rw [z_a]; exact Classical.byContradiction (fun q => c60 (hill.mpr q)))]; rw [show k = zv_ns S by omega] at c179 ⊢; rw [if_pos c179, if_pos c196, c179]
                  exact ⟨congrArg (fun z => some (Value.int z)) (congrArg nI e9.symm), rfl, rfl, rfl⟩
            · skip
              have hk8 : k < zv_ns S := by omega
              have hwk := ql_hw_lt hI hk8
              obtain ⟨z1, z2, z3, z4, z5, z6, z7, z8, z9, z10, z11, z12⟩ := ql_shot hI hk8
              have K111 : zz Γ (D, E, 13, ad, sh) (zz_End Γ (D, E, 13, ad, sh) (zz_q (some (.int (nI (zp_bar S i)))) sh mi mr) zz_none 0 0) 0 0 sh mi mr 111 [(0, .ref 100), (1, .ref 101), (2, .ref 102), (3, .ref 103), (4, .ref 104), (5, .ref 108), (6, .ref 109), (7, .int (nI i)), (8, .int (nI a)), (9, .int (nI (zv_pu S i))), (10, .int (nI (ql_bk S i k))), (11, .int (nI k))] [.int (zz_bi (¬ k = i ∧ zp_on S k))] := by
                refine zz_istore (ls' := [(0, .ref 100), (1, .ref 101), (2, .ref 102), (3, .ref 103), (4, .ref 104), (5, .ref 108), (6, .ref 109), (7, .int (nI i)), (8, .int (nI a)), (9, .int (nI (zv_pu S i))), (10, .int (nI (ql_bk S i k))), (11, .int (nI k)), (12, .int (zz_bi (¬ k = i ∧ zp_on S k)))]) hX dL_bars_111 (Nat.le_of_ble_eq_true rfl) rfl ?_
                have K169 : zz Γ (D, E, 13, ad, sh) (zz_End Γ (D, E, 13, ad, sh) (zz_q (some (.int (nI (zp_bar S i)))) sh mi mr) zz_none 0 0) 0 0 sh mi mr 169 [(0, .ref 100), (1, .ref 101), (2, .ref 102), (3, .ref 103), (4, .ref 104), (5, .ref 108), (6, .ref 109), (7, .int (nI i)), (8, .int (nI a)), (9, .int (nI (zv_pu S i))), (10, .int (nI (ql_bk S i k))), (11, .int (nI k)), (12, .int (zz_bi (¬ k = i ∧ zp_on S k)))] [.int (nI (ql_bk S i (k + 1)))] := by
                  refine zz_istore (ls' := [(0, .ref 100), (1, .ref 101), (2, .ref 102), (3, .ref 103), (4, .ref 104), (5, .ref 108), (6, .ref 109), (7, .int (nI i)), (8, .int (nI a)), (9, .int (nI (zv_pu S i))), (10, .int (nI (ql_bk S i (k + 1)))), (11, .int (nI k)), (12, .int (zz_bi (¬ k = i ∧ zp_on S k)))]) hX dL_bars_169 (Nat.le_of_ble_eq_true rfl) rfl ?_
                  refine zz_iinc (v := nI (k + 1)) (ls' := [(0, .ref 100), (1, .ref 101), (2, .ref 102), (3, .ref 103), (4, .ref 104), (5, .ref 108), (6, .ref 109), (7, .int (nI i)), (8, .int (nI a)), (9, .int (nI (zv_pu S i))), (10, .int (nI (ql_bk S i (k + 1)))), (11, .int (nI (k + 1))), (12, .int (zz_bi (¬ k = i ∧ zp_on S k)))]) hX dL_bars_171 11 rfl (nI_1 _) (Nat.le_of_ble_eq_true rfl) rfl ?_
                  refine zz_goto hX 80 dL_bars_174 (by decide) ?_
                  refine zz_pick (ls' := [(0, .ref 100), (1, .ref 101), (2, .ref 102), (3, .ref 103), (4, .ref 104), (5, .ref 108), (6, .ref 109), (7, .int (nI i)), (8, .int (nI a)), (9, .int (nI (zv_pu S i))), (10, .int (nI (ql_bk S i (k + 1)))), (11, .int (nI (k + 1)))]) [0, 1, 2, 3, 4, 5, 6, 7, 8, 9, 10, 11] rfl ?_
                  exact ih80 (k + 1) (by omega) (by omega)
                refine zz_iload hX dL_bars_113 12 rfl ?_
                refine zz_if_eqB hX 141 dL_bars_115 (by decide) (fun c115 => ?_) (fun c115 => ?_)
                · skip
                  refine zz_iload hX dL_bars_141 12 rfl ?_
                  refine zz_if_eqB hX 167 dL_bars_143 (by decide) (fun c143 => ?_) (fun c143 => absurd c143 c115)
                  refine zz_iload hX dL_bars_167 10 rfl ?_
                  exact zz_top (congrArg nI (ql_bk_s (fun h => c115 ⟨h.1, h.2.1⟩) (Or.inl (fun h => c115 ⟨h.1, h.2.1⟩))).symm) K169
                · skip
                  refine zz_aload hX dL_bars_118 4 rfl ?_
                  refine zz_iload hX dL_bars_120 11 rfl ?_
                  refine zz_iald (x := nI (ql_hw S k)) hX (ql_s104 hI) k rfl (by omega) (by decide) ((ql_rd_h hI (by omega))) dL_bars_122 ?_
                  refine zz_sipush (v := nI 1024) hX dL_bars_123 rfl ?_
                  refine zz_idiv (z := nI ((ql_hw S k) / 1024)) hX dL_bars_126 (by decide) (pk_div (by omega) (by decide) (by decide)) ?_
                  refine zz_bipush (v := nI 8) hX dL_bars_127 rfl ?_
                  refine zz_irem (z := nI (((ql_hw S k) / 1024) % 8)) hX dL_bars_129 (by decide) (pk_rem (by omega) (by decide) (by decide)) ?_
                  refine zz_iconst (v := nI 1) hX dL_bars_130 rfl ?_
                  refine zz_isub (z := S 14 k) hX dL_bars_131 ((congrArg (fun z => nI z - nI 1) (ql_hw_an hI (a := k) (by omega))).trans (ql_an hI (a := k) (by omega))) ?_
                  refine zz_iload hX dL_bars_132 8 rfl ?_
                  refine zz_icmp_ne hX 141 dL_bars_134 (by decide) (fun c134 => ?_) (fun c134 => ?_)
                  · skip
                    refine zz_iload hX dL_bars_141 12 rfl ?_
                    refine zz_if_eqB hX 167 dL_bars_143 (by decide) (fun c143 => absurd c115 c143) (fun c143 => ?_)
                    refine zz_aload hX dL_bars_146 4 rfl ?_
                    refine zz_iload hX dL_bars_148 11 rfl ?_
                    refine zz_iald (x := nI (ql_hw S k)) hX (ql_s104 hI) k rfl (by omega) (by decide) ((ql_rd_h hI (by omega))) dL_bars_150 ?_
                    refine zz_iconst (v := nI 4) hX dL_bars_151 rfl ?_
                    refine zz_irem (z := nI (zv_pu S k)) hX dL_bars_152 (by decide) ((pk_rem (by omega) (by decide) (by decide)).trans (congrArg nI (ql_hw_pu hI (a := k) (by omega)))) ?_
                    refine zz_iload hX dL_bars_153 9 rfl ?_
                    refine zz_icmp_neN hX (by omega) (by omega) 167 dL_bars_155 (by decide) (fun c155 => ?_) (fun c155 => ?_)
                    · skip
                      refine zz_iload hX dL_bars_167 10 rfl ?_
                      exact zz_top (congrArg nI (ql_bk_s (fun h => c134 (h.2.2.trans ha14)) (Or.inl (fun h => c155 h.2.2))).symm) K169
                    · skip
                      refine zz_iload hX dL_bars_158 10 rfl ?_
                      refine zz_if_neN hX (by omega) 167 dL_bars_160 (by decide) (fun c160 => ?_) (fun c160 => ?_)
                      · skip
                        refine zz_iload hX dL_bars_167 10 rfl ?_
                        exact zz_top (congrArg nI (ql_bk_s (fun h => c134 (h.2.2.trans ha14)) (Or.inr c160)).symm) K169
                      · skip
                        refine zz_iconst (v := nI 4) hX dL_bars_163 rfl ?_
                        refine zz_goto hX 169 dL_bars_164 (by decide) ?_
                        exact zz_top (congrArg nI (ql_bk_4 (fun h => c134 (h.2.2.trans ha14)) ⟨c115.1, c115.2, c155⟩ c160).symm) K169
                  · skip
                    refine zz_iconst (v := nI 3) hX dL_bars_137 rfl ?_
                    refine zz_goto hX 169 dL_bars_138 (by decide) ?_
                    exact zz_top (congrArg nI (ql_bk_3 ⟨c115.1, c115.2, c134.trans ha14.symm⟩).symm) K169
              refine zz_iload hX dL_bars_89 11 rfl ?_
              refine zz_iload hX dL_bars_91 7 rfl ?_
              refine zz_icmp_eqN hX (by omega) (by omega) 110 dL_bars_93 (by decide) (fun c93 => ?_) (fun c93 => ?_)
              · skip
                refine zz_iconst (v := nI 0) hX dL_bars_110 rfl ?_
                exact zz_top (zz_bi_F (p := ¬ k = i ∧ zp_on S k) (fun h => h.1 c93)) K111
              · skip
                refine zz_aload hX dL_bars_96 4 rfl ?_
                refine zz_iload hX dL_bars_98 11 rfl ?_
                refine zz_sI (x := zz_bi (zp_on S k)) hX zf_M_L_112 (As := [.ref 104, .int (nI k)]) (st := []) (Q_isOn n S sh mi mr hI k (by omega)) rfl rfl (by decide) (Nat.le_of_ble_eq_true rfl) (Nat.le_of_ble_eq_true rfl) (Nat.le_of_ble_eq_true rfl) dL_bars_100 ?_
                refine zz_if_eqB hX 110 dL_bars_103 (by decide) (fun c103 => ?_) (fun c103 => ?_)
                · skip
                  refine zz_iconst (v := nI 0) hX dL_bars_110 rfl ?_
                  exact zz_top (zz_bi_F (p := ¬ k = i ∧ zp_on S k) (fun h => c103 h.2)) K111
                · skip
                  refine zz_iconst (v := nI 1) hX dL_bars_106 rfl ?_
                  refine zz_goto hX 111 dL_bars_107 (by decide) ?_
                  exact zz_top (zz_bi_T (p := ¬ k = i ∧ zp_on S k) (⟨c93, c103⟩)) K111
        exact L80 ((zv_ns S - 0 + 1)) 0 (by omega) (Nat.zero_le _)
      · skip
        refine zz_iload hX dL_bars_63 8 rfl ?_
        refine zz_if_ge hX 72 dL_bars_65 (by decide) (fun c65 => ?_) (fun c65 => absurd (nI_pos' (by omega)) c65)
        refine zz_iconst (v := nI 2) hX dL_bars_72 rfl ?_
        refine zz_iret hX hr rfl (Nat.le_of_ble_eq_true rfl) (Nat.le_of_ble_eq_true rfl) dL_bars_73 ?_
        have e9 : zp_bar S i = 2 := by
          unfold zp_bar; rw [if_neg (by omega), if_neg ha14n, z_a, if_pos (hill.mp c60)]
        exact ⟨congrArg (fun z => some (Value.int z)) (congrArg nI e9.symm), rfl, rfl, rfl⟩
  · skip
    refine zz_bipush (v := nI 7) hX dL_bars_42 rfl ?_
    refine zz_iret hX hr rfl (Nat.le_of_ble_eq_true rfl) (Nat.le_of_ble_eq_true rfl) dL_bars_44 ?_
    have e9 : zp_bar S i = 7 := by
      unfold zp_bar; rw [if_pos (by omega)]
    exact ⟨congrArg (fun z => some (Value.int z)) (congrArg nI e9.symm), rfl, rfl, rfl⟩

