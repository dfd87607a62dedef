/-! ===== isSo ===== -/
section ZSO
variable {n : Nat} {S : zS} {sh : zm_Sh} {mi : zm_Mi} {mr : zm_Mr}
/-! sums and ways -/
theorem zp_wants_s {i : Nat} {s : Int32} (f : Nat) : zp_wants S i s (f + 1) = zp_wants S i s f + zl_q 1 (zp_mouth S i f = s ∧ ¬ zp_bef S i f = zp_mouth S i f) := by
  show (if zp_mouth S i f = s ∧ ¬ zp_mouth S i f = zp_bef S i f then zp_wants S i s f + 1 else zp_wants S i s f) = _
  by_cases h : zp_mouth S i f = s ∧ ¬ zp_bef S i f = zp_mouth S i f
  · rw [if_pos ⟨h.1, fun e => h.2 e.symm⟩, ← zl_q_T h]; rfl
  · rw [if_neg (fun q => h ⟨q.1, fun e => q.2 e.symm⟩), ← zl_q_F h, zs_add0]
theorem zp_bef_s {i : Nat} (f : Nat) : zp_bef S i (f + 1) = zp_mouth S i f := if_neg (by omega)
theorem zp_wr_a {i j f : Nat} (h : f < zv_sk S i) : zp_wr S i j (f + 1 - zv_sk S i) = zp_wr S i j (f - zv_sk S i) := by
  rw [show f + 1 - zv_sk S i = f - zv_sk S i by omega]
theorem zp_wr_b {i j f : Nat} (h : zv_sk S i ≤ f) (hh : zp_held S i f) : zp_wr S i j (f + 1 - zv_sk S i) = zp_wr S i j (f - zv_sk S i) := by
  obtain ⟨m, hm⟩ : ∃ m, f = zv_sk S i + m := ⟨f - zv_sk S i, by omega⟩
  rw [show f + 1 - zv_sk S i = m + 1 by omega, show f - zv_sk S i = m by omega]
  rw [hm] at hh
  exact if_pos hh
theorem zp_wr_c {i j f : Nat} (h : zv_sk S i ≤ f) (hh : ¬ zp_held S i f) : zp_wr S i j (f + 1 - zv_sk S i) = (zp_deg S i j f, (zp_wr S i j (f - zv_sk S i)).2 + zs_abs (zs_sw (zp_wr S i j (f - zv_sk S i)).1 (zp_deg S i j f))) := by
  obtain ⟨m, hm⟩ : ∃ m, f = zv_sk S i + m := ⟨f - zv_sk S i, by omega⟩
  rw [show f + 1 - zv_sk S i = m + 1 by omega, show f - zv_sk S i = m by omega]
  rw [hm] at hh ⊢
  exact if_neg hh
theorem zp_wr_in (h : ql_I n S sh mi) {i j : Nat} : ∀ m, zv_sk S i + m ≤ 48 → zv_in (zp_wr S i j m).1 0 359
  | 0, _ => ql_S2 h _
  | m + 1, hm => by
    by_cases hh : zp_held S i (zv_sk S i + m)
    · rw [show zp_wr S i j (m + 1) = zp_wr S i j m from if_pos hh]; exact zp_wr_in h m (by omega)
    · rw [show zp_wr S i j (m + 1) = _ from if_neg hh]; exact zp_deg_in (ql_W h) i j _ (by omega)
/-! faults -/
def ql_fa (S : zS) (i f k : Nat) : Int32 := if zs_any (fun j => ¬ S 22 (48 * (6 * i + j) + f) = zp_deg S i j f) k = true then nI 1 else nI 0
theorem ql_fa_T {i f k : Nat} (h : ¬ S 22 (48 * (6 * i + k) + f) = zp_deg S i k f) : nI 1 = ql_fa S i f (k + 1) := (if_pos ((zs_any_s (p := fun j => ¬ S 22 (48 * (6 * i + j) + f) = zp_deg S i j f) k).mpr (Or.inr h))).symm
theorem ql_fa_F {i f k : Nat} (h : S 22 (48 * (6 * i + k) + f) = zp_deg S i k f) : ql_fa S i f k = ql_fa S i f (k + 1) := by
  have e := zs_any_s (p := fun j => ¬ S 22 (48 * (6 * i + j) + f) = zp_deg S i j f) k
  unfold ql_fa
  by_cases g : zs_any (fun j => ¬ S 22 (48 * (6 * i + j) + f) = zp_deg S i j f) k = true
  · rw [if_pos g, if_pos (e.mpr (Or.inl g))]
  · rw [if_neg g, if_neg (fun q => (e.mp q).elim g (fun z => z h))]
def ql_f0 (b : Bool) : Int32 := if b = false then 0 else 1
def ql_f1 (b : Bool) (p2 : Prop) [Decidable p2] : Int32 := if p2 then ql_f0 b else ql_f0 b ||| nI 2
def ql_f2 (b : Bool) (p2 p4 : Prop) [Decidable p2] [Decidable p4] : Int32 := if p4 then ql_f1 b p2 else ql_f1 b p2 ||| nI 4
def ql_f3 (b : Bool) (p2 p4 p8 : Prop) [Decidable p2] [Decidable p4] [Decidable p8] : Int32 := if p8 then ql_f2 b p2 p4 ||| nI 8 else ql_f2 b p2 p4
def ql_f4 (b : Bool) (p2 p4 p8 p16 : Prop) [Decidable p2] [Decidable p4] [Decidable p8] [Decidable p16] : Int32 := if p16 then ql_f3 b p2 p4 p8 else ql_f3 b p2 p4 p8 ||| nI 16
theorem ql_fsum (b : Bool) (p2 p4 p8 p16 : Prop) [Decidable p2] [Decidable p4] [Decidable p8] [Decidable p16] : (if b = true then nI 1 else nI 0) + (zl_q 2 (¬ p2) + zl_q 4 (¬ p4) + zl_q 16 (¬ p16)) + zl_q 8 p8 = ql_f4 b p2 p4 p8 p16 := by
  unfold ql_f4 ql_f3 ql_f2 ql_f1 ql_f0 zl_q
  cases b <;> by_cases h2 : p2 <;> by_cases h4 : p4 <;> by_cases h8 : p8 <;> by_cases h16 : p16 <;> simp only [h2, h4, h8, h16, not_true_eq_false, not_false_eq_true, if_true, if_false, reduceIte, reduceCtorEq] <;> decide
theorem ql_faults {i f : Nat} : ql_fa S i f (zv_jn S (zv_pu S i)) + (zl_q 2 (¬ S 23 (48 * i + f) = zp_mouth S i f) + zl_q 4 (¬ S 27 (48 * i + f) = 0) + zl_q 16 (¬ S 25 (48 * i + f) = zp_place S i f)) + zl_q 8 (0 < f ∧ nI 20 < zs_abs (S 26 (48 * i + f) - S 26 (48 * i + (f - 1)))) = zp_faults S i f := ql_fsum _ _ _ _ _
def ql_ap (S : zS) (i f : Nat) : Int32 := if f = 0 then nI 0 else S 26 (48 * i + f) - S 26 (48 * i + (f - 1))
theorem ql_ap_0 {i f : Nat} (h : f = 0) : nI 0 = ql_ap S i f := (if_pos h).symm
theorem ql_ap_n {i f : Nat} (h : ¬ f = 0) : S 26 (48 * i + f) - S 26 (48 * i + (f - 1)) = ql_ap S i f := (if_neg h).symm
theorem ql_ap_iff (h : ql_I n S sh mi) {i f : Nat} (hi : i < zv_ns S) (hf : f < zv_sk S i) : (0 < f ∧ nI 20 < zs_abs (S 26 (48 * i + f) - S 26 (48 * i + (f - 1)))) ↔ (nI 20 < ql_ap S i f ∨ ¬ (-20) ≤ ql_ap S i f) := by
  have t20 : (nI 20).toInt = 20 := nI_toInt (by decide)
  have m20 : (-20 : Int32).toInt = -20 := by decide
  have h0 : ∀ z : Int32, 0 ≤ z ↔ 0 ≤ z.toInt := fun z => by rw [zs_le, Int32.toInt_zero]
  by_cases e : f = 0
  · rw [show ql_ap S i f = nI 0 from if_pos e]
    constructor
    · intro q; omega
    · rintro (q | q)
      · exact absurd q (by decide)
      · exact absurd (show (-20 : Int32) ≤ nI 0 by decide) q
  · rw [show ql_ap S i f = _ from if_neg e]
    have b1 := ((ql_BB h).2.2.2.2.2.2 i f hi hf).2.2
    have b2 := ((ql_BB h).2.2.2.2.2.2 i (f - 1) hi (by omega)).2.2
    unfold zv_in at b1 b2
    have e1 : (S 26 (48 * i + f) - S 26 (48 * i + (f - 1))).toInt = (S 26 (48 * i + f)).toInt - (S 26 (48 * i + (f - 1))).toInt := zs_smallS (by omega) (by omega)
    generalize S 26 (48 * i + f) - S 26 (48 * i + (f - 1)) = x at e1 ⊢
    have ea : (zs_abs x).toInt = if 0 ≤ x.toInt then x.toInt else - x.toInt := by
      unfold zs_abs
      by_cases g : 0 ≤ x
      · rw [if_pos g, if_pos ((h0 _).mp g)]
      · rw [if_neg g, if_neg (fun q => g ((h0 _).mpr q)), zs_smallS (by rw [Int32.toInt_zero]; omega) (by rw [Int32.toInt_zero]; omega), Int32.toInt_zero]; omega
    rw [zs_lt, zs_lt, zs_le, ea, t20, m20]
    split <;> omega
/-! the film -/
def ql_fs (S : zS) : Nat → Nat
  | 0 => 0
  | k + 1 => ql_fs S k + zv_fr S (zv_fl S k)
theorem ql_fs_le (h : ql_I n S sh mi) : ∀ k, k ≤ zv_nf S → ql_fs S k ≤ 6 * k
  | 0, _ => Nat.le_refl _
  | k + 1, hk => by
    have e := ql_fs_le h k (by omega)
    have q := (ql_shot h (ql_film h (k := k) (by omega)).1).2.2.2.2.2.2.1
    show ql_fs S k + zv_fr S (zv_fl S k) ≤ _
    omega
theorem ql_fr11 (h : ql_I n S sh mi) {i : Nat} (hi : i < zv_ns S) : S 11 i = nI (zv_fr S i) := ((ql_W h).2.2.1.2.2.1 i hi).2.2.1
theorem ql_fs_sum (h : ql_I n S sh mi) : ∀ k, k ≤ zv_nf S → zs_sum (fun q => S 11 (zv_fl S q)) k = nI (ql_fs S k)
  | 0, _ => nI_0.symm
  | k + 1, hk => by
    show zs_sum (fun q => S 11 (zv_fl S q)) k + S 11 (zv_fl S k) = nI (ql_fs S k + zv_fr S (zv_fl S k))
    rw [ql_fs_sum h k (by omega), ql_fr11 h (ql_film h (k := k) (by omega)).1, nI_add]
theorem ql_fs_mono {j : Nat} : ∀ k, j < k → ql_fs S (j + 1) ≤ ql_fs S k
  | 0, h => absurd h (Nat.not_lt_zero _)
  | k + 1, h => by
    by_cases e : j = k
    · rw [e]; exact Nat.le_refl _
    · have q : ql_fs S (j + 1) ≤ ql_fs S k := ql_fs_mono k (by omega)
      show _ ≤ ql_fs S k + zv_fr S (zv_fl S k)
      omega
theorem ql_atg (h : ql_I n S sh mi) {x j : Nat} (hj : j < zv_nf S) (hx : x ≤ 1000) : (nI x - zs_sum (fun q => S 11 (zv_fl S q)) j < S 11 (zv_fl S j)) ↔ x < ql_fs S (j + 1) := by
  have n4 := (ql_num h).2.2.2
  have h1 := ql_fs_le h j (by omega)
  have f1 := (ql_film h hj).1
  have q := (ql_shot h f1).2.2.2.2.2.2.1
  have tx : (nI x).toInt = (x : Int) := nI_toInt (by omega)
  have ta : (nI (ql_fs S j)).toInt = (ql_fs S j : Int) := nI_toInt (by omega)
  have tb : (nI (zv_fr S (zv_fl S j))).toInt = (zv_fr S (zv_fl S j) : Int) := nI_toInt (by omega)
  rw [ql_fs_sum h j (by omega), ql_fr11 h f1, zs_lt, zs_smallS (by omega) (by omega), tx, ta, tb]
  show _ ↔ x < ql_fs S j + zv_fr S (zv_fl S j)
  omega
theorem ql_at_hit (h : ql_I n S sh mi) {k t : Nat} (hk : k < zv_nf S) (ht : t < zv_fr S (zv_fl S k)) : zp_atfilm S (nI (ql_fs S k + t)) = nI (100 * zv_fl S k + t) := by
  have n4 := (ql_num h).2.2.2
  have h1 := ql_fs_le h k (by omega)
  have f1 := ql_film h hk
  have q := (ql_shot h f1.1).2.2.2.2.2.2.1
  have hb : ql_fs S k + t ≤ 1000 := by omega
  have hg := (ql_atg h hk hb).mpr (by show _ < ql_fs S k + zv_fr S (zv_fl S k); omega)
  unfold zp_atfilm
  rcases zs_fst_cases (fun j => nI (ql_fs S k + t) - zs_sum (fun q => S 11 (zv_fl S q)) j < S 11 (zv_fl S j)) (fun j => nI 100 * S 29 j + nI (ql_fs S k + t) - zs_sum (fun q => S 11 (zv_fl S q)) j) (zv_nf S) 0 with ⟨-, hn⟩ | ⟨j, g1, g2, g3, e, hm⟩
  · exact absurd hg (hn k (by omega) (by omega))
  · have g4 := (ql_atg h (j := j) (by omega) hb).mp g3
    rcases Nat.lt_trichotomy j k with hl | rfl | hl
    · have := ql_fs_mono (S := S) k hl; omega
    · rw [e, f1.2.2, ql_fs_sum h j (by omega), pk_mul, nI_add, pk_sub (by omega)]; exact congrArg nI (by omega)
    · exact absurd hg (hm k (by omega) hl)
theorem ql_at_0 (h : ql_I n S sh mi) {k : Nat} (hk : k < zv_nf S) : zp_atfilm S (nI (ql_fs S k)) = nI (100 * zv_fl S k) :=
  ql_at_hit h (t := 0) hk (ql_shot h (ql_film h hk).1).2.2.2.2.2.1
theorem ql_at_end (h : ql_I n S sh mi) : zp_atfilm S (nI (ql_fs S (zv_nf S))) = -1 := by
  have n4 := (ql_num h).2.2.2
  have h1 := ql_fs_le h (zv_nf S) (Nat.le_refl _)
  unfold zp_atfilm
  rcases zs_fst_cases (fun j => nI (ql_fs S (zv_nf S)) - zs_sum (fun q => S 11 (zv_fl S q)) j < S 11 (zv_fl S j)) (fun j => nI 100 * S 29 j + nI (ql_fs S (zv_nf S)) - zs_sum (fun q => S 11 (zv_fl S q)) j) (zv_nf S) 0 with ⟨e, -⟩ | ⟨j, g1, g2, g3, e, hm⟩
  · exact e
  · have g4 := (ql_atg h (j := j) (by omega) (by omega)).mp g3
    have := ql_fs_mono (S := S) (zv_nf S) (show j < zv_nf S by omega)
    omega
theorem zs_nn {x : Nat} (h : x < 2 ^ 31) : (0 : Int32) ≤ nI x := by rw [zs_le, Int32.toInt_zero, nI_toInt h]; omega
end ZSO
set_option maxHeartbeats 1000000 in
set_option maxRecDepth 20000 in
theorem so_A {Γ : zz_C} {D : zz_D} {E : zz_E} {ad : Nat → Nat} {n : Nat} {S : zS} {sh0 su : zm_Sh} {iu : zm_Mi} {mu : zm_Mr} (hJu : ql_J n S su iu mu) (h10u : su 10 = some (9, 0)) {one two : Nat} (ho : one < 60000) (ht : two < 60000) {Qr : Option Value → zm_Sh → zm_Mi → zm_Mr → Prop} {uu : Nat} (hu : uu = 0) (hq : ∀ (u : Nat) (s : zm_Sh) (i : zm_Mi) (m : zm_Mr), u ≤ 17 → ql_J n S s i m → s 10 = some (9, 0) → zz Γ (D, E, 25, ad, sh0) (zz_End Γ (D, E, 25, ad, sh0) Qr zz_none 2500 15000) (10 * u) (60 * u) s i m 186 [(0, .ref 2), (1, .ref 100), (2, .ref 101), (3, .ref 102), (4, .ref 103), (5, .ref 104), (6, .ref 105), (7, .ref 106), (8, .ref 107), (9, .ref 108), (10, .ref 109), (11, .int (nI one)), (12, .int (nI two)), (13, .int (nI 1))] []) (hX : zz_X Γ (D, E, 25, ad, sh0) RL cL_isSo 12 2500 15000) (hr : (zz_h Γ).sig.returnType = (some Jvm.ClassFile.FieldType.boolean)) : zz Γ (D, E, 25, ad, sh0) (zz_End Γ (D, E, 25, ad, sh0) Qr zz_none 2500 15000) (10 * uu) (60 * uu) su iu mu 0 [(0, .ref 2), (1, .ref 100), (2, .ref 101), (3, .ref 102), (4, .ref 103), (5, .ref 104), (6, .ref 105), (7, .ref 106), (8, .ref 107), (9, .ref 108), (10, .ref 109), (11, .int (nI one)), (12, .int (nI two))] [] := by
  obtain ⟨n1, n2, n3, n4⟩ := ql_num hJu.1
  have hsm := ql_small hJu.1
  have hjn := fun (p : Nat) (hp : p < zv_np S) => (ql_BB hJu.1).1.2 p hp
  have z_o : zn (nI (one % 10)) = one % 10 := nI_clamp (n := one % 10) (by omega)
  have z_t : zn (nI (two % 3)) = two % 3 := nI_clamp (n := two % 3) (by omega)
  refine zz_aload_n hX dL_isSo_0 0 rfl rfl ?_
  refine zz_callV hX zf_M_L_136 (As := []) (st := []) (P_light S su iu mu (ql_W hJu.1) hJu.2 ) hJu.2.1.1 rfl rfl rfl (by decide) (Nat.le_of_ble_eq_true rfl) (by omega) (by omega) dL_isSo_1 ?_ (fun e s i m h _ => (zq_no_el h trivial trivial trivial).elim)
  rintro v9 s1 i1 m1 ⟨-, e9, hR9, hS9⟩ -
  obtain rfl := e9.symm
  have hJ1 := ql_J_ask hJu hR9 hS9
  have h101 := ql_10 h10u hS9
  clear hR9 hS9
  refine zz_aload hX dL_isSo_4 10 rfl ?_
  refine zz_sI (x := zp_light S) hX zf_M_L_132 (As := [.ref 109]) (st := [.int (zp_light S)]) (Q_light n S s1 i1 m1 hJ1.1) rfl rfl (by decide) (Nat.le_of_ble_eq_true rfl) (by omega) (by omega) dL_isSo_6 ?_
  refine zz_icmp_ne hX 16 dL_isSo_9 (by decide) (fun c9 => absurd rfl c9) (fun c9 => ?_)
  refine zz_iconst (v := nI 1) hX dL_isSo_12 rfl ?_
  refine zz_goto hX 17 dL_isSo_13 (by decide) ?_
  refine zz_istore (ls' := [(0, .ref 2), (1, .ref 100), (2, .ref 101), (3, .ref 102), (4, .ref 103), (5, .ref 104), (6, .ref 105), (7, .ref 106), (8, .ref 107), (9, .ref 108), (10, .ref 109), (11, .int (nI one)), (12, .int (nI two)), (13, .int (nI 1))]) hX dL_isSo_17 (Nat.le_of_ble_eq_true rfl) rfl ?_
  refine zz_iconst (v := nI 0) hX dL_isSo_19 rfl ?_
  refine zz_istore (ls' := [(0, .ref 2), (1, .ref 100), (2, .ref 101), (3, .ref 102), (4, .ref 103), (5, .ref 104), (6, .ref 105), (7, .ref 106), (8, .ref 107), (9, .ref 108), (10, .ref 109), (11, .int (nI one)), (12, .int (nI two)), (13, .int (nI 1)), (14, .int (nI 0))]) hX dL_isSo_20 (Nat.le_of_ble_eq_true rfl) rfl ?_
  refine zz_widen (k := 10 * (uu + 1)) (n := 60 * (uu + 1)) (by omega) (by omega) ?_
  have L22 : ∀ (k22 p u22 : Nat) (s22 : zm_Sh) (i22 : zm_Mi) (m22 : zm_Mr), zv_np S - p < k22 → p ≤ zv_np S → u22 ≤ uu + 1 + 8 * p → ql_J n S s22 i22 m22 → s22 10 = some (9, 0) → zz Γ (D, E, 25, ad, sh0) (zz_End Γ (D, E, 25, ad, sh0) Qr zz_none 2500 15000) (10 * u22) (60 * u22) s22 i22 m22 22 [(0, .ref 2), (1, .ref 100), (2, .ref 101), (3, .ref 102), (4, .ref 103), (5, .ref 104), (6, .ref 105), (7, .ref 106), (8, .ref 107), (9, .ref 108), (10, .ref 109), (11, .int (nI one)), (12, .int (nI two)), (13, .int (nI 1)), (14, .int (nI p))] [] := by
    intro k22
    induction k22 with
    | zero => intro p u22 s22 i22 m22 hk22; exact absurd hk22 (Nat.not_lt_zero _)
    | succ k22 ih22 =>
      intro p u22 s22 i22 m22 hk22 hv22 hu22 hJ22 h1022
      refine zz_iload hX dL_isSo_22 14 rfl ?_
      refine zz_aload hX dL_isSo_24 10 rfl ?_
      refine zz_iconst (v := nI 0) hX dL_isSo_26 rfl ?_
      refine zz_iald (x := nI (zv_np S)) hX (ql_s109 hJ22.1) 0 rfl (by decide) (by decide) ((ql_g0 hJ22.1)) dL_isSo_27 ?_
      refine zz_icmp_geN hX (by omega) (by omega) 186 dL_isSo_28 (by decide) (fun c28 => ?_) (fun c28 => ?_)
      · skip
        refine zz_pick (ls' := [(0, .ref 2), (1, .ref 100), (2, .ref 101), (3, .ref 102), (4, .ref 103), (5, .ref 104), (6, .ref 105), (7, .ref 106), (8, .ref 107), (9, .ref 108), (10, .ref 109), (11, .int (nI one)), (12, .int (nI two)), (13, .int (nI 1))]) [0, 1, 2, 3, 4, 5, 6, 7, 8, 9, 10, 11, 12, 13] rfl ?_
        refine zz_widen (k := 10 * (u22 + 0)) (n := 60 * (u22 + 0)) (by omega) (by omega) ?_
        exact hq _ _ _ _ (by omega) hJ22 h1022
      · skip
        have hjn9 := hjn p c28
        have z_p : zn (nI p) = p := nI_clamp (n := p) (by omega)
        refine zz_iload hX dL_isSo_31 13 rfl ?_
        refine zz_if_eq hX 186 dL_isSo_33 (by decide) (fun c => absurd c (by decide)) (fun _ => ?_)
        refine zz_iconst (v := nI 0) hX dL_isSo_36 rfl ?_
        refine zz_istore (ls' := [(0, .ref 2), (1, .ref 100), (2, .ref 101), (3, .ref 102), (4, .ref 103), (5, .ref 104), (6, .ref 105), (7, .ref 106), (8, .ref 107), (9, .ref 108), (10, .ref 109), (11, .int (nI one)), (12, .int (nI two)), (13, .int (nI 1)), (14, .int (nI p)), (15, .int (nI 0))]) hX dL_isSo_37 (Nat.le_of_ble_eq_true rfl) rfl ?_
        refine zz_widen (k := 10 * (u22 + 0)) (n := 60 * (u22 + 0)) (by omega) (by omega) ?_
        have L39 : ∀ (k39 a u39 : Nat) (s39 : zm_Sh) (i39 : zm_Mi) (m39 : zm_Mr), zv_jn S p - a < k39 → a ≤ zv_jn S p → u39 ≤ u22 + 0 + 2 * a → ql_J n S s39 i39 m39 → s39 10 = some (9, 0) → zz Γ (D, E, 25, ad, sh0) (zz_End Γ (D, E, 25, ad, sh0) Qr zz_none 2500 15000) (10 * u39) (60 * u39) s39 i39 m39 39 [(0, .ref 2), (1, .ref 100), (2, .ref 101), (3, .ref 102), (4, .ref 103), (5, .ref 104), (6, .ref 105), (7, .ref 106), (8, .ref 107), (9, .ref 108), (10, .ref 109), (11, .int (nI one)), (12, .int (nI two)), (13, .int (nI 1)), (14, .int (nI p)), (15, .int (nI a))] [] := by
          intro k39
          induction k39 with
          | zero => intro a u39 s39 i39 m39 hk39; exact absurd hk39 (Nat.not_lt_zero _)
          | succ k39 ih39 =>
            intro a u39 s39 i39 m39 hk39 hv39 hu39 hJ39 h1039
            refine zz_iload hX dL_isSo_39 15 rfl ?_
            refine zz_aload_n hX dL_isSo_41 1 rfl rfl ?_
            refine zz_iload hX dL_isSo_42 14 rfl ?_
            refine zz_iald (x := nI (zv_jn S p)) hX (ql_s100 hJ39.1) p rfl (by omega) (by decide) ((ql_g100 hJ39.1 (by omega))) dL_isSo_44 ?_
            refine zz_icmp_geN hX (by omega) (by omega) 116 dL_isSo_45 (by decide) (fun c45 => ?_) (fun c45 => ?_)
            · skip
              refine zz_iload hX dL_isSo_116 13 rfl ?_
              refine zz_if_eq hX 177 dL_isSo_118 (by decide) (fun c => absurd c (by decide)) (fun _ => ?_)
              refine zz_aload_n hX dL_isSo_121 0 rfl rfl ?_
              refine zz_iload hX dL_isSo_122 14 rfl ?_
              refine zz_iload hX dL_isSo_124 11 rfl ?_
              refine zz_bipush (v := nI 10) hX dL_isSo_126 rfl ?_
              refine zz_irem (z := nI (one % 10)) hX dL_isSo_128 (by decide) (pk_rem (by omega) (by decide) (by decide)) ?_
              refine zz_callV hX zf_M_L_141 (As := [.int (nI p), .int (nI (one % 10))]) (st := []) (P_left S s39 i39 m39 (ql_W hJ39.1) hJ39.2 (nI p) (nI (one % 10))) hJ39.2.1.1 rfl rfl rfl (by decide) (Nat.le_of_ble_eq_true rfl) (by omega) (by omega) dL_isSo_129 ?_ (fun e s i m h _ => (zq_no_el h (zs_ix_nI (by omega) (by omega)) ((zs_r2 (by omega)).mpr (by omega)) trivial).elim)
              rintro v9 s2 i2 m2 ⟨-, e9, hR9, hS9⟩ -
              rw [z_p, z_o] at e9
              obtain rfl := e9.symm
              have hJ2 := ql_J_ask hJ39 hR9 hS9
              have h102 := ql_10 h1039 hS9
              clear hR9 hS9
              refine zz_aload_n hX dL_isSo_132 3 rfl rfl ?_
              refine zz_bipush (v := nI 10) hX dL_isSo_133 rfl ?_
              refine zz_iload hX dL_isSo_135 14 rfl ?_
              refine zz_imul (z := nI (10 * p)) hX dL_isSo_137 (pk_mul _ _) ?_
              refine zz_iload hX dL_isSo_138 11 rfl ?_
              refine zz_bipush (v := nI 10) hX dL_isSo_140 rfl ?_
              refine zz_irem (z := nI (one % 10)) hX dL_isSo_142 (by decide) (pk_rem (by omega) (by decide) (by decide)) ?_
              refine zz_iadd (z := nI (10 * p + one % 10)) hX dL_isSo_143 (nI_add _ _) ?_
              refine zz_iald (x := S 4 (10 * p + (one % 10))) hX (ql_s102 hJ2.1) (10 * p + one % 10) rfl (by omega) (by decide) ((ql_Nm hJ2.1 p (one % 10) (by omega) (by omega))) dL_isSo_144 ?_
              refine zz_icmp_ne hX 177 dL_isSo_145 (by decide) (fun c145 => absurd rfl c145) (fun c145 => ?_)
              refine zz_aload_n hX dL_isSo_148 0 rfl rfl ?_
              refine zz_iload hX dL_isSo_149 14 rfl ?_
              refine zz_iload hX dL_isSo_151 12 rfl ?_
              refine zz_iconst (v := nI 3) hX dL_isSo_153 rfl ?_
              refine zz_irem (z := nI (two % 3)) hX dL_isSo_154 (by decide) (pk_rem (by omega) (by decide) (by decide)) ?_
              refine zz_callV hX zf_M_L_141 (As := [.int (nI p), .int (nI (two % 3))]) (st := []) (P_left S s2 i2 m2 (ql_W hJ2.1) hJ2.2 (nI p) (nI (two % 3))) hJ2.2.1.1 rfl rfl rfl (by decide) (Nat.le_of_ble_eq_true rfl) (by omega) (by omega) dL_isSo_155 ?_ (fun e s i m h _ => (zq_no_el h (zs_ix_nI (by omega) (by omega)) ((zs_r2 (by omega)).mpr (by omega)) trivial).elim)
              rintro v9 s3 i3 m3 ⟨-, e9, hR9, hS9⟩ -
              rw [z_p, z_t] at e9
              obtain rfl := e9.symm
              have hJ3 := ql_J_ask hJ2 hR9 hS9
              have h103 := ql_10 h102 hS9
              clear hR9 hS9
              refine zz_aload_n hX dL_isSo_158 3 rfl rfl ?_
              refine zz_bipush (v := nI 10) hX dL_isSo_159 rfl ?_
              refine zz_iload hX dL_isSo_161 14 rfl ?_
              refine zz_imul (z := nI (10 * p)) hX dL_isSo_163 (pk_mul _ _) ?_
              refine zz_iload hX dL_isSo_164 12 rfl ?_
              refine zz_iconst (v := nI 3) hX dL_isSo_166 rfl ?_
              refine zz_irem (z := nI (two % 3)) hX dL_isSo_167 (by decide) (pk_rem (by omega) (by decide) (by decide)) ?_
              refine zz_iadd (z := nI (10 * p + two % 3)) hX dL_isSo_168 (nI_add _ _) ?_
              refine zz_iald (x := S 4 (10 * p + (two % 3))) hX (ql_s102 hJ3.1) (10 * p + two % 3) rfl (by omega) (by decide) ((ql_Nm hJ3.1 p (two % 3) (by omega) (by omega))) dL_isSo_169 ?_
              refine zz_icmp_ne hX 177 dL_isSo_170 (by decide) (fun c170 => absurd rfl c170) (fun c170 => ?_)
              refine zz_iconst (v := nI 1) hX dL_isSo_173 rfl ?_
              refine zz_goto hX 178 dL_isSo_174 (by decide) ?_
              refine zz_istore (ls' := [(0, .ref 2), (1, .ref 100), (2, .ref 101), (3, .ref 102), (4, .ref 103), (5, .ref 104), (6, .ref 105), (7, .ref 106), (8, .ref 107), (9, .ref 108), (10, .ref 109), (11, .int (nI one)), (12, .int (nI two)), (13, .int (nI 1)), (14, .int (nI p)), (15, .int (nI a))]) hX dL_isSo_178 (Nat.le_of_ble_eq_true rfl) rfl ?_
              refine zz_iinc (v := nI (p + 1)) (ls' := [(0, .ref 2), (1, .ref 100), (2, .ref 101), (3, .ref 102), (4, .ref 103), (5, .ref 104), (6, .ref 105), (7, .ref 106), (8, .ref 107), (9, .ref 108), (10, .ref 109), (11, .int (nI one)), (12, .int (nI two)), (13, .int (nI 1)), (14, .int (nI (p + 1))), (15, .int (nI a))]) hX dL_isSo_180 14 rfl (nI_1 _) (Nat.le_of_ble_eq_true rfl) rfl ?_
              refine zz_goto hX 22 dL_isSo_183 (by decide) ?_
              refine zz_pick (ls' := [(0, .ref 2), (1, .ref 100), (2, .ref 101), (3, .ref 102), (4, .ref 103), (5, .ref 104), (6, .ref 105), (7, .ref 106), (8, .ref 107), (9, .ref 108), (10, .ref 109), (11, .int (nI one)), (12, .int (nI two)), (13, .int (nI 1)), (14, .int (nI (p + 1)))]) [0, 1, 2, 3, 4, 5, 6, 7, 8, 9, 10, 11, 12, 13, 14] rfl ?_
              refine zz_widen (k := 10 * (u39 + 2)) (n := 60 * (u39 + 2)) (by omega) (by omega) ?_
              exact ih22 (p + 1) (u39 + 2) _ _ _ (by omega) (by omega) (by omega) hJ3 h103
            · skip
              have z_a : zn (nI a) = a := nI_clamp (n := a) (by omega)
              refine zz_iload hX dL_isSo_48 13 rfl ?_
              refine zz_if_eq hX 116 dL_isSo_50 (by decide) (fun c => absurd c (by decide)) (fun _ => ?_)
              refine zz_aload_n hX dL_isSo_53 0 rfl rfl ?_
              refine zz_iload hX dL_isSo_54 14 rfl ?_
              refine zz_iload hX dL_isSo_56 15 rfl ?_
              refine zz_iconst (v := nI 0) hX dL_isSo_58 rfl ?_
              refine zz_callV hX zf_M_L_138 (As := [.int (nI p), .int (nI a), .int (nI 0)]) (st := []) (P_ofJoint S s39 i39 m39 (ql_W hJ39.1) hJ39.2 (nI p) (nI a) (nI 0)) hJ39.2.1.1 rfl rfl rfl (by decide) (Nat.le_of_ble_eq_true rfl) (by omega) (by omega) dL_isSo_59 ?_ (fun e s i m h _ => (zq_no_el h (by rw [z_p]; exact ⟨zs_ix_nI (by omega) (by omega), zs_ix_nI (by omega) (by omega)⟩) (by decide) trivial).elim)
              rintro v9 s4 i4 m4 ⟨-, e9, hR9, hS9⟩ -
              rw [z_p, z_a, if_pos (show nI 0 = (0 : Int32) from nI_0)] at e9
              obtain rfl := e9.symm
              have hJ4 := ql_J_ask hJ39 hR9 hS9
              have h104 := ql_10 h1039 hS9
              clear hR9 hS9
              refine zz_aload_n hX dL_isSo_62 2 rfl rfl ?_
              refine zz_iconst (v := nI 3) hX dL_isSo_63 rfl ?_
              refine zz_iload hX dL_isSo_64 14 rfl ?_
              refine zz_imul (z := nI (3 * p)) hX dL_isSo_66 (pk_mul _ _) ?_
              refine zz_iload hX dL_isSo_67 15 rfl ?_
              refine zz_iadd (z := nI (3 * p + a)) hX dL_isSo_69 (nI_add _ _) ?_
              refine zz_iald (x := S 3 (6 * p + a) * nI 360 + S 2 (6 * p + a)) hX (ql_s101 hJ4.1) (3 * p + a) rfl (by omega) (by decide) ((ql_Nj hJ4.1 p a (by omega) (by omega))) dL_isSo_70 ?_
              refine zz_sipush (v := nI 360) hX dL_isSo_71 rfl ?_
              refine zz_irem (z := S 2 (6 * p + a)) hX dL_isSo_74 (by decide) (zs_remJ (ql_Jd hJu.1 _) (ql_S2 hJu.1 _)) ?_
              refine zz_icmp_ne hX 107 dL_isSo_75 (by decide) (fun c75 => absurd rfl c75) (fun c75 => ?_)
              refine zz_aload_n hX dL_isSo_78 0 rfl rfl ?_
              refine zz_iload hX dL_isSo_79 14 rfl ?_
              refine zz_iload hX dL_isSo_81 15 rfl ?_
              refine zz_iconst (v := nI 1) hX dL_isSo_83 rfl ?_
              refine zz_callV hX zf_M_L_138 (As := [.int (nI p), .int (nI a), .int (nI 1)]) (st := []) (P_ofJoint S s4 i4 m4 (ql_W hJ4.1) hJ4.2 (nI p) (nI a) (nI 1)) hJ4.2.1.1 rfl rfl rfl (by decide) (Nat.le_of_ble_eq_true rfl) (by omega) (by omega) dL_isSo_84 ?_ (fun e s i m h _ => (zq_no_el h (by rw [z_p]; exact ⟨zs_ix_nI (by omega) (by omega), zs_ix_nI (by omega) (by omega)⟩) (by decide) trivial).elim)
              rintro v9 s5 i5 m5 ⟨-, e9, hR9, hS9⟩ -
              rw [z_p, z_a, if_neg (show ¬ nI 1 = (0 : Int32) by decide)] at e9
              obtain rfl := e9.symm
              have hJ5 := ql_J_ask hJ4 hR9 hS9
              have h105 := ql_10 h104 hS9
              clear hR9 hS9
              refine zz_aload_n hX dL_isSo_87 2 rfl rfl ?_
              refine zz_iconst (v := nI 3) hX dL_isSo_88 rfl ?_
              refine zz_iload hX dL_isSo_89 14 rfl ?_
              refine zz_imul (z := nI (3 * p)) hX dL_isSo_91 (pk_mul _ _) ?_
              refine zz_iload hX dL_isSo_92 15 rfl ?_
              refine zz_iadd (z := nI (3 * p + a)) hX dL_isSo_94 (nI_add _ _) ?_
              refine zz_iald (x := S 3 (6 * p + a) * nI 360 + S 2 (6 * p + a)) hX (ql_s101 hJ5.1) (3 * p + a) rfl (by omega) (by decide) ((ql_Nj hJ5.1 p a (by omega) (by omega))) dL_isSo_95 ?_
              refine zz_sipush (v := nI 360) hX dL_isSo_96 rfl ?_
              refine zz_idiv (z := S 3 (6 * p + a)) hX dL_isSo_99 (by decide) (zs_divJ (ql_Jd hJu.1 _) (ql_S2 hJu.1 _)) ?_
              refine zz_icmp_ne hX 107 dL_isSo_100 (by decide) (fun c100 => absurd rfl c100) (fun c100 => ?_)
              refine zz_iconst (v := nI 1) hX dL_isSo_103 rfl ?_
              refine zz_goto hX 108 dL_isSo_104 (by decide) ?_
              refine zz_istore (ls' := [(0, .ref 2), (1, .ref 100), (2, .ref 101), (3, .ref 102), (4, .ref 103), (5, .ref 104), (6, .ref 105), (7, .ref 106), (8, .ref 107), (9, .ref 108), (10, .ref 109), (11, .int (nI one)), (12, .int (nI two)), (13, .int (nI 1)), (14, .int (nI p)), (15, .int (nI a))]) hX dL_isSo_108 (Nat.le_of_ble_eq_true rfl) rfl ?_
              refine zz_iinc (v := nI (a + 1)) (ls' := [(0, .ref 2), (1, .ref 100), (2, .ref 101), (3, .ref 102), (4, .ref 103), (5, .ref 104), (6, .ref 105), (7, .ref 106), (8, .ref 107), (9, .ref 108), (10, .ref 109), (11, .int (nI one)), (12, .int (nI two)), (13, .int (nI 1)), (14, .int (nI p)), (15, .int (nI (a + 1)))]) hX dL_isSo_110 15 rfl (nI_1 _) (Nat.le_of_ble_eq_true rfl) rfl ?_
              refine zz_goto hX 39 dL_isSo_113 (by decide) ?_
              refine zz_widen (k := 10 * (u39 + 2)) (n := 60 * (u39 + 2)) (by omega) (by omega) ?_
              exact ih39 (a + 1) (u39 + 2) _ _ _ (by omega) (by omega) (by omega) hJ5 h105
        exact L39 (zv_jn S p - 0 + 1) 0 (u22 + 0) _ _ _ (by omega) (Nat.zero_le _) (by omega) hJ22 h1022
  exact L22 (zv_np S - 0 + 1) 0 (uu + 1) _ _ _ (by omega) (Nat.zero_le _) (by omega) hJ1 h101
set_option maxHeartbeats 1000000 in
set_option maxRecDepth 20000 in
theorem so_B1 {Γ : zz_C} {D : zz_D} {E : zz_E} {ad : Nat → Nat} {n : Nat} {S : zS} {sh0 su : zm_Sh} {iu : zm_Mi} {mu : zm_Mr} (hJu : ql_J n S su iu mu) (h10u : su 10 = some (9, 0)) {one two : Nat} (ho : one < 60000) (ht : two < 60000) {Qr : Option Value → zm_Sh → zm_Mi → zm_Mr → Prop} (q : Nat) (hq9 : q < zv_ns S) {uu : Nat} (hu : uu ≤ 17 + 71 * q) (hq : ∀ j : Nat, j < zv_jn S (zv_pu S q) → ∀ (u : Nat) (s : zm_Sh) (i : zm_Mi) (m : zm_Mr), u ≤ uu + 18 → ql_J n S s i m → s 10 = some (9, 0) → zz Γ (D, E, 25, ad, sh0) (zz_End Γ (D, E, 25, ad, sh0) Qr zz_none 2500 15000) (10 * u) (60 * u) s i m 424 [(0, .ref 2), (1, .ref 100), (2, .ref 101), (3, .ref 102), (4, .ref 103), (5, .ref 104), (6, .ref 105), (7, .ref 106), (8, .ref 107), (9, .ref 108), (10, .ref 109), (11, .int (nI one)), (12, .int (nI two)), (13, .int (nI 1)), (14, .int (nI q)), (15, .int (nI (zv_pu S q))), (16, .int (nI j)), (17, .int (zp_wants S q (nI (two % 3)) (zv_fr S q))), (18, .int ((zp_wr S q j (zv_fr S q - zv_sk S q)).2))] []) (hX : zz_X Γ (D, E, 25, ad, sh0) RL cL_isSo 12 2500 15000) (hr : (zz_h Γ).sig.returnType = (some Jvm.ClassFile.FieldType.boolean)) : zz Γ (D, E, 25, ad, sh0) (zz_End Γ (D, E, 25, ad, sh0) Qr zz_none 2500 15000) (10 * uu) (60 * uu) su iu mu 203 [(0, .ref 2), (1, .ref 100), (2, .ref 101), (3, .ref 102), (4, .ref 103), (5, .ref 104), (6, .ref 105), (7, .ref 106), (8, .ref 107), (9, .ref 108), (10, .ref 109), (11, .int (nI one)), (12, .int (nI two)), (13, .int (nI 1)), (14, .int (nI q))] [] := by
  obtain ⟨n1, n2, n3, n4⟩ := ql_num hJu.1
  have hsm := ql_small hJu.1
  obtain ⟨q1, q2, q3, q4, q5, q6, q7, q8, q9, q10, q11, q12⟩ := ql_shot hJu.1 hq9
  have hw9 := ql_hw_lt hJu.1 hq9
  have hpu9 := ql_hw_pu hJu.1 hq9
  have z_q : zn (nI q) = q := nI_clamp (n := q) (by omega)
  have z_t : zn (nI (two % 3)) = two % 3 := nI_clamp (n := two % 3) (by omega)
  refine zz_aload hX dL_isSo_203 5 rfl ?_
  refine zz_iload hX dL_isSo_205 14 rfl ?_
  refine zz_iald (x := nI (ql_hw S q)) hX (ql_s104 hJu.1) q rfl (by omega) (by decide) ((ql_rd_h hJu.1 (by omega))) dL_isSo_207 ?_
  refine zz_iconst (v := nI 4) hX dL_isSo_208 rfl ?_
  refine zz_irem (z := nI (zv_pu S q)) hX dL_isSo_209 (by decide) ((pk_rem (by omega) (by decide) (by decide)).trans (congrArg nI hpu9)) ?_
  refine zz_istore (ls' := [(0, .ref 2), (1, .ref 100), (2, .ref 101), (3, .ref 102), (4, .ref 103), (5, .ref 104), (6, .ref 105), (7, .ref 106), (8, .ref 107), (9, .ref 108), (10, .ref 109), (11, .int (nI one)), (12, .int (nI two)), (13, .int (nI 1)), (14, .int (nI q)), (15, .int (nI (zv_pu S q)))]) hX dL_isSo_210 (Nat.le_of_ble_eq_true rfl) rfl ?_
  refine zz_iload hX dL_isSo_212 11 rfl ?_
  refine zz_aload_n hX dL_isSo_214 1 rfl rfl ?_
  refine zz_iload hX dL_isSo_215 15 rfl ?_
  refine zz_iald (x := nI (zv_jn S (zv_pu S q))) hX (ql_s100 hJu.1) (zv_pu S q) rfl (by omega) (by decide) ((ql_g100 hJu.1 (by omega))) dL_isSo_217 ?_
  refine zz_irem (z := nI (one % (zv_jn S (zv_pu S q)))) hX dL_isSo_218 (nI_ne0 (by omega) (by omega)) (pk_rem (by omega) (by omega) (by omega)) ?_
  have hj9 : one % zv_jn S (zv_pu S q) < zv_jn S (zv_pu S q) := Nat.mod_lt _ (by omega)
  generalize one % zv_jn S (zv_pu S q) = j at hj9 ⊢
  have z_j : zn (nI j) = j := nI_clamp (n := j) (by omega)
  refine zz_istore (ls' := [(0, .ref 2), (1, .ref 100), (2, .ref 101), (3, .ref 102), (4, .ref 103), (5, .ref 104), (6, .ref 105), (7, .ref 106), (8, .ref 107), (9, .ref 108), (10, .ref 109), (11, .int (nI one)), (12, .int (nI two)), (13, .int (nI 1)), (14, .int (nI q)), (15, .int (nI (zv_pu S q))), (16, .int (nI j))]) hX dL_isSo_219 (Nat.le_of_ble_eq_true rfl) rfl ?_
  refine zz_iconst (v := nI 0) hX dL_isSo_221 rfl ?_
  refine zz_istore (ls' := [(0, .ref 2), (1, .ref 100), (2, .ref 101), (3, .ref 102), (4, .ref 103), (5, .ref 104), (6, .ref 105), (7, .ref 106), (8, .ref 107), (9, .ref 108), (10, .ref 109), (11, .int (nI one)), (12, .int (nI two)), (13, .int (nI 1)), (14, .int (nI q)), (15, .int (nI (zv_pu S q))), (16, .int (nI j)), (17, .int (nI 0))]) hX dL_isSo_222 (Nat.le_of_ble_eq_true rfl) rfl ?_
  refine zz_iconst (v := nI 0) hX dL_isSo_224 rfl ?_
  refine zz_istore (ls' := [(0, .ref 2), (1, .ref 100), (2, .ref 101), (3, .ref 102), (4, .ref 103), (5, .ref 104), (6, .ref 105), (7, .ref 106), (8, .ref 107), (9, .ref 108), (10, .ref 109), (11, .int (nI one)), (12, .int (nI two)), (13, .int (nI 1)), (14, .int (nI q)), (15, .int (nI (zv_pu S q))), (16, .int (nI j)), (17, .int (nI 0)), (18, .int (nI 0))]) hX dL_isSo_225 (Nat.le_of_ble_eq_true rfl) rfl ?_
  refine zz_aload_n hX dL_isSo_227 2 rfl rfl ?_
  refine zz_iconst (v := nI 3) hX dL_isSo_228 rfl ?_
  refine zz_iload hX dL_isSo_229 15 rfl ?_
  refine zz_imul (z := nI (3 * (zv_pu S q))) hX dL_isSo_231 (pk_mul _ _) ?_
  refine zz_iload hX dL_isSo_232 16 rfl ?_
  refine zz_iadd (z := nI (3 * (zv_pu S q) + j)) hX dL_isSo_234 (nI_add _ _) ?_
  refine zz_iald (x := S 3 (6 * (zv_pu S q) + j) * nI 360 + S 2 (6 * (zv_pu S q) + j)) hX (ql_s101 hJu.1) (3 * (zv_pu S q) + j) rfl (by omega) (by decide) ((ql_Nj hJu.1 (zv_pu S q) j (by omega) (by omega))) dL_isSo_235 ?_
  refine zz_sipush (v := nI 360) hX dL_isSo_236 rfl ?_
  refine zz_irem (z := S 2 (6 * zv_pu S q + j)) hX dL_isSo_239 (by decide) (zs_remJ (ql_Jd hJu.1 _) (ql_S2 hJu.1 _)) ?_
  refine zz_istore (ls' := [(0, .ref 2), (1, .ref 100), (2, .ref 101), (3, .ref 102), (4, .ref 103), (5, .ref 104), (6, .ref 105), (7, .ref 106), (8, .ref 107), (9, .ref 108), (10, .ref 109), (11, .int (nI one)), (12, .int (nI two)), (13, .int (nI 1)), (14, .int (nI q)), (15, .int (nI (zv_pu S q))), (16, .int (nI j)), (17, .int (nI 0)), (18, .int (nI 0)), (19, .int (S 2 (6 * zv_pu S q + j)))]) hX dL_isSo_240 (Nat.le_of_ble_eq_true rfl) rfl ?_
  refine zz_iconst (v := (-1)) hX dL_isSo_242 rfl ?_
  refine zz_istore (ls' := [(0, .ref 2), (1, .ref 100), (2, .ref 101), (3, .ref 102), (4, .ref 103), (5, .ref 104), (6, .ref 105), (7, .ref 106), (8, .ref 107), (9, .ref 108), (10, .ref 109), (11, .int (nI one)), (12, .int (nI two)), (13, .int (nI 1)), (14, .int (nI q)), (15, .int (nI (zv_pu S q))), (16, .int (nI j)), (17, .int (nI 0)), (18, .int (nI 0)), (19, .int (S 2 (6 * zv_pu S q + j))), (20, .int (-1))]) hX dL_isSo_243 (Nat.le_of_ble_eq_true rfl) rfl ?_
  refine zz_iconst (v := nI 0) hX dL_isSo_245 rfl ?_
  refine zz_istore (ls' := [(0, .ref 2), (1, .ref 100), (2, .ref 101), (3, .ref 102), (4, .ref 103), (5, .ref 104), (6, .ref 105), (7, .ref 106), (8, .ref 107), (9, .ref 108), (10, .ref 109), (11, .int (nI one)), (12, .int (nI two)), (13, .int (nI 1)), (14, .int (nI q)), (15, .int (nI (zv_pu S q))), (16, .int (nI j)), (17, .int (nI 0)), (18, .int (nI 0)), (19, .int (S 2 (6 * zv_pu S q + j))), (20, .int (-1)), (21, .int (nI 0))]) hX dL_isSo_246 (Nat.le_of_ble_eq_true rfl) rfl ?_
  refine zz_lcl (ls' := [(0, .ref 2), (1, .ref 100), (2, .ref 101), (3, .ref 102), (4, .ref 103), (5, .ref 104), (6, .ref 105), (7, .ref 106), (8, .ref 107), (9, .ref 108), (10, .ref 109), (11, .int (nI one)), (12, .int (nI two)), (13, .int (nI 1)), (14, .int (nI q)), (15, .int (nI (zv_pu S q))), (16, .int (nI j)), (17, .int (zp_wants S q (nI (two % 3)) 0)), (18, .int ((zp_wr S q j (0 - zv_sk S q)).2)), (19, .int ((zp_wr S q j (0 - zv_sk S q)).1)), (20, .int (zp_bef S q 0)), (21, .int (nI 0))]) (by rw [Nat.zero_sub]; rfl) ?_
  refine zz_widen (k := 10 * (uu + 0)) (n := 60 * (uu + 0)) (by omega) (by omega) ?_
  have L248 : ∀ (k248 f u248 : Nat) (s248 : zm_Sh) (i248 : zm_Mi) (m248 : zm_Mr), zv_fr S q - f < k248 → f ≤ zv_fr S q → u248 ≤ uu + 0 + 3 * f → ql_J n S s248 i248 m248 → s248 10 = some (9, 0) → zz Γ (D, E, 25, ad, sh0) (zz_End Γ (D, E, 25, ad, sh0) Qr zz_none 2500 15000) (10 * u248) (60 * u248) s248 i248 m248 248 [(0, .ref 2), (1, .ref 100), (2, .ref 101), (3, .ref 102), (4, .ref 103), (5, .ref 104), (6, .ref 105), (7, .ref 106), (8, .ref 107), (9, .ref 108), (10, .ref 109), (11, .int (nI one)), (12, .int (nI two)), (13, .int (nI 1)), (14, .int (nI q)), (15, .int (nI (zv_pu S q))), (16, .int (nI j)), (17, .int (zp_wants S q (nI (two % 3)) f)), (18, .int ((zp_wr S q j (f - zv_sk S q)).2)), (19, .int ((zp_wr S q j (f - zv_sk S q)).1)), (20, .int (zp_bef S q f)), (21, .int (nI f))] [] := by
    intro k248
    induction k248 with
    | zero => intro f u248 s248 i248 m248 hk248; exact absurd hk248 (Nat.not_lt_zero _)
    | succ k248 ih248 =>
      intro f u248 s248 i248 m248 hk248 hv248 hu248 hJ248 h10248
      refine zz_iload hX dL_isSo_248 21 rfl ?_
      refine zz_aload hX dL_isSo_250 5 rfl ?_
      refine zz_iload hX dL_isSo_252 14 rfl ?_
      refine zz_sI (x := nI (zv_fr S q)) hX zf_M_L_105 (As := [.ref 104, .int (nI q)]) (st := [.int (nI f)]) (Q_frames n S s248 i248 m248 hJ248.1 q (by omega)) rfl rfl (by decide) (Nat.le_of_ble_eq_true rfl) (by omega) (by omega) dL_isSo_254 ?_
      refine zz_icmp_geN hX (by omega) (by omega) 424 dL_isSo_257 (by decide) (fun c257 => ?_) (fun c257 => ?_)
      · skip
        obtain rfl : f = zv_fr S q := by omega
        refine zz_pick (ls' := [(0, .ref 2), (1, .ref 100), (2, .ref 101), (3, .ref 102), (4, .ref 103), (5, .ref 104), (6, .ref 105), (7, .ref 106), (8, .ref 107), (9, .ref 108), (10, .ref 109), (11, .int (nI one)), (12, .int (nI two)), (13, .int (nI 1)), (14, .int (nI q)), (15, .int (nI (zv_pu S q))), (16, .int (nI j)), (17, .int (zp_wants S q (nI (two % 3)) (zv_fr S q))), (18, .int ((zp_wr S q j (zv_fr S q - zv_sk S q)).2))]) [0, 1, 2, 3, 4, 5, 6, 7, 8, 9, 10, 11, 12, 13, 14, 15, 16, 17, 18] rfl ?_
        refine zz_widen (k := 10 * (u248 + 0)) (n := 60 * (u248 + 0)) (by omega) (by omega) ?_
        exact hq j hj9 _ _ _ _ (by omega) hJ248 h10248
      · skip
        have z_f : zn (nI f) = f := nI_clamp (n := f) (by omega)
        refine zz_iload hX dL_isSo_260 13 rfl ?_
        refine zz_if_eq hX 424 dL_isSo_262 (by decide) (fun c => absurd c (by decide)) (fun _ => ?_)
        refine zz_aload hX dL_isSo_265 5 rfl ?_
        refine zz_aload hX dL_isSo_267 6 rfl ?_
        refine zz_iload hX dL_isSo_269 14 rfl ?_
        refine zz_iload hX dL_isSo_271 16 rfl ?_
        refine zz_iload hX dL_isSo_273 21 rfl ?_
        refine zz_sI (x := zp_deg S q j f) hX zf_M_L_120 (As := [.ref 104, .ref 105, .int (nI q), .int (nI j), .int (nI f)]) (st := []) (Q_degree n S s248 i248 m248 hJ248.1 q (by omega) j (by omega) f (by omega)) rfl rfl (by decide) (Nat.le_of_ble_eq_true rfl) (by omega) (by omega) dL_isSo_275 ?_
        refine zz_istore (ls' := [(0, .ref 2), (1, .ref 100), (2, .ref 101), (3, .ref 102), (4, .ref 103), (5, .ref 104), (6, .ref 105), (7, .ref 106), (8, .ref 107), (9, .ref 108), (10, .ref 109), (11, .int (nI one)), (12, .int (nI two)), (13, .int (nI 1)), (14, .int (nI q)), (15, .int (nI (zv_pu S q))), (16, .int (nI j)), (17, .int (zp_wants S q (nI (two % 3)) f)), (18, .int ((zp_wr S q j (f - zv_sk S q)).2)), (19, .int ((zp_wr S q j (f - zv_sk S q)).1)), (20, .int (zp_bef S q f)), (21, .int (nI f)), (22, .int (zp_deg S q j f))]) hX dL_isSo_278 (Nat.le_of_ble_eq_true rfl) rfl ?_
        refine zz_aload hX dL_isSo_280 5 rfl ?_
        refine zz_aload hX dL_isSo_282 4 rfl ?_
        refine zz_iload hX dL_isSo_284 14 rfl ?_
        refine zz_iload hX dL_isSo_286 21 rfl ?_
        refine zz_sI (x := zp_mouth S q f) hX zf_M_L_108 (As := [.ref 104, .ref 103, .int (nI q), .int (nI f)]) (st := []) (Q_mouth n S s248 i248 m248 hJ248.1 q (by omega) f (by omega)) rfl rfl (by decide) (Nat.le_of_ble_eq_true rfl) (by omega) (by omega) dL_isSo_288 ?_
        refine zz_istore (ls' := [(0, .ref 2), (1, .ref 100), (2, .ref 101), (3, .ref 102), (4, .ref 103), (5, .ref 104), (6, .ref 105), (7, .ref 106), (8, .ref 107), (9, .ref 108), (10, .ref 109), (11, .int (nI one)), (12, .int (nI two)), (13, .int (nI 1)), (14, .int (nI q)), (15, .int (nI (zv_pu S q))), (16, .int (nI j)), (17, .int (zp_wants S q (nI (two % 3)) f)), (18, .int ((zp_wr S q j (f - zv_sk S q)).2)), (19, .int ((zp_wr S q j (f - zv_sk S q)).1)), (20, .int (zp_bef S q f)), (21, .int (nI f)), (22, .int (zp_deg S q j f)), (23, .int (zp_mouth S q f))]) hX dL_isSo_291 (Nat.le_of_ble_eq_true rfl) rfl ?_
        refine zz_aload_n hX dL_isSo_293 0 rfl rfl ?_
        refine zz_iload hX dL_isSo_294 14 rfl ?_
        refine zz_iload hX dL_isSo_296 16 rfl ?_
        refine zz_iload hX dL_isSo_298 21 rfl ?_
        refine zz_callV hX zf_M_L_144 (As := [.int (nI q), .int (nI j), .int (nI f)]) (st := []) (P_degree S s248 i248 m248 (ql_W hJ248.1) hJ248.2 (nI q) (nI j) (nI f)) hJ248.2.1.1 rfl rfl rfl (by decide) (Nat.le_of_ble_eq_true rfl) (by omega) (by omega) dL_isSo_300 ?_ (fun e s i m h _ => (zq_no_el h (by rw [z_q]; exact ⟨zs_ix_nI (by omega) (by omega), zs_ix_nI (by omega) (by omega), zs_ix_nI (by omega) (by omega)⟩) trivial trivial).elim)
        rintro v9 s6 i6 m6 ⟨-, e9, hR9, hS9⟩ -
        rw [z_q, z_j, z_f] at e9
        obtain rfl := e9.symm
        have hJ6 := ql_J_ask hJ248 hR9 hS9
        have h106 := ql_10 h10248 hS9
        clear hR9 hS9
        refine zz_iload hX dL_isSo_303 22 rfl ?_
        refine zz_icmp_ne hX 345 dL_isSo_305 (by decide) (fun c305 => absurd rfl c305) (fun c305 => ?_)
        refine zz_aload_n hX dL_isSo_308 0 rfl rfl ?_
        refine zz_iload hX dL_isSo_309 14 rfl ?_
        refine zz_iload hX dL_isSo_311 21 rfl ?_
        refine zz_callV hX zf_M_L_146 (As := [.int (nI q), .int (nI f)]) (st := []) (P_mouth S s6 i6 m6 (ql_W hJ6.1) hJ6.2 (nI q) (nI f)) hJ6.2.1.1 rfl rfl rfl (by decide) (Nat.le_of_ble_eq_true rfl) (by omega) (by omega) dL_isSo_313 ?_ (fun e s i m h _ => (zq_no_el h (by rw [z_q]; exact ⟨zs_ix_nI (by omega) (by omega), zs_ix_nI (by omega) (by omega)⟩) trivial trivial).elim)
        rintro v9 s7 i7 m7 ⟨-, e9, hR9, hS9⟩ -
        rw [z_q, z_f] at e9
        obtain rfl := e9.symm
        have hJ7 := ql_J_ask hJ6 hR9 hS9
        have h107 := ql_10 h106 hS9
        clear hR9 hS9
        refine zz_iload hX dL_isSo_316 23 rfl ?_
        refine zz_icmp_ne hX 345 dL_isSo_318 (by decide) (fun c318 => absurd rfl c318) (fun c318 => ?_)
        refine zz_aload_n hX dL_isSo_321 0 rfl rfl ?_
        refine zz_iload hX dL_isSo_322 14 rfl ?_
        refine zz_iload hX dL_isSo_324 21 rfl ?_
        refine zz_callV hX zf_M_L_148 (As := [.int (nI q), .int (nI f)]) (st := []) (P_place S s7 i7 m7 (ql_W hJ7.1) hJ7.2 (nI q) (nI f)) hJ7.2.1.1 rfl rfl rfl (by decide) (Nat.le_of_ble_eq_true rfl) (by omega) (by omega) dL_isSo_326 ?_ (fun e s i m h _ => (zq_no_el h (by rw [z_q]; exact ⟨zs_ix_nI (by omega) (by omega), zs_ix_nI (by omega) (by omega)⟩) trivial trivial).elim)
        rintro v9 s8 i8 m8 ⟨-, e9, hR9, hS9⟩ -
        rw [z_q, z_f] at e9
        obtain rfl := e9.symm
        have hJ8 := ql_J_ask hJ7 hR9 hS9
        have h108 := ql_10 h107 hS9
        clear hR9 hS9
        refine zz_aload hX dL_isSo_329 7 rfl ?_
        refine zz_iload hX dL_isSo_331 14 rfl ?_
        refine zz_iload hX dL_isSo_333 21 rfl ?_
        refine zz_sI (x := zp_place S q f) hX zf_M_L_127 (As := [.ref 106, .int (nI q), .int (nI f)]) (st := [.int (zp_place S q f)]) (Q_place n S s8 i8 m8 hJ8.1 q (by omega) f (by omega)) rfl rfl (by decide) (Nat.le_of_ble_eq_true rfl) (by omega) (by omega) dL_isSo_335 ?_
        refine zz_icmp_ne hX 345 dL_isSo_338 (by decide) (fun c338 => absurd rfl c338) (fun c338 => ?_)
        refine zz_iconst (v := nI 1) hX dL_isSo_341 rfl ?_
        refine zz_goto hX 346 dL_isSo_342 (by decide) ?_
        refine zz_istore (ls' := [(0, .ref 2), (1, .ref 100), (2, .ref 101), (3, .ref 102), (4, .ref 103), (5, .ref 104), (6, .ref 105), (7, .ref 106), (8, .ref 107), (9, .ref 108), (10, .ref 109), (11, .int (nI one)), (12, .int (nI two)), (13, .int (nI 1)), (14, .int (nI q)), (15, .int (nI (zv_pu S q))), (16, .int (nI j)), (17, .int (zp_wants S q (nI (two % 3)) f)), (18, .int ((zp_wr S q j (f - zv_sk S q)).2)), (19, .int ((zp_wr S q j (f - zv_sk S q)).1)), (20, .int (zp_bef S q f)), (21, .int (nI f)), (22, .int (zp_deg S q j f)), (23, .int (zp_mouth S q f))]) hX dL_isSo_346 (Nat.le_of_ble_eq_true rfl) rfl ?_
        refine zz_iload hX dL_isSo_348 17 rfl ?_
        have K371 : zz Γ (D, E, 25, ad, sh0) (zz_End Γ (D, E, 25, ad, sh0) Qr zz_none 2500 15000) (10 * u248 + 10 + 10 + 10) (60 * u248 + 60 + 60 + 60) s8 i8 m8 371 [(0, .ref 2), (1, .ref 100), (2, .ref 101), (3, .ref 102), (4, .ref 103), (5, .ref 104), (6, .ref 105), (7, .ref 106), (8, .ref 107), (9, .ref 108), (10, .ref 109), (11, .int (nI one)), (12, .int (nI two)), (13, .int (nI 1)), (14, .int (nI q)), (15, .int (nI (zv_pu S q))), (16, .int (nI j)), (17, .int (zp_wants S q (nI (two % 3)) f)), (18, .int ((zp_wr S q j (f - zv_sk S q)).2)), (19, .int ((zp_wr S q j (f - zv_sk S q)).1)), (20, .int (zp_bef S q f)), (21, .int (nI f)), (22, .int (zp_deg S q j f)), (23, .int (zp_mouth S q f))] [.int (zl_q 1 (zp_mouth S q f = nI (two % 3) ∧ ¬ zp_bef S q f = zp_mouth S q f)), .int (zp_wants S q (nI (two % 3)) f)] := by
          refine zz_iadd (z := (zp_wants S q (nI (two % 3)) f) + (zl_q 1 (zp_mouth S q f = nI (two % 3) ∧ ¬ zp_bef S q f = zp_mouth S q f))) hX dL_isSo_371 rfl ?_
          refine zz_istore (ls' := [(0, .ref 2), (1, .ref 100), (2, .ref 101), (3, .ref 102), (4, .ref 103), (5, .ref 104), (6, .ref 105), (7, .ref 106), (8, .ref 107), (9, .ref 108), (10, .ref 109), (11, .int (nI one)), (12, .int (nI two)), (13, .int (nI 1)), (14, .int (nI q)), (15, .int (nI (zv_pu S q))), (16, .int (nI j)), (17, .int ((zp_wants S q (nI (two % 3)) f) + (zl_q 1 (zp_mouth S q f = nI (two % 3) ∧ ¬ zp_bef S q f = zp_mouth S q f)))), (18, .int ((zp_wr S q j (f - zv_sk S q)).2)), (19, .int ((zp_wr S q j (f - zv_sk S q)).1)), (20, .int (zp_bef S q f)), (21, .int (nI f)), (22, .int (zp_deg S q j f)), (23, .int (zp_mouth S q f))]) hX dL_isSo_372 (Nat.le_of_ble_eq_true rfl) rfl ?_
          refine zz_iload hX dL_isSo_374 23 rfl ?_
          refine zz_istore (ls' := [(0, .ref 2), (1, .ref 100), (2, .ref 101), (3, .ref 102), (4, .ref 103), (5, .ref 104), (6, .ref 105), (7, .ref 106), (8, .ref 107), (9, .ref 108), (10, .ref 109), (11, .int (nI one)), (12, .int (nI two)), (13, .int (nI 1)), (14, .int (nI q)), (15, .int (nI (zv_pu S q))), (16, .int (nI j)), (17, .int ((zp_wants S q (nI (two % 3)) f) + (zl_q 1 (zp_mouth S q f = nI (two % 3) ∧ ¬ zp_bef S q f = zp_mouth S q f)))), (18, .int ((zp_wr S q j (f - zv_sk S q)).2)), (19, .int ((zp_wr S q j (f - zv_sk S q)).1)), (20, .int (zp_mouth S q f)), (21, .int (nI f)), (22, .int (zp_deg S q j f)), (23, .int (zp_mouth S q f))]) hX dL_isSo_376 (Nat.le_of_ble_eq_true rfl) rfl ?_
          refine zz_iload hX dL_isSo_378 21 rfl ?_
          refine zz_aload hX dL_isSo_380 5 rfl ?_
          refine zz_iload hX dL_isSo_382 14 rfl ?_
          refine zz_sI (x := nI (zv_sk S q)) hX zf_M_L_101 (As := [.ref 104, .int (nI q)]) (st := [.int (nI f)]) (Q_struck n S s8 i8 m8 hJ8.1 q (by omega)) rfl rfl (by decide) (Nat.le_of_ble_eq_true rfl) (by omega) (by omega) dL_isSo_384 ?_
          refine zz_icmp_ltN hX (by omega) (by omega) 418 dL_isSo_387 (by decide) (fun c387 => ?_) (fun c387 => ?_)
          · skip
            refine zz_iinc (v := nI (f + 1)) (ls' := [(0, .ref 2), (1, .ref 100), (2, .ref 101), (3, .ref 102), (4, .ref 103), (5, .ref 104), (6, .ref 105), (7, .ref 106), (8, .ref 107), (9, .ref 108), (10, .ref 109), (11, .int (nI one)), (12, .int (nI two)), (13, .int (nI 1)), (14, .int (nI q)), (15, .int (nI (zv_pu S q))), (16, .int (nI j)), (17, .int ((zp_wants S q (nI (two % 3)) f) + (zl_q 1 (zp_mouth S q f = nI (two % 3) ∧ ¬ zp_bef S q f = zp_mouth S q f)))), (18, .int ((zp_wr S q j (f - zv_sk S q)).2)), (19, .int ((zp_wr S q j (f - zv_sk S q)).1)), (20, .int (zp_mouth S q f)), (21, .int (nI (f + 1))), (22, .int (zp_deg S q j f)), (23, .int (zp_mouth S q f))]) hX dL_isSo_418 21 rfl (nI_1 _) (Nat.le_of_ble_eq_true rfl) rfl ?_
            refine zz_goto hX 248 dL_isSo_421 (by decide) ?_
            refine zz_pick (ls' := [(0, .ref 2), (1, .ref 100), (2, .ref 101), (3, .ref 102), (4, .ref 103), (5, .ref 104), (6, .ref 105), (7, .ref 106), (8, .ref 107), (9, .ref 108), (10, .ref 109), (11, .int (nI one)), (12, .int (nI two)), (13, .int (nI 1)), (14, .int (nI q)), (15, .int (nI (zv_pu S q))), (16, .int (nI j)), (17, .int ((zp_wants S q (nI (two % 3)) f) + (zl_q 1 (zp_mouth S q f = nI (two % 3) ∧ ¬ zp_bef S q f = zp_mouth S q f)))), (18, .int ((zp_wr S q j (f - zv_sk S q)).2)), (19, .int ((zp_wr S q j (f - zv_sk S q)).1)), (20, .int (zp_mouth S q f)), (21, .int (nI (f + 1)))]) [0, 1, 2, 3, 4, 5, 6, 7, 8, 9, 10, 11, 12, 13, 14, 15, 16, 17, 18, 19, 20, 21] rfl ?_
            refine zz_lcl (ls' := [(0, .ref 2), (1, .ref 100), (2, .ref 101), (3, .ref 102), (4, .ref 103), (5, .ref 104), (6, .ref 105), (7, .ref 106), (8, .ref 107), (9, .ref 108), (10, .ref 109), (11, .int (nI one)), (12, .int (nI two)), (13, .int (nI 1)), (14, .int (nI q)), (15, .int (nI (zv_pu S q))), (16, .int (nI j)), (17, .int (zp_wants S q (nI (two % 3)) (f + 1))), (18, .int ((zp_wr S q j (f + 1 - zv_sk S q)).2)), (19, .int ((zp_wr S q j (f + 1 - zv_sk S q)).1)), (20, .int (zp_bef S q (f + 1))), (21, .int (nI (f + 1)))]) (by rw [zp_wr_a c387, zp_bef_s, zp_wants_s]) ?_
            refine zz_widen (k := 10 * (u248 + 3)) (n := 60 * (u248 + 3)) (by omega) (by omega) ?_
            exact ih248 (f + 1) (u248 + 3) _ _ _ (by omega) (by omega) (by omega) hJ8 h108
          · skip
            refine zz_aload hX dL_isSo_390 5 rfl ?_
            refine zz_iload hX dL_isSo_392 14 rfl ?_
            refine zz_iload hX dL_isSo_394 21 rfl ?_
            refine zz_sI (x := zz_bi (zp_held S q f)) hX zf_M_L_91 (As := [.ref 104, .int (nI q), .int (nI f)]) (st := []) (Q_isHeld n S s8 i8 m8 hJ8.1 q (by omega) f (by omega)) rfl rfl (by decide) (Nat.le_of_ble_eq_true rfl) (by omega) (by omega) dL_isSo_396 ?_
            refine zz_if_neB hX 418 dL_isSo_399 (by decide) (fun c399 => ?_) (fun c399 => ?_)
            · skip
              refine zz_iinc (v := nI (f + 1)) (ls' := [(0, .ref 2), (1, .ref 100), (2, .ref 101), (3, .ref 102), (4, .ref 103), (5, .ref 104), (6, .ref 105), (7, .ref 106), (8, .ref 107), (9, .ref 108), (10, .ref 109), (11, .int (nI one)), (12, .int (nI two)), (13, .int (nI 1)), (14, .int (nI q)), (15, .int (nI (zv_pu S q))), (16, .int (nI j)), (17, .int ((zp_wants S q (nI (two % 3)) f) + (zl_q 1 (zp_mouth S q f = nI (two % 3) ∧ ¬ zp_bef S q f = zp_mouth S q f)))), (18, .int ((zp_wr S q j (f - zv_sk S q)).2)), (19, .int ((zp_wr S q j (f - zv_sk S q)).1)), (20, .int (zp_mouth S q f)), (21, .int (nI (f + 1))), (22, .int (zp_deg S q j f)), (23, .int (zp_mouth S q f))]) hX dL_isSo_418 21 rfl (nI_1 _) (Nat.le_of_ble_eq_true rfl) rfl ?_
              refine zz_goto hX 248 dL_isSo_421 (by decide) ?_
              refine zz_pick (ls' := [(0, .ref 2), (1, .ref 100), (2, .ref 101), (3, .ref 102), (4, .ref 103), (5, .ref 104), (6, .ref 105), (7, .ref 106), (8, .ref 107), (9, .ref 108), (10, .ref 109), (11, .int (nI one)), (12, .int (nI two)), (13, .int (nI 1)), (14, .int (nI q)), (15, .int (nI (zv_pu S q))), (16, .int (nI j)), (17, .int ((zp_wants S q (nI (two % 3)) f) + (zl_q 1 (zp_mouth S q f = nI (two % 3) ∧ ¬ zp_bef S q f = zp_mouth S q f)))), (18, .int ((zp_wr S q j (f - zv_sk S q)).2)), (19, .int ((zp_wr S q j (f - zv_sk S q)).1)), (20, .int (zp_mouth S q f)), (21, .int (nI (f + 1)))]) [0, 1, 2, 3, 4, 5, 6, 7, 8, 9, 10, 11, 12, 13, 14, 15, 16, 17, 18, 19, 20, 21] rfl ?_
              refine zz_lcl (ls' := [(0, .ref 2), (1, .ref 100), (2, .ref 101), (3, .ref 102), (4, .ref 103), (5, .ref 104), (6, .ref 105), (7, .ref 106), (8, .ref 107), (9, .ref 108), (10, .ref 109), (11, .int (nI one)), (12, .int (nI two)), (13, .int (nI 1)), (14, .int (nI q)), (15, .int (nI (zv_pu S q))), (16, .int (nI j)), (17, .int (zp_wants S q (nI (two % 3)) (f + 1))), (18, .int ((zp_wr S q j (f + 1 - zv_sk S q)).2)), (19, .int ((zp_wr S q j (f + 1 - zv_sk S q)).1)), (20, .int (zp_bef S q (f + 1))), (21, .int (nI (f + 1)))]) (by rw [zp_wr_b c387 c399, zp_bef_s, zp_wants_s]) ?_
              refine zz_widen (k := 10 * (u248 + 3)) (n := 60 * (u248 + 3)) (by omega) (by omega) ?_
              exact ih248 (f + 1) (u248 + 3) _ _ _ (by omega) (by omega) (by omega) hJ8 h108
            · skip
              refine zz_iload hX dL_isSo_402 18 rfl ?_
              refine zz_iload hX dL_isSo_404 19 rfl ?_
              refine zz_iload hX dL_isSo_406 22 rfl ?_
              refine zz_sI (x := zs_abs (zs_sw ((zp_wr S q j (f - zv_sk S q)).1) (zp_deg S q j f))) hX zf_M_L_124 (As := [.int ((zp_wr S q j (f - zv_sk S q)).1), .int (zp_deg S q j f)]) (st := [.int ((zp_wr S q j (f - zv_sk S q)).2)]) (Q_way ((zp_wr S q j (f - zv_sk S q)).1) (zp_deg S q j f) (zp_wr_in hJu.1 _ (by omega)) (zp_deg_in (ql_W hJu.1) q j f (by omega)) s8 i8 m8) rfl rfl (by decide) (Nat.le_of_ble_eq_true rfl) (by omega) (by omega) dL_isSo_408 ?_
              refine zz_iadd (z := ((zp_wr S q j (f - zv_sk S q)).2) + (zs_abs (zs_sw ((zp_wr S q j (f - zv_sk S q)).1) (zp_deg S q j f)))) hX dL_isSo_411 rfl ?_
              refine zz_istore (ls' := [(0, .ref 2), (1, .ref 100), (2, .ref 101), (3, .ref 102), (4, .ref 103), (5, .ref 104), (6, .ref 105), (7, .ref 106), (8, .ref 107), (9, .ref 108), (10, .ref 109), (11, .int (nI one)), (12, .int (nI two)), (13, .int (nI 1)), (14, .int (nI q)), (15, .int (nI (zv_pu S q))), (16, .int (nI j)), (17, .int ((zp_wants S q (nI (two % 3)) f) + (zl_q 1 (zp_mouth S q f = nI (two % 3) ∧ ¬ zp_bef S q f = zp_mouth S q f)))), (18, .int (((zp_wr S q j (f - zv_sk S q)).2) + (zs_abs (zs_sw ((zp_wr S q j (f - zv_sk S q)).1) (zp_deg S q j f))))), (19, .int ((zp_wr S q j (f - zv_sk S q)).1)), (20, .int (zp_mouth S q f)), (21, .int (nI f)), (22, .int (zp_deg S q j f)), (23, .int (zp_mouth S q f))]) hX dL_isSo_412 (Nat.le_of_ble_eq_true rfl) rfl ?_
              refine zz_iload hX dL_isSo_414 22 rfl ?_
              refine zz_istore (ls' := [(0, .ref 2), (1, .ref 100), (2, .ref 101), (3, .ref 102), (4, .ref 103), (5, .ref 104), (6, .ref 105), (7, .ref 106), (8, .ref 107), (9, .ref 108), (10, .ref 109), (11, .int (nI one)), (12, .int (nI two)), (13, .int (nI 1)), (14, .int (nI q)), (15, .int (nI (zv_pu S q))), (16, .int (nI j)), (17, .int ((zp_wants S q (nI (two % 3)) f) + (zl_q 1 (zp_mouth S q f = nI (two % 3) ∧ ¬ zp_bef S q f = zp_mouth S q f)))), (18, .int (((zp_wr S q j (f - zv_sk S q)).2) + (zs_abs (zs_sw ((zp_wr S q j (f - zv_sk S q)).1) (zp_deg S q j f))))), (19, .int (zp_deg S q j f)), (20, .int (zp_mouth S q f)), (21, .int (nI f)), (22, .int (zp_deg S q j f)), (23, .int (zp_mouth S q f))]) hX dL_isSo_416 (Nat.le_of_ble_eq_true rfl) rfl ?_
              refine zz_iinc (v := nI (f + 1)) (ls' := [(0, .ref 2), (1, .ref 100), (2, .ref 101), (3, .ref 102), (4, .ref 103), (5, .ref 104), (6, .ref 105), (7, .ref 106), (8, .ref 107), (9, .ref 108), (10, .ref 109), (11, .int (nI one)), (12, .int (nI two)), (13, .int (nI 1)), (14, .int (nI q)), (15, .int (nI (zv_pu S q))), (16, .int (nI j)), (17, .int ((zp_wants S q (nI (two % 3)) f) + (zl_q 1 (zp_mouth S q f = nI (two % 3) ∧ ¬ zp_bef S q f = zp_mouth S q f)))), (18, .int (((zp_wr S q j (f - zv_sk S q)).2) + (zs_abs (zs_sw ((zp_wr S q j (f - zv_sk S q)).1) (zp_deg S q j f))))), (19, .int (zp_deg S q j f)), (20, .int (zp_mouth S q f)), (21, .int (nI (f + 1))), (22, .int (zp_deg S q j f)), (23, .int (zp_mouth S q f))]) hX dL_isSo_418 21 rfl (nI_1 _) (Nat.le_of_ble_eq_true rfl) rfl ?_
              refine zz_goto hX 248 dL_isSo_421 (by decide) ?_
              refine zz_pick (ls' := [(0, .ref 2), (1, .ref 100), (2, .ref 101), (3, .ref 102), (4, .ref 103), (5, .ref 104), (6, .ref 105), (7, .ref 106), (8, .ref 107), (9, .ref 108), (10, .ref 109), (11, .int (nI one)), (12, .int (nI two)), (13, .int (nI 1)), (14, .int (nI q)), (15, .int (nI (zv_pu S q))), (16, .int (nI j)), (17, .int ((zp_wants S q (nI (two % 3)) f) + (zl_q 1 (zp_mouth S q f = nI (two % 3) ∧ ¬ zp_bef S q f = zp_mouth S q f)))), (18, .int (((zp_wr S q j (f - zv_sk S q)).2) + (zs_abs (zs_sw ((zp_wr S q j (f - zv_sk S q)).1) (zp_deg S q j f))))), (19, .int (zp_deg S q j f)), (20, .int (zp_mouth S q f)), (21, .int (nI (f + 1)))]) [0, 1, 2, 3, 4, 5, 6, 7, 8, 9, 10, 11, 12, 13, 14, 15, 16, 17, 18, 19, 20, 21] rfl ?_
              refine zz_lcl (ls' := [(0, .ref 2), (1, .ref 100), (2, .ref 101), (3, .ref 102), (4, .ref 103), (5, .ref 104), (6, .ref 105), (7, .ref 106), (8, .ref 107), (9, .ref 108), (10, .ref 109), (11, .int (nI one)), (12, .int (nI two)), (13, .int (nI 1)), (14, .int (nI q)), (15, .int (nI (zv_pu S q))), (16, .int (nI j)), (17, .int (zp_wants S q (nI (two % 3)) (f + 1))), (18, .int ((zp_wr S q j (f + 1 - zv_sk S q)).2)), (19, .int ((zp_wr S q j (f + 1 - zv_sk S q)).1)), (20, .int (zp_bef S q (f + 1))), (21, .int (nI (f + 1)))]) (by rw [zp_wr_c c387 c399, zp_bef_s, zp_wants_s]) ?_
              refine zz_widen (k := 10 * (u248 + 3)) (n := 60 * (u248 + 3)) (by omega) (by omega) ?_
              exact ih248 (f + 1) (u248 + 3) _ _ _ (by omega) (by omega) (by omega) hJ8 h108
        refine zz_iload hX dL_isSo_350 23 rfl ?_
        refine zz_iload hX dL_isSo_352 12 rfl ?_
        refine zz_iconst (v := nI 3) hX dL_isSo_354 rfl ?_
        refine zz_irem (z := nI (two % 3)) hX dL_isSo_355 (by decide) (pk_rem (by omega) (by decide) (by decide)) ?_
        refine zz_icmp_ne hX 370 dL_isSo_356 (by decide) (fun c356 => ?_) (fun c356 => ?_)
        · skip
          refine zz_iconst (v := nI 0) hX dL_isSo_370 rfl ?_
          exact zz_top (zl_q_F (fun h => c356 h.1)) K371
        · skip
          refine zz_iload hX dL_isSo_359 20 rfl ?_
          refine zz_iload hX dL_isSo_361 23 rfl ?_
          refine zz_icmp_eq hX 370 dL_isSo_363 (by decide) (fun c363 => ?_) (fun c363 => ?_)
          · skip
            refine zz_iconst (v := nI 0) hX dL_isSo_370 rfl ?_
            exact zz_top (zl_q_F (fun h => h.2 c363)) K371
          · skip
            refine zz_iconst (v := nI 1) hX dL_isSo_366 rfl ?_
            refine zz_goto hX 371 dL_isSo_367 (by decide) ?_
            exact zz_top (zl_q_T ⟨c356, c363⟩) K371
  exact L248 (zv_fr S q - 0 + 1) 0 (uu + 0) _ _ _ (by omega) (Nat.zero_le _) (by omega) hJu h10u
set_option maxHeartbeats 1000000 in
set_option maxRecDepth 20000 in
theorem so_B3 {Γ : zz_C} {D : zz_D} {E : zz_E} {ad : Nat → Nat} {n : Nat} {S : zS} {sh0 su : zm_Sh} {iu : zm_Mi} {mu : zm_Mr} (hJu : ql_J n S su iu mu) (h10u : su 10 = some (9, 0)) {one two : Nat} (ho : one < 60000) (ht : two < 60000) {Qr : Option Value → zm_Sh → zm_Mi → zm_Mr → Prop} (q : Nat) (hq9 : q < zv_ns S) {uu : Nat} (hu : uu ≤ 39 + 71 * q) (hq : ∀ (u : Nat) (s : zm_Sh) (i : zm_Mi) (m : zm_Mr), u ≤ uu + 48 → ql_J n S s i m → s 10 = some (9, 0) → zz Γ (D, E, 25, ad, sh0) (zz_End Γ (D, E, 25, ad, sh0) Qr zz_none 2500 15000) (10 * u) (60 * u) s i m 904 [(0, .ref 2), (1, .ref 100), (2, .ref 101), (3, .ref 102), (4, .ref 103), (5, .ref 104), (6, .ref 105), (7, .ref 106), (8, .ref 107), (9, .ref 108), (10, .ref 109), (11, .int (nI one)), (12, .int (nI two)), (13, .int (nI 1)), (14, .int (nI q))] []) (hX : zz_X Γ (D, E, 25, ad, sh0) RL cL_isSo 12 2500 15000) (hr : (zz_h Γ).sig.returnType = (some Jvm.ClassFile.FieldType.boolean)) : zz Γ (D, E, 25, ad, sh0) (zz_End Γ (D, E, 25, ad, sh0) Qr zz_none 2500 15000) (10 * uu) (60 * uu) su iu mu 505 [(0, .ref 2), (1, .ref 100), (2, .ref 101), (3, .ref 102), (4, .ref 103), (5, .ref 104), (6, .ref 105), (7, .ref 106), (8, .ref 107), (9, .ref 108), (10, .ref 109), (11, .int (nI one)), (12, .int (nI two)), (13, .int (nI 1)), (14, .int (nI q)), (15, .int (nI (zv_pu S q)))] [] := by
  obtain ⟨n1, n2, n3, n4⟩ := ql_num hJu.1
  have hsm := ql_small hJu.1
  obtain ⟨q1, q2, q3, q4, q5, q6, q7, q8, q9, q10, q11, q12⟩ := ql_shot hJu.1 hq9
  have hw9 := ql_hw_lt hJu.1 hq9
  have hpu9 := ql_hw_pu hJu.1 hq9
  have z_q : zn (nI q) = q := nI_clamp (n := q) (by omega)
  have z_t : zn (nI (two % 3)) = two % 3 := nI_clamp (n := two % 3) (by omega)
  refine zz_iconst (v := nI 0) hX dL_isSo_505 rfl ?_
  refine zz_istore (ls' := [(0, .ref 2), (1, .ref 100), (2, .ref 101), (3, .ref 102), (4, .ref 103), (5, .ref 104), (6, .ref 105), (7, .ref 106), (8, .ref 107), (9, .ref 108), (10, .ref 109), (11, .int (nI one)), (12, .int (nI two)), (13, .int (nI 1)), (14, .int (nI q)), (15, .int (nI (zv_pu S q))), (21, .int (nI 0))]) hX dL_isSo_506 (Nat.le_of_ble_eq_true rfl) rfl ?_
  refine zz_widen (k := 10 * (uu + 0)) (n := 60 * (uu + 0)) (by omega) (by omega) ?_
  have L508 : ∀ (k508 f u508 : Nat) (s508 : zm_Sh) (i508 : zm_Mi) (m508 : zm_Mr), zv_sk S q - f < k508 → f ≤ zv_sk S q → u508 ≤ uu + 0 + 8 * f → ql_J n S s508 i508 m508 → s508 10 = some (9, 0) → zz Γ (D, E, 25, ad, sh0) (zz_End Γ (D, E, 25, ad, sh0) Qr zz_none 2500 15000) (10 * u508) (60 * u508) s508 i508 m508 508 [(0, .ref 2), (1, .ref 100), (2, .ref 101), (3, .ref 102), (4, .ref 103), (5, .ref 104), (6, .ref 105), (7, .ref 106), (8, .ref 107), (9, .ref 108), (10, .ref 109), (11, .int (nI one)), (12, .int (nI two)), (13, .int (nI 1)), (14, .int (nI q)), (15, .int (nI (zv_pu S q))), (21, .int (nI f))] [] := by
    intro k508
    induction k508 with
    | zero => intro f u508 s508 i508 m508 hk508; exact absurd hk508 (Nat.not_lt_zero _)
    | succ k508 ih508 =>
      intro f u508 s508 i508 m508 hk508 hv508 hu508 hJ508 h10508
      refine zz_iload hX dL_isSo_508 16 rfl ?_
      refine zz_aload hX dL_isSo_510 5 rfl ?_
      refine zz_iload hX dL_isSo_512 14 rfl ?_
      refine zz_sI (x := nI (zv_sk S q)) hX zf_M_L_101 (As := [.ref 104, .int (nI q)]) (st := [.int (nI f)]) (Q_struck n S s508 i508 m508 hJ508.1 q (by omega)) rfl rfl (by decide) (Nat.le_of_ble_eq_true rfl) (by omega) (by omega) dL_isSo_514 ?_
      refine zz_icmp_geN hX (by omega) (by omega) 904 dL_isSo_517 (by decide) (fun c517 => ?_) (fun c517 => ?_)
      · skip
        refine zz_pick (ls' := [(0, .ref 2), (1, .ref 100), (2, .ref 101), (3, .ref 102), (4, .ref 103), (5, .ref 104), (6, .ref 105), (7, .ref 106), (8, .ref 107), (9, .ref 108), (10, .ref 109), (11, .int (nI one)), (12, .int (nI two)), (13, .int (nI 1)), (14, .int (nI q))]) [0, 1, 2, 3, 4, 5, 6, 7, 8, 9, 10, 11, 12, 13, 14] rfl ?_
        refine zz_widen (k := 10 * (u508 + 0)) (n := 60 * (u508 + 0)) (by omega) (by omega) ?_
        exact hq _ _ _ _ (by omega) hJ508 h10508
      · skip
        have z_f : zn (nI f) = f := nI_clamp (n := f) (by omega)
        have hE := (ql_BB hJu.1).2.2.2.2.2.2 q f (by omega) (by omega)
        refine zz_iload hX dL_isSo_520 13 rfl ?_
        refine zz_if_eq hX 904 dL_isSo_522 (by decide) (fun c => absurd c (by decide)) (fun _ => ?_)
        refine zz_aload hX dL_isSo_525 9 rfl ?_
        refine zz_bipush (v := nI 6) hX dL_isSo_527 rfl ?_
        refine zz_iload hX dL_isSo_529 14 rfl ?_
        refine zz_imul (z := nI (6 * q)) hX dL_isSo_531 (pk_mul _ _) ?_
        refine zz_iload hX dL_isSo_532 16 rfl ?_
        refine zz_iadd (z := nI (6 * q + f)) hX dL_isSo_534 (nI_add _ _) ?_
        refine zz_iald (x := ql_ew (S 23 (48 * q + f)) (S 25 (48 * q + f)) (S 26 (48 * q + f))) hX (ql_s108 hJ508.1) (6 * q + f) rfl (by omega) (by decide) (((ql_Ne hJ508.1).1 q f (by omega) (by omega)).1) dL_isSo_535 ?_
        refine zz_istore (ls' := [(0, .ref 2), (1, .ref 100), (2, .ref 101), (3, .ref 102), (4, .ref 103), (5, .ref 104), (6, .ref 105), (7, .ref 106), (8, .ref 107), (9, .ref 108), (10, .ref 109), (11, .int (nI one)), (12, .int (nI two)), (13, .int (nI 1)), (14, .int (nI q)), (15, .int (nI (zv_pu S q))), (21, .int (nI f)), (22, .int (ql_ew (S 23 (48 * q + f)) (S 25 (48 * q + f)) (S 26 (48 * q + f))))]) hX dL_isSo_536 (Nat.le_of_ble_eq_true rfl) rfl ?_
        refine zz_iconst (v := nI 0) hX dL_isSo_538 rfl ?_
        refine zz_istore (ls' := [(0, .ref 2), (1, .ref 100), (2, .ref 101), (3, .ref 102), (4, .ref 103), (5, .ref 104), (6, .ref 105), (7, .ref 106), (8, .ref 107), (9, .ref 108), (10, .ref 109), (11, .int (nI one)), (12, .int (nI two)), (13, .int (nI 1)), (14, .int (nI q)), (15, .int (nI (zv_pu S q))), (21, .int (nI f)), (22, .int (ql_ew (S 23 (48 * q + f)) (S 25 (48 * q + f)) (S 26 (48 * q + f)))), (23, .int (nI 0))]) hX dL_isSo_539 (Nat.le_of_ble_eq_true rfl) rfl ?_
        refine zz_iconst (v := nI 0) hX dL_isSo_541 rfl ?_
        refine zz_istore (ls' := [(0, .ref 2), (1, .ref 100), (2, .ref 101), (3, .ref 102), (4, .ref 103), (5, .ref 104), (6, .ref 105), (7, .ref 106), (8, .ref 107), (9, .ref 108), (10, .ref 109), (11, .int (nI one)), (12, .int (nI two)), (13, .int (nI 1)), (14, .int (nI q)), (15, .int (nI (zv_pu S q))), (21, .int (nI f)), (22, .int (ql_ew (S 23 (48 * q + f)) (S 25 (48 * q + f)) (S 26 (48 * q + f)))), (23, .int (nI 0)), (24, .int (nI 0))]) hX dL_isSo_542 (Nat.le_of_ble_eq_true rfl) rfl ?_
        refine zz_lcl (ls' := [(0, .ref 2), (1, .ref 100), (2, .ref 101), (3, .ref 102), (4, .ref 103), (5, .ref 104), (6, .ref 105), (7, .ref 106), (8, .ref 107), (9, .ref 108), (10, .ref 109), (11, .int (nI one)), (12, .int (nI two)), (13, .int (nI 1)), (14, .int (nI q)), (15, .int (nI (zv_pu S q))), (21, .int (nI f)), (22, .int (ql_ew (S 23 (48 * q + f)) (S 25 (48 * q + f)) (S 26 (48 * q + f)))), (23, .int (ql_fa S q f 0)), (24, .int (nI 0))]) (rfl) ?_
        refine zz_widen (k := 10 * (u508 + 0)) (n := 60 * (u508 + 0)) (by omega) (by omega) ?_
        have L544 : ∀ (k544 b u544 : Nat) (s544 : zm_Sh) (i544 : zm_Mi) (m544 : zm_Mr), zv_jn S (zv_pu S q) - b < k544 → b ≤ zv_jn S (zv_pu S q) → u544 ≤ u508 + 0 + 1 * b → ql_J n S s544 i544 m544 → s544 10 = some (9, 0) → zz Γ (D, E, 25, ad, sh0) (zz_End Γ (D, E, 25, ad, sh0) Qr zz_none 2500 15000) (10 * u544) (60 * u544) s544 i544 m544 544 [(0, .ref 2), (1, .ref 100), (2, .ref 101), (3, .ref 102), (4, .ref 103), (5, .ref 104), (6, .ref 105), (7, .ref 106), (8, .ref 107), (9, .ref 108), (10, .ref 109), (11, .int (nI one)), (12, .int (nI two)), (13, .int (nI 1)), (14, .int (nI q)), (15, .int (nI (zv_pu S q))), (21, .int (nI f)), (22, .int (ql_ew (S 23 (48 * q + f)) (S 25 (48 * q + f)) (S 26 (48 * q + f)))), (23, .int (ql_fa S q f b)), (24, .int (nI b))] [] := by
          intro k544
          induction k544 with
          | zero => intro b u544 s544 i544 m544 hk544; exact absurd hk544 (Nat.not_lt_zero _)
          | succ k544 ih544 =>
            intro b u544 s544 i544 m544 hk544 hv544 hu544 hJ544 h10544
            refine zz_iload hX dL_isSo_544 19 rfl ?_
            refine zz_aload_n hX dL_isSo_546 1 rfl rfl ?_
            refine zz_iload hX dL_isSo_547 15 rfl ?_
            refine zz_iald (x := nI (zv_jn S (zv_pu S q))) hX (ql_s100 hJ544.1) (zv_pu S q) rfl (by omega) (by decide) ((ql_g100 hJ544.1 (by omega))) dL_isSo_549 ?_
            refine zz_icmp_geN hX (by omega) (by omega) 642 dL_isSo_550 (by decide) (fun c550 => ?_) (fun c550 => ?_)
            · skip
              obtain rfl : b = zv_jn S (zv_pu S q) := by omega
              refine zz_iload hX dL_isSo_642 18 rfl ?_
              have K670 : zz Γ (D, E, 25, ad, sh0) (zz_End Γ (D, E, 25, ad, sh0) Qr zz_none 2500 15000) (10 * u544) (60 * u544) s544 i544 m544 670 [(0, .ref 2), (1, .ref 100), (2, .ref 101), (3, .ref 102), (4, .ref 103), (5, .ref 104), (6, .ref 105), (7, .ref 106), (8, .ref 107), (9, .ref 108), (10, .ref 109), (11, .int (nI one)), (12, .int (nI two)), (13, .int (nI 1)), (14, .int (nI q)), (15, .int (nI (zv_pu S q))), (21, .int (nI f)), (22, .int (ql_ew (S 23 (48 * q + f)) (S 25 (48 * q + f)) (S 26 (48 * q + f)))), (23, .int (ql_fa S q f (zv_jn S (zv_pu S q)))), (24, .int (nI (zv_jn S (zv_pu S q))))] [.int (zl_q 2 (¬ S 23 (48 * q + f) = zp_mouth S q f)), .int (ql_fa S q f (zv_jn S (zv_pu S q)))] := by
                have K692 : zz Γ (D, E, 25, ad, sh0) (zz_End Γ (D, E, 25, ad, sh0) Qr zz_none 2500 15000) (10 * u544) (60 * u544) s544 i544 m544 692 [(0, .ref 2), (1, .ref 100), (2, .ref 101), (3, .ref 102), (4, .ref 103), (5, .ref 104), (6, .ref 105), (7, .ref 106), (8, .ref 107), (9, .ref 108), (10, .ref 109), (11, .int (nI one)), (12, .int (nI two)), (13, .int (nI 1)), (14, .int (nI q)), (15, .int (nI (zv_pu S q))), (21, .int (nI f)), (22, .int (ql_ew (S 23 (48 * q + f)) (S 25 (48 * q + f)) (S 26 (48 * q + f)))), (23, .int (ql_fa S q f (zv_jn S (zv_pu S q)))), (24, .int (nI (zv_jn S (zv_pu S q))))] [.int (zl_q 4 (¬ S 27 (48 * q + f) = 0)), .int (zl_q 2 (¬ S 23 (48 * q + f) = zp_mouth S q f)), .int (ql_fa S q f (zv_jn S (zv_pu S q)))] := by
                  refine zz_iadd (z := (zl_q 2 (¬ S 23 (48 * q + f) = zp_mouth S q f)) + (zl_q 4 (¬ S 27 (48 * q + f) = 0))) hX dL_isSo_692 rfl ?_
                  have K724 : zz Γ (D, E, 25, ad, sh0) (zz_End Γ (D, E, 25, ad, sh0) Qr zz_none 2500 15000) (10 * u544) (60 * u544) s544 i544 m544 724 [(0, .ref 2), (1, .ref 100), (2, .ref 101), (3, .ref 102), (4, .ref 103), (5, .ref 104), (6, .ref 105), (7, .ref 106), (8, .ref 107), (9, .ref 108), (10, .ref 109), (11, .int (nI one)), (12, .int (nI two)), (13, .int (nI 1)), (14, .int (nI q)), (15, .int (nI (zv_pu S q))), (21, .int (nI f)), (22, .int (ql_ew (S 23 (48 * q + f)) (S 25 (48 * q + f)) (S 26 (48 * q + f)))), (23, .int (ql_fa S q f (zv_jn S (zv_pu S q)))), (24, .int (nI (zv_jn S (zv_pu S q))))] [.int (zl_q 16 (¬ S 25 (48 * q + f) = zp_place S q f)), .int ((zl_q 2 (¬ S 23 (48 * q + f) = zp_mouth S q f)) + (zl_q 4 (¬ S 27 (48 * q + f) = 0))), .int (ql_fa S q f (zv_jn S (zv_pu S q)))] := by
                    refine zz_iadd (z := ((zl_q 2 (¬ S 23 (48 * q + f) = zp_mouth S q f)) + (zl_q 4 (¬ S 27 (48 * q + f) = 0))) + (zl_q 16 (¬ S 25 (48 * q + f) = zp_place S q f))) hX dL_isSo_724 rfl ?_
                    refine zz_iadd (z := (ql_fa S q f (zv_jn S (zv_pu S q))) + (((zl_q 2 (¬ S 23 (48 * q + f) = zp_mouth S q f)) + (zl_q 4 (¬ S 27 (48 * q + f) = 0))) + (zl_q 16 (¬ S 25 (48 * q + f) = zp_place S q f)))) hX dL_isSo_725 rfl ?_
                    refine zz_istore (ls' := [(0, .ref 2), (1, .ref 100), (2, .ref 101), (3, .ref 102), (4, .ref 103), (5, .ref 104), (6, .ref 105), (7, .ref 106), (8, .ref 107), (9, .ref 108), (10, .ref 109), (11, .int (nI one)), (12, .int (nI two)), (13, .int (nI 1)), (14, .int (nI q)), (15, .int (nI (zv_pu S q))), (21, .int (nI f)), (22, .int (ql_ew (S 23 (48 * q + f)) (S 25 (48 * q + f)) (S 26 (48 * q + f)))), (23, .int ((ql_fa S q f (zv_jn S (zv_pu S q))) + (((zl_q 2 (¬ S 23 (48 * q + f) = zp_mouth S q f)) + (zl_q 4 (¬ S 27 (48 * q + f) = 0))) + (zl_q 16 (¬ S 25 (48 * q + f) = zp_place S q f))))), (24, .int (nI (zv_jn S (zv_pu S q))))]) hX dL_isSo_726 (Nat.le_of_ble_eq_true rfl) rfl ?_
                    have K759 : zz Γ (D, E, 25, ad, sh0) (zz_End Γ (D, E, 25, ad, sh0) Qr zz_none 2500 15000) (10 * u544) (60 * u544) s544 i544 m544 759 [(0, .ref 2), (1, .ref 100), (2, .ref 101), (3, .ref 102), (4, .ref 103), (5, .ref 104), (6, .ref 105), (7, .ref 106), (8, .ref 107), (9, .ref 108), (10, .ref 109), (11, .int (nI one)), (12, .int (nI two)), (13, .int (nI 1)), (14, .int (nI q)), (15, .int (nI (zv_pu S q))), (21, .int (nI f)), (22, .int (ql_ew (S 23 (48 * q + f)) (S 25 (48 * q + f)) (S 26 (48 * q + f)))), (23, .int ((ql_fa S q f (zv_jn S (zv_pu S q))) + (((zl_q 2 (¬ S 23 (48 * q + f) = zp_mouth S q f)) + (zl_q 4 (¬ S 27 (48 * q + f) = 0))) + (zl_q 16 (¬ S 25 (48 * q + f) = zp_place S q f))))), (24, .int (nI (zv_jn S (zv_pu S q))))] [.int (ql_ap S q f)] := by
                      refine zz_istore (ls' := [(0, .ref 2), (1, .ref 100), (2, .ref 101), (3, .ref 102), (4, .ref 103), (5, .ref 104), (6, .ref 105), (7, .ref 106), (8, .ref 107), (9, .ref 108), (10, .ref 109), (11, .int (nI one)), (12, .int (nI two)), (13, .int (nI 1)), (14, .int (nI q)), (15, .int (nI (zv_pu S q))), (21, .int (nI f)), (22, .int (ql_ew (S 23 (48 * q + f)) (S 25 (48 * q + f)) (S 26 (48 * q + f)))), (23, .int ((ql_fa S q f (zv_jn S (zv_pu S q))) + (((zl_q 2 (¬ S 23 (48 * q + f) = zp_mouth S q f)) + (zl_q 4 (¬ S 27 (48 * q + f) = 0))) + (zl_q 16 (¬ S 25 (48 * q + f) = zp_place S q f))))), (24, .int (ql_ap S q f))]) hX dL_isSo_759 (Nat.le_of_ble_eq_true rfl) rfl ?_
                      refine zz_iload hX dL_isSo_761 18 rfl ?_
                      have K783 : zz Γ (D, E, 25, ad, sh0) (zz_End Γ (D, E, 25, ad, sh0) Qr zz_none 2500 15000) (10 * u544) (60 * u544) s544 i544 m544 783 [(0, .ref 2), (1, .ref 100), (2, .ref 101), (3, .ref 102), (4, .ref 103), (5, .ref 104), (6, .ref 105), (7, .ref 106), (8, .ref 107), (9, .ref 108), (10, .ref 109), (11, .int (nI one)), (12, .int (nI two)), (13, .int (nI 1)), (14, .int (nI q)), (15, .int (nI (zv_pu S q))), (21, .int (nI f)), (22, .int (ql_ew (S 23 (48 * q + f)) (S 25 (48 * q + f)) (S 26 (48 * q + f)))), (23, .int ((ql_fa S q f (zv_jn S (zv_pu S q))) + (((zl_q 2 (¬ S 23 (48 * q + f) = zp_mouth S q f)) + (zl_q 4 (¬ S 27 (48 * q + f) = 0))) + (zl_q 16 (¬ S 25 (48 * q + f) = zp_place S q f))))), (24, .int (ql_ap S q f))] [.int (zl_q 8 (0 < f ∧ nI 20 < zs_abs (S 26 (48 * q + f) - S 26 (48 * q + (f - 1))))), .int ((ql_fa S q f (zv_jn S (zv_pu S q))) + (((zl_q 2 (¬ S 23 (48 * q + f) = zp_mouth S q f)) + (zl_q 4 (¬ S 27 (48 * q + f) = 0))) + (zl_q 16 (¬ S 25 (48 * q + f) = zp_place S q f))))] := by
                        refine zz_iadd (z := ((ql_fa S q f (zv_jn S (zv_pu S q))) + (((zl_q 2 (¬ S 23 (48 * q + f) = zp_mouth S q f)) + (zl_q 4 (¬ S 27 (48 * q + f) = 0))) + (zl_q 16 (¬ S 25 (48 * q + f) = zp_place S q f)))) + (zl_q 8 (0 < f ∧ nI 20 < zs_abs (S 26 (48 * q + f) - S 26 (48 * q + (f - 1)))))) hX dL_isSo_783 rfl ?_
                        refine zz_top (show ((ql_fa S q f (zv_jn S (zv_pu S q))) + (((zl_q 2 (¬ S 23 (48 * q + f) = zp_mouth S q f)) + (zl_q 4 (¬ S 27 (48 * q + f) = 0))) + (zl_q 16 (¬ S 25 (48 * q + f) = zp_place S q f)))) + (zl_q 8 (0 < f ∧ nI 20 < zs_abs (S 26 (48 * q + f) - S 26 (48 * q + (f - 1))))) = zp_faults S q f from ql_faults) ?_
                        refine zz_istore (ls' := [(0, .ref 2), (1, .ref 100), (2, .ref 101), (3, .ref 102), (4, .ref 103), (5, .ref 104), (6, .ref 105), (7, .ref 106), (8, .ref 107), (9, .ref 108), (10, .ref 109), (11, .int (nI one)), (12, .int (nI two)), (13, .int (nI 1)), (14, .int (nI q)), (15, .int (nI (zv_pu S q))), (21, .int (nI f)), (22, .int (ql_ew (S 23 (48 * q + f)) (S 25 (48 * q + f)) (S 26 (48 * q + f)))), (23, .int (zp_faults S q f)), (24, .int (ql_ap S q f))]) hX dL_isSo_784 (Nat.le_of_ble_eq_true rfl) rfl ?_
                        refine zz_iload hX dL_isSo_786 13 rfl ?_
                        refine zz_if_eq hX 895 dL_isSo_788 (by decide) (fun c => absurd c (by decide)) (fun _ => ?_)
                        refine zz_aload_n hX dL_isSo_791 0 rfl rfl ?_
                        refine zz_iload hX dL_isSo_792 14 rfl ?_
                        refine zz_iload hX dL_isSo_794 16 rfl ?_
                        refine zz_iconst (v := nI 0) hX dL_isSo_796 rfl ?_
                        refine zz_callV hX zf_M_L_76 (As := [.int (nI q), .int (nI f), .int (nI 0)]) (st := []) (P_ofFrame S s544 i544 m544 (ql_W hJ544.1) hJ544.2 (nI q) (nI f) (nI 0)) hJ544.2.1.1 rfl rfl rfl (by decide) (Nat.le_of_ble_eq_true rfl) (by omega) (by omega) dL_isSo_797 ?_ (fun e s i m h _ => (zq_no_el h (by rw [z_q]; exact ⟨zs_ix_nI (by omega) (by omega), zs_ix_nI (by omega) (by omega)⟩) (by decide) trivial).elim)
                        rintro v9 s9 i9 m9 ⟨-, e9, hR9, hS9⟩ -
                        rw [z_q, z_f, if_pos rfl] at e9
                        obtain rfl := e9.symm
                        have hJ9 := ql_J_ask hJ544 hR9 hS9
                        have h109 := ql_10 h10544 hS9
                        clear hR9 hS9
                        refine zz_iload hX dL_isSo_800 17 rfl ?_
                        refine zz_bipush (v := nI 16) hX dL_isSo_802 rfl ?_
                        refine zz_irem (z := S 23 (48 * q + f) + nI 1) hX dL_isSo_804 (by decide) (ql_ew16 hE.1 hE.2.1 hE.2.2) ?_
                        refine zz_iconst (v := nI 1) hX dL_isSo_805 rfl ?_
                        refine zz_isub (z := S 23 (48 * q + f)) hX dL_isSo_806 zs_add_sub ?_
                        refine zz_icmp_ne hX 895 dL_isSo_807 (by decide) (fun c807 => absurd rfl c807) (fun c807 => ?_)
                        refine zz_aload_n hX dL_isSo_810 0 rfl rfl ?_
                        refine zz_iload hX dL_isSo_811 14 rfl ?_
                        refine zz_iload hX dL_isSo_813 16 rfl ?_
                        refine zz_iconst (v := nI 1) hX dL_isSo_815 rfl ?_
                        refine zz_callV hX zf_M_L_76 (As := [.int (nI q), .int (nI f), .int (nI 1)]) (st := []) (P_ofFrame S s9 i9 m9 (ql_W hJ9.1) hJ9.2 (nI q) (nI f) (nI 1)) hJ9.2.1.1 rfl rfl rfl (by decide) (Nat.le_of_ble_eq_true rfl) (by omega) (by omega) dL_isSo_816 ?_ (fun e s i m h _ => (zq_no_el h (by rw [z_q]; exact ⟨zs_ix_nI (by omega) (by omega), zs_ix_nI (by omega) (by omega)⟩) (by decide) trivial).elim)
                        rintro v9 s10 i10 m10 ⟨-, e9, hR9, hS9⟩ -
                        rw [z_q, z_f, if_neg (show ¬ nI 1 = nI 0 by decide), if_pos rfl] at e9
                        obtain rfl := e9.symm
                        have hJ10 := ql_J_ask hJ9 hR9 hS9
                        have h1010 := ql_10 h109 hS9
                        clear hR9 hS9
                        refine zz_iload hX dL_isSo_819 17 rfl ?_
                        refine zz_bipush (v := nI 16) hX dL_isSo_821 rfl ?_
                        refine zz_idiv (z := (ql_ew (S 23 (48 * q + f)) (S 25 (48 * q + f)) (S 26 (48 * q + f))) / (nI 16)) hX dL_isSo_823 (by decide) rfl ?_
                        refine zz_sipush (v := nI 4096) hX dL_isSo_824 rfl ?_
                        refine zz_irem (z := ((ql_ew (S 23 (48 * q + f)) (S 25 (48 * q + f)) (S 26 (48 * q + f))) / (nI 16)) - ((ql_ew (S 23 (48 * q + f)) (S 25 (48 * q + f)) (S 26 (48 * q + f))) / (nI 16)) / (nI 4096) * (nI 4096)) hX dL_isSo_827 (by decide) rfl ?_
                        refine zz_sipush (v := nI 2000) hX dL_isSo_828 rfl ?_
                        refine zz_isub (z := S 25 (48 * q + f)) hX dL_isSo_831 (ql_ewc hE.1 hE.2.1 hE.2.2) ?_
                        refine zz_icmp_ne hX 895 dL_isSo_832 (by decide) (fun c832 => absurd rfl c832) (fun c832 => ?_)
                        refine zz_aload_n hX dL_isSo_835 0 rfl rfl ?_
                        refine zz_iload hX dL_isSo_836 14 rfl ?_
                        refine zz_iload hX dL_isSo_838 16 rfl ?_
                        refine zz_iconst (v := nI 2) hX dL_isSo_840 rfl ?_
                        refine zz_callV hX zf_M_L_76 (As := [.int (nI q), .int (nI f), .int (nI 2)]) (st := []) (P_ofFrame S s10 i10 m10 (ql_W hJ10.1) hJ10.2 (nI q) (nI f) (nI 2)) hJ10.2.1.1 rfl rfl rfl (by decide) (Nat.le_of_ble_eq_true rfl) (by omega) (by omega) dL_isSo_841 ?_ (fun e s i m h _ => (zq_no_el h (by rw [z_q]; exact ⟨zs_ix_nI (by omega) (by omega), zs_ix_nI (by omega) (by omega)⟩) (by decide) trivial).elim)
                        rintro v9 s11 i11 m11 ⟨-, e9, hR9, hS9⟩ -
                        rw [z_q, z_f, if_neg (show ¬ nI 2 = nI 0 by decide), if_neg (show ¬ nI 2 = nI 1 by decide), if_pos rfl] at e9
                        obtain rfl := e9.symm
                        have hJ11 := ql_J_ask hJ10 hR9 hS9
                        have h1011 := ql_10 h1010 hS9
                        clear hR9 hS9
                        refine zz_iload hX dL_isSo_844 17 rfl ?_
                        refine zz_ldc (v := 65536) hX zw_con_L_131 dL_isSo_846 ?_
                        refine zz_idiv (z := S 26 (48 * q + f)) hX dL_isSo_848 (by decide) (ql_ewl hE.1 hE.2.1 hE.2.2) ?_
                        refine zz_icmp_ne hX 895 dL_isSo_849 (by decide) (fun c849 => absurd rfl c849) (fun c849 => ?_)
                        refine zz_aload_n hX dL_isSo_852 0 rfl rfl ?_
                        refine zz_iload hX dL_isSo_853 14 rfl ?_
                        refine zz_iload hX dL_isSo_855 16 rfl ?_
                        refine zz_iconst (v := nI 3) hX dL_isSo_857 rfl ?_
                        refine zz_callV hX zf_M_L_76 (As := [.int (nI q), .int (nI f), .int (nI 3)]) (st := []) (P_ofFrame S s11 i11 m11 (ql_W hJ11.1) hJ11.2 (nI q) (nI f) (nI 3)) hJ11.2.1.1 rfl rfl rfl (by decide) (Nat.le_of_ble_eq_true rfl) (by omega) (by omega) dL_isSo_858 ?_ (fun e s i m h _ => (zq_no_el h (by rw [z_q]; exact ⟨zs_ix_nI (by omega) (by omega), zs_ix_nI (by omega) (by omega)⟩) (by decide) trivial).elim)
                        rintro v9 s12 i12 m12 ⟨-, e9, hR9, hS9⟩ -
                        rw [z_q, z_f, if_neg (show ¬ nI 3 = nI 0 by decide), if_neg (show ¬ nI 3 = nI 1 by decide), if_neg (show ¬ nI 3 = nI 2 by decide)] at e9
                        obtain rfl := e9.symm
                        have hJ12 := ql_J_ask hJ11 hR9 hS9
                        have h1012 := ql_10 h1011 hS9
                        clear hR9 hS9
                        refine zz_aload hX dL_isSo_861 9 rfl ?_
                        refine zz_bipush (v := nI 18) hX dL_isSo_863 rfl ?_
                        refine zz_bipush (v := nI 6) hX dL_isSo_865 rfl ?_
                        refine zz_iload hX dL_isSo_867 14 rfl ?_
                        refine zz_imul (z := nI (6 * q)) hX dL_isSo_869 (pk_mul _ _) ?_
                        refine zz_iadd (z := nI (18 + 6 * q)) hX dL_isSo_870 (nI_add _ _) ?_
                        refine zz_iload hX dL_isSo_871 16 rfl ?_
                        refine zz_iadd (z := nI (18 + 6 * q + f)) hX dL_isSo_873 (nI_add _ _) ?_
                        refine zz_iald (x := S 27 (48 * q + f)) hX (ql_s108 hJ12.1) (18 + 6 * q + f) rfl (by omega) (by decide) (by rw [show 18 + 6 * q + f = 18 + (6 * q + f) by omega]; exact ((ql_Ne hJ12.1).1 q f (by omega) (by omega)).2.1) dL_isSo_874 ?_
                        refine zz_icmp_ne hX 895 dL_isSo_875 (by decide) (fun c875 => absurd rfl c875) (fun c875 => ?_)
                        refine zz_aload_n hX dL_isSo_878 0 rfl rfl ?_
                        refine zz_iload hX dL_isSo_879 14 rfl ?_
                        refine zz_iload hX dL_isSo_881 16 rfl ?_
                        refine zz_callV hX zf_M_L_79 (As := [.int (nI q), .int (nI f)]) (st := []) (P_faults S s12 i12 m12 (ql_W hJ12.1) hJ12.2 (nI q) (nI f)) hJ12.2.1.1 rfl rfl rfl (by decide) (Nat.le_of_ble_eq_true rfl) (by omega) (by omega) dL_isSo_883 ?_ (fun e s i m h _ => (zq_no_el h (by rw [z_q]; exact ⟨zs_ix_nI (by omega) (by omega), zs_ix_nI (by omega) (by omega)⟩) trivial trivial).elim)
                        rintro v9 s13 i13 m13 ⟨-, e9, hR9, hS9⟩ -
                        rw [z_q, z_f] at e9
                        obtain rfl := e9.symm
                        have hJ13 := ql_J_ask hJ12 hR9 hS9
                        have h1013 := ql_10 h1012 hS9
                        clear hR9 hS9
                        refine zz_iload hX dL_isSo_886 18 rfl ?_
                        refine zz_icmp_ne hX 895 dL_isSo_888 (by decide) (fun c888 => absurd rfl c888) (fun c888 => ?_)
                        refine zz_iconst (v := nI 1) hX dL_isSo_891 rfl ?_
                        refine zz_goto hX 896 dL_isSo_892 (by decide) ?_
                        refine zz_istore (ls' := [(0, .ref 2), (1, .ref 100), (2, .ref 101), (3, .ref 102), (4, .ref 103), (5, .ref 104), (6, .ref 105), (7, .ref 106), (8, .ref 107), (9, .ref 108), (10, .ref 109), (11, .int (nI one)), (12, .int (nI two)), (13, .int (nI 1)), (14, .int (nI q)), (15, .int (nI (zv_pu S q))), (21, .int (nI f)), (22, .int (ql_ew (S 23 (48 * q + f)) (S 25 (48 * q + f)) (S 26 (48 * q + f)))), (23, .int (zp_faults S q f)), (24, .int (ql_ap S q f))]) hX dL_isSo_896 (Nat.le_of_ble_eq_true rfl) rfl ?_
                        refine zz_iinc (v := nI (f + 1)) (ls' := [(0, .ref 2), (1, .ref 100), (2, .ref 101), (3, .ref 102), (4, .ref 103), (5, .ref 104), (6, .ref 105), (7, .ref 106), (8, .ref 107), (9, .ref 108), (10, .ref 109), (11, .int (nI one)), (12, .int (nI two)), (13, .int (nI 1)), (14, .int (nI q)), (15, .int (nI (zv_pu S q))), (21, .int (nI (f + 1))), (22, .int (ql_ew (S 23 (48 * q + f)) (S 25 (48 * q + f)) (S 26 (48 * q + f)))), (23, .int (zp_faults S q f)), (24, .int (ql_ap S q f))]) hX dL_isSo_898 16 rfl (nI_1 _) (Nat.le_of_ble_eq_true rfl) rfl ?_
                        refine zz_goto hX 508 dL_isSo_901 (by decide) ?_
                        refine zz_pick (ls' := [(0, .ref 2), (1, .ref 100), (2, .ref 101), (3, .ref 102), (4, .ref 103), (5, .ref 104), (6, .ref 105), (7, .ref 106), (8, .ref 107), (9, .ref 108), (10, .ref 109), (11, .int (nI one)), (12, .int (nI two)), (13, .int (nI 1)), (14, .int (nI q)), (15, .int (nI (zv_pu S q))), (21, .int (nI (f + 1)))]) [0, 1, 2, 3, 4, 5, 6, 7, 8, 9, 10, 11, 12, 13, 14, 15, 16] rfl ?_
                        refine zz_widen (k := 10 * (u544 + 5)) (n := 60 * (u544 + 5)) (by omega) (by omega) ?_
                        exact ih508 (f + 1) (u544 + 5) _ _ _ (by omega) (by omega) (by omega) hJ13 h1013
                      refine zz_iload hX dL_isSo_763 19 rfl ?_
                      refine zz_bipush (v := nI 20) hX dL_isSo_765 rfl ?_
                      refine zz_icmp_gt hX 777 dL_isSo_767 (by decide) (fun c767 => ?_) (fun c767 => ?_)
                      · skip
                        refine zz_bipush (v := nI 8) hX dL_isSo_777 rfl ?_
                        refine zz_goto hX 783 dL_isSo_779 (by decide) ?_
                        exact zz_top (zl_q_T ((ql_ap_iff hJu.1 hq9 (by omega)).mpr (Or.inl c767))) K783
                      · skip
                        refine zz_iload hX dL_isSo_770 19 rfl ?_
                        refine zz_bipush (v := (-20)) hX dL_isSo_772 rfl ?_
                        refine zz_icmp_ge hX 782 dL_isSo_774 (by decide) (fun c774 => ?_) (fun c774 => ?_)
                        · skip
                          refine zz_iconst (v := nI 0) hX dL_isSo_782 rfl ?_
                          exact zz_top (zl_q_F (fun h => ((ql_ap_iff hJu.1 hq9 (by omega)).mp h).elim c767 (fun z => z c774))) K783
                        · skip
                          refine zz_bipush (v := nI 8) hX dL_isSo_777 rfl ?_
                          refine zz_goto hX 783 dL_isSo_779 (by decide) ?_
                          exact zz_top (zl_q_T ((ql_ap_iff hJu.1 hq9 (by omega)).mpr (Or.inr c774))) K783
                    refine zz_iload hX dL_isSo_728 16 rfl ?_
                    refine zz_if_neN hX (by omega) 737 dL_isSo_730 (by decide) (fun c730 => ?_) (fun c730 => ?_)
                    · skip
                      have hEp := (ql_BB hJu.1).2.2.2.2.2.2 q (f - 1) (by omega) (by omega)
                      refine zz_iload hX dL_isSo_737 17 rfl ?_
                      refine zz_ldc (v := 65536) hX zw_con_L_131 dL_isSo_739 ?_
                      refine zz_idiv (z := S 26 (48 * q + f)) hX dL_isSo_741 (by decide) (ql_ewl hE.1 hE.2.1 hE.2.2) ?_
                      refine zz_aload hX dL_isSo_742 9 rfl ?_
                      refine zz_bipush (v := nI 6) hX dL_isSo_744 rfl ?_
                      refine zz_iload hX dL_isSo_746 14 rfl ?_
                      refine zz_imul (z := nI (6 * q)) hX dL_isSo_748 (pk_mul _ _) ?_
                      refine zz_iload hX dL_isSo_749 16 rfl ?_
                      refine zz_iadd (z := nI (6 * q + f)) hX dL_isSo_751 (nI_add _ _) ?_
                      refine zz_iconst (v := nI 1) hX dL_isSo_752 rfl ?_
                      refine zz_isub (z := nI (6 * q + (f - 1))) hX dL_isSo_753 ((pk_sub (by omega)).trans (congrArg nI (by omega))) ?_
                      refine zz_iald (x := ql_ew (S 23 (48 * q + (f - 1))) (S 25 (48 * q + (f - 1))) (S 26 (48 * q + (f - 1)))) hX (ql_s108 hJ544.1) (6 * q + (f - 1)) rfl (by omega) (by decide) (((ql_Ne hJ544.1).1 q (f - 1) (by omega) (by omega)).1) dL_isSo_754 ?_
                      refine zz_ldc (v := 65536) hX zw_con_L_131 dL_isSo_755 ?_
                      refine zz_idiv (z := S 26 (48 * q + (f - 1))) hX dL_isSo_757 (by decide) (ql_ewl hEp.1 hEp.2.1 hEp.2.2) ?_
                      refine zz_isub (z := (S 26 (48 * q + f)) - (S 26 (48 * q + (f - 1)))) hX dL_isSo_758 rfl ?_
                      exact zz_top (ql_ap_n c730) K759
                    · skip
                      refine zz_iconst (v := nI 0) hX dL_isSo_733 rfl ?_
                      refine zz_goto hX 759 dL_isSo_734 (by decide) ?_
                      exact zz_top (ql_ap_0 c730) K759
                  refine zz_iload hX dL_isSo_693 17 rfl ?_
                  refine zz_bipush (v := nI 16) hX dL_isSo_695 rfl ?_
                  refine zz_idiv (z := (ql_ew (S 23 (48 * q + f)) (S 25 (48 * q + f)) (S 26 (48 * q + f))) / (nI 16)) hX dL_isSo_697 (by decide) rfl ?_
                  refine zz_sipush (v := nI 4096) hX dL_isSo_698 rfl ?_
                  refine zz_irem (z := ((ql_ew (S 23 (48 * q + f)) (S 25 (48 * q + f)) (S 26 (48 * q + f))) / (nI 16)) - ((ql_ew (S 23 (48 * q + f)) (S 25 (48 * q + f)) (S 26 (48 * q + f))) / (nI 16)) / (nI 4096) * (nI 4096)) hX dL_isSo_701 (by decide) rfl ?_
                  refine zz_sipush (v := nI 2000) hX dL_isSo_702 rfl ?_
                  refine zz_isub (z := S 25 (48 * q + f)) hX dL_isSo_705 (ql_ewc hE.1 hE.2.1 hE.2.2) ?_
                  refine zz_aload hX dL_isSo_706 7 rfl ?_
                  refine zz_iload hX dL_isSo_708 14 rfl ?_
                  refine zz_iload hX dL_isSo_710 16 rfl ?_
                  refine zz_sI (x := zp_place S q f) hX zf_M_L_127 (As := [.ref 106, .int (nI q), .int (nI f)]) (st := [.int (S 25 (48 * q + f)), .int ((zl_q 2 (¬ S 23 (48 * q + f) = zp_mouth S q f)) + (zl_q 4 (¬ S 27 (48 * q + f) = 0))), .int (ql_fa S q f (zv_jn S (zv_pu S q)))]) (Q_place n S s544 i544 m544 hJ544.1 q (by omega) f (by omega)) rfl rfl (by decide) (Nat.le_of_ble_eq_true rfl) (by omega) (by omega) dL_isSo_712 ?_
                  refine zz_icmp_eq hX 723 dL_isSo_715 (by decide) (fun c715 => ?_) (fun c715 => ?_)
                  · skip
                    refine zz_iconst (v := nI 0) hX dL_isSo_723 rfl ?_
                    exact zz_top (zl_q_F (fun h => h c715)) K724
                  · skip
                    refine zz_bipush (v := nI 16) hX dL_isSo_718 rfl ?_
                    refine zz_goto hX 724 dL_isSo_720 (by decide) ?_
                    exact zz_top (zl_q_T c715) K724
                refine zz_aload hX dL_isSo_670 9 rfl ?_
                refine zz_bipush (v := nI 18) hX dL_isSo_672 rfl ?_
                refine zz_bipush (v := nI 6) hX dL_isSo_674 rfl ?_
                refine zz_iload hX dL_isSo_676 14 rfl ?_
                refine zz_imul (z := nI (6 * q)) hX dL_isSo_678 (pk_mul _ _) ?_
                refine zz_iadd (z := nI (18 + 6 * q)) hX dL_isSo_679 (nI_add _ _) ?_
                refine zz_iload hX dL_isSo_680 16 rfl ?_
                refine zz_iadd (z := nI (18 + 6 * q + f)) hX dL_isSo_682 (nI_add _ _) ?_
                refine zz_iald (x := S 27 (48 * q + f)) hX (ql_s108 hJ544.1) (18 + 6 * q + f) rfl (by omega) (by decide) (by rw [show 18 + 6 * q + f = 18 + (6 * q + f) by omega]; exact ((ql_Ne hJ544.1).1 q f (by omega) (by omega)).2.1) dL_isSo_683 ?_
                refine zz_if_eq hX 691 dL_isSo_684 (by decide) (fun c684 => ?_) (fun c684 => ?_)
                · skip
                  refine zz_iconst (v := nI 0) hX dL_isSo_691 rfl ?_
                  exact zz_top (zl_q_F (fun h => h c684)) K692
                · skip
                  refine zz_iconst (v := nI 4) hX dL_isSo_687 rfl ?_
                  refine zz_goto hX 692 dL_isSo_688 (by decide) ?_
                  exact zz_top (zl_q_T c684) K692
              refine zz_iload hX dL_isSo_644 17 rfl ?_
              refine zz_bipush (v := nI 16) hX dL_isSo_646 rfl ?_
              refine zz_irem (z := S 23 (48 * q + f) + nI 1) hX dL_isSo_648 (by decide) (ql_ew16 hE.1 hE.2.1 hE.2.2) ?_
              refine zz_iconst (v := nI 1) hX dL_isSo_649 rfl ?_
              refine zz_isub (z := S 23 (48 * q + f)) hX dL_isSo_650 zs_add_sub ?_
              refine zz_aload hX dL_isSo_651 5 rfl ?_
              refine zz_aload hX dL_isSo_653 4 rfl ?_
              refine zz_iload hX dL_isSo_655 14 rfl ?_
              refine zz_iload hX dL_isSo_657 16 rfl ?_
              refine zz_sI (x := zp_mouth S q f) hX zf_M_L_108 (As := [.ref 104, .ref 103, .int (nI q), .int (nI f)]) (st := [.int (S 23 (48 * q + f)), .int (ql_fa S q f (zv_jn S (zv_pu S q)))]) (Q_mouth n S s544 i544 m544 hJ544.1 q (by omega) f (by omega)) rfl rfl (by decide) (Nat.le_of_ble_eq_true rfl) (by omega) (by omega) dL_isSo_659 ?_
              refine zz_icmp_eq hX 669 dL_isSo_662 (by decide) (fun c662 => ?_) (fun c662 => ?_)
              · skip
                refine zz_iconst (v := nI 0) hX dL_isSo_669 rfl ?_
                exact zz_top (zl_q_F (fun h => h c662)) K670
              · skip
                refine zz_iconst (v := nI 2) hX dL_isSo_665 rfl ?_
                refine zz_goto hX 670 dL_isSo_666 (by decide) ?_
                exact zz_top (zl_q_T c662) K670
            · skip
              have z_b : zn (nI b) = b := nI_clamp (n := b) (by omega)
              have K592 : zz Γ (D, E, 25, ad, sh0) (zz_End Γ (D, E, 25, ad, sh0) Qr zz_none 2500 15000) (10 * u544) (60 * u544) s544 i544 m544 592 [(0, .ref 2), (1, .ref 100), (2, .ref 101), (3, .ref 102), (4, .ref 103), (5, .ref 104), (6, .ref 105), (7, .ref 106), (8, .ref 107), (9, .ref 108), (10, .ref 109), (11, .int (nI one)), (12, .int (nI two)), (13, .int (nI 1)), (14, .int (nI q)), (15, .int (nI (zv_pu S q))), (21, .int (nI f)), (22, .int (ql_ew (S 23 (48 * q + f)) (S 25 (48 * q + f)) (S 26 (48 * q + f)))), (23, .int (ql_fa S q f b)), (24, .int (nI b))] [.int (ql_fa S q f (b + 1))] := by
                refine zz_istore (ls' := [(0, .ref 2), (1, .ref 100), (2, .ref 101), (3, .ref 102), (4, .ref 103), (5, .ref 104), (6, .ref 105), (7, .ref 106), (8, .ref 107), (9, .ref 108), (10, .ref 109), (11, .int (nI one)), (12, .int (nI two)), (13, .int (nI 1)), (14, .int (nI q)), (15, .int (nI (zv_pu S q))), (21, .int (nI f)), (22, .int (ql_ew (S 23 (48 * q + f)) (S 25 (48 * q + f)) (S 26 (48 * q + f)))), (23, .int (ql_fa S q f (b + 1))), (24, .int (nI b))]) hX dL_isSo_592 (Nat.le_of_ble_eq_true rfl) rfl ?_
                refine zz_iload hX dL_isSo_594 13 rfl ?_
                refine zz_if_eq hX 633 dL_isSo_596 (by decide) (fun c => absurd c (by decide)) (fun _ => ?_)
                refine zz_aload_n hX dL_isSo_599 0 rfl rfl ?_
                refine zz_iload hX dL_isSo_600 14 rfl ?_
                refine zz_iload hX dL_isSo_602 19 rfl ?_
                refine zz_iload hX dL_isSo_604 16 rfl ?_
                refine zz_callV hX zf_M_L_73 (As := [.int (nI q), .int (nI b), .int (nI f)]) (st := []) (P_pose S s544 i544 m544 (ql_W hJ544.1) hJ544.2 (nI q) (nI b) (nI f)) hJ544.2.1.1 rfl rfl rfl (by decide) (Nat.le_of_ble_eq_true rfl) (by omega) (by omega) dL_isSo_606 ?_ (fun e s i m h _ => (zq_no_el h (by rw [z_q]; exact ⟨zs_ix_nI (by omega) (by omega), zs_ix_nI (by omega) (by omega), zs_ix_nI (by omega) (by omega)⟩) trivial trivial).elim)
                rintro v9 s14 i14 m14 ⟨-, e9, hR9, hS9⟩ -
                rw [z_q, z_b, z_f] at e9
                obtain rfl := e9.symm
                have hJ14 := ql_J_ask hJ544 hR9 hS9
                have h1014 := ql_10 h10544 hS9
                clear hR9 hS9
                refine zz_aload hX dL_isSo_609 8 rfl ?_
                refine zz_bipush (v := nI 18) hX dL_isSo_611 rfl ?_
                refine zz_iload hX dL_isSo_613 14 rfl ?_
                refine zz_imul (z := nI (18 * q)) hX dL_isSo_615 (pk_mul _ _) ?_
                refine zz_bipush (v := nI 6) hX dL_isSo_616 rfl ?_
                refine zz_iload hX dL_isSo_618 19 rfl ?_
                refine zz_imul (z := nI (6 * b)) hX dL_isSo_620 (pk_mul _ _) ?_
                refine zz_iadd (z := nI (18 * q + 6 * b)) hX dL_isSo_621 (nI_add _ _) ?_
                refine zz_iload hX dL_isSo_622 16 rfl ?_
                refine zz_iadd (z := nI (18 * q + 6 * b + f)) hX dL_isSo_624 (nI_add _ _) ?_
                refine zz_iald (x := S 22 (48 * (6 * q + b) + f)) hX (ql_s107 hJ14.1) (18 * q + 6 * b + f) rfl (by omega) (by decide) ((ql_No hJ14.1 q b f (by omega) (by omega) (by omega))) dL_isSo_625 ?_
                refine zz_icmp_ne hX 633 dL_isSo_626 (by decide) (fun c626 => absurd rfl c626) (fun c626 => ?_)
                refine zz_iconst (v := nI 1) hX dL_isSo_629 rfl ?_
                refine zz_goto hX 634 dL_isSo_630 (by decide) ?_
                refine zz_istore (ls' := [(0, .ref 2), (1, .ref 100), (2, .ref 101), (3, .ref 102), (4, .ref 103), (5, .ref 104), (6, .ref 105), (7, .ref 106), (8, .ref 107), (9, .ref 108), (10, .ref 109), (11, .int (nI one)), (12, .int (nI two)), (13, .int (nI 1)), (14, .int (nI q)), (15, .int (nI (zv_pu S q))), (21, .int (nI f)), (22, .int (ql_ew (S 23 (48 * q + f)) (S 25 (48 * q + f)) (S 26 (48 * q + f)))), (23, .int (ql_fa S q f (b + 1))), (24, .int (nI b))]) hX dL_isSo_634 (Nat.le_of_ble_eq_true rfl) rfl ?_
                refine zz_iinc (v := nI (b + 1)) (ls' := [(0, .ref 2), (1, .ref 100), (2, .ref 101), (3, .ref 102), (4, .ref 103), (5, .ref 104), (6, .ref 105), (7, .ref 106), (8, .ref 107), (9, .ref 108), (10, .ref 109), (11, .int (nI one)), (12, .int (nI two)), (13, .int (nI 1)), (14, .int (nI q)), (15, .int (nI (zv_pu S q))), (21, .int (nI f)), (22, .int (ql_ew (S 23 (48 * q + f)) (S 25 (48 * q + f)) (S 26 (48 * q + f)))), (23, .int (ql_fa S q f (b + 1))), (24, .int (nI (b + 1)))]) hX dL_isSo_636 19 rfl (nI_1 _) (Nat.le_of_ble_eq_true rfl) rfl ?_
                refine zz_goto hX 544 dL_isSo_639 (by decide) ?_
                refine zz_widen (k := 10 * (u544 + 1)) (n := 60 * (u544 + 1)) (by omega) (by omega) ?_
                exact ih544 (b + 1) (u544 + 1) _ _ _ (by omega) (by omega) (by omega) hJ14 h1014
              refine zz_aload hX dL_isSo_553 8 rfl ?_
              refine zz_bipush (v := nI 18) hX dL_isSo_555 rfl ?_
              refine zz_iload hX dL_isSo_557 14 rfl ?_
              refine zz_imul (z := nI (18 * q)) hX dL_isSo_559 (pk_mul _ _) ?_
              refine zz_bipush (v := nI 6) hX dL_isSo_560 rfl ?_
              refine zz_iload hX dL_isSo_562 19 rfl ?_
              refine zz_imul (z := nI (6 * b)) hX dL_isSo_564 (pk_mul _ _) ?_
              refine zz_iadd (z := nI (18 * q + 6 * b)) hX dL_isSo_565 (nI_add _ _) ?_
              refine zz_iload hX dL_isSo_566 16 rfl ?_
              refine zz_iadd (z := nI (18 * q + 6 * b + f)) hX dL_isSo_568 (nI_add _ _) ?_
              refine zz_iald (x := S 22 (48 * (6 * q + b) + f)) hX (ql_s107 hJ544.1) (18 * q + 6 * b + f) rfl (by omega) (by decide) ((ql_No hJ544.1 q b f (by omega) (by omega) (by omega))) dL_isSo_569 ?_
              refine zz_aload hX dL_isSo_570 5 rfl ?_
              refine zz_aload hX dL_isSo_572 6 rfl ?_
              refine zz_iload hX dL_isSo_574 14 rfl ?_
              refine zz_iload hX dL_isSo_576 19 rfl ?_
              refine zz_iload hX dL_isSo_578 16 rfl ?_
              refine zz_sI (x := zp_deg S q b f) hX zf_M_L_120 (As := [.ref 104, .ref 105, .int (nI q), .int (nI b), .int (nI f)]) (st := [.int (S 22 (48 * (6 * q + b) + f))]) (Q_degree n S s544 i544 m544 hJ544.1 q (by omega) b (by omega) f (by omega)) rfl rfl (by decide) (Nat.le_of_ble_eq_true rfl) (by omega) (by omega) dL_isSo_580 ?_
              refine zz_icmp_eq hX 590 dL_isSo_583 (by decide) (fun c583 => ?_) (fun c583 => ?_)
              · skip
                refine zz_iload hX dL_isSo_590 18 rfl ?_
                exact zz_top (ql_fa_F c583) K592
              · skip
                refine zz_iconst (v := nI 1) hX dL_isSo_586 rfl ?_
                refine zz_goto hX 592 dL_isSo_587 (by decide) ?_
                exact zz_top (ql_fa_T c583) K592
        exact L544 (zv_jn S (zv_pu S q) - 0 + 1) 0 (u508 + 0) _ _ _ (by omega) (Nat.zero_le _) (by omega) hJ508 h10508
  exact L508 (zv_sk S q - 0 + 1) 0 (uu + 0) _ _ _ (by omega) (Nat.zero_le _) (by omega) hJu h10u
set_option maxHeartbeats 1000000 in
set_option maxRecDepth 20000 in
theorem so_B {Γ : zz_C} {D : zz_D} {E : zz_E} {ad : Nat → Nat} {n : Nat} {S : zS} {sh0 su : zm_Sh} {iu : zm_Mi} {mu : zm_Mr} (hJu : ql_J n S su iu mu) (h10u : su 10 = some (9, 0)) {one two : Nat} (ho : one < 60000) (ht : two < 60000) {Qr : Option Value → zm_Sh → zm_Mi → zm_Mr → Prop} {uu : Nat} (hu : uu ≤ 17) (hq : ∀ (u : Nat) (s : zm_Sh) (i : zm_Mi) (m : zm_Mr), u ≤ 230 → ql_J n S s i m → s 10 = some (9, 0) → zz Γ (D, E, 25, ad, sh0) (zz_End Γ (D, E, 25, ad, sh0) Qr zz_none 2500 15000) (10 * u) (60 * u) s i m 944 [(0, .ref 2), (1, .ref 100), (2, .ref 101), (3, .ref 102), (4, .ref 103), (5, .ref 104), (6, .ref 105), (7, .ref 106), (8, .ref 107), (9, .ref 108), (10, .ref 109), (11, .int (nI one)), (12, .int (nI two)), (13, .int (nI 1))] []) (hX : zz_X Γ (D, E, 25, ad, sh0) RL cL_isSo 12 2500 15000) (hr : (zz_h Γ).sig.returnType = (some Jvm.ClassFile.FieldType.boolean)) : zz Γ (D, E, 25, ad, sh0) (zz_End Γ (D, E, 25, ad, sh0) Qr zz_none 2500 15000) (10 * uu) (60 * uu) su iu mu 186 [(0, .ref 2), (1, .ref 100), (2, .ref 101), (3, .ref 102), (4, .ref 103), (5, .ref 104), (6, .ref 105), (7, .ref 106), (8, .ref 107), (9, .ref 108), (10, .ref 109), (11, .int (nI one)), (12, .int (nI two)), (13, .int (nI 1))] [] := by
  obtain ⟨n1, n2, n3, n4⟩ := ql_num hJu.1
  have hsm := ql_small hJu.1
  refine zz_iconst (v := nI 0) hX dL_isSo_186 rfl ?_
  refine zz_istore (ls' := [(0, .ref 2), (1, .ref 100), (2, .ref 101), (3, .ref 102), (4, .ref 103), (5, .ref 104), (6, .ref 105), (7, .ref 106), (8, .ref 107), (9, .ref 108), (10, .ref 109), (11, .int (nI one)), (12, .int (nI two)), (13, .int (nI 1)), (14, .int (nI 0))]) hX dL_isSo_187 (Nat.le_of_ble_eq_true rfl) rfl ?_
  refine zz_widen (k := 10 * (uu + 0)) (n := 60 * (uu + 0)) (by omega) (by omega) ?_
  have L189 : ∀ (k189 q u189 : Nat) (s189 : zm_Sh) (i189 : zm_Mi) (m189 : zm_Mr), zv_ns S - q < k189 → q ≤ zv_ns S → u189 ≤ uu + 0 + 71 * q → ql_J n S s189 i189 m189 → s189 10 = some (9, 0) → zz Γ (D, E, 25, ad, sh0) (zz_End Γ (D, E, 25, ad, sh0) Qr zz_none 2500 15000) (10 * u189) (60 * u189) s189 i189 m189 189 [(0, .ref 2), (1, .ref 100), (2, .ref 101), (3, .ref 102), (4, .ref 103), (5, .ref 104), (6, .ref 105), (7, .ref 106), (8, .ref 107), (9, .ref 108), (10, .ref 109), (11, .int (nI one)), (12, .int (nI two)), (13, .int (nI 1)), (14, .int (nI q))] [] := by
    intro k189
    induction k189 with
    | zero => intro q u189 s189 i189 m189 hk189; exact absurd hk189 (Nat.not_lt_zero _)
    | succ k189 ih189 =>
      intro q u189 s189 i189 m189 hk189 hv189 hu189 hJ189 h10189
      refine zz_iload hX dL_isSo_189 14 rfl ?_
      refine zz_aload hX dL_isSo_191 10 rfl ?_
      refine zz_iconst (v := nI 2) hX dL_isSo_193 rfl ?_
      refine zz_iald (x := nI (zv_ns S)) hX (ql_s109 hJ189.1) 2 rfl (by decide) (by decide) ((ql_g2 hJ189.1)) dL_isSo_194 ?_
      refine zz_icmp_geN hX (by omega) (by omega) 944 dL_isSo_195 (by decide) (fun c195 => ?_) (fun c195 => ?_)
      · skip
        refine zz_pick (ls' := [(0, .ref 2), (1, .ref 100), (2, .ref 101), (3, .ref 102), (4, .ref 103), (5, .ref 104), (6, .ref 105), (7, .ref 106), (8, .ref 107), (9, .ref 108), (10, .ref 109), (11, .int (nI one)), (12, .int (nI two)), (13, .int (nI 1))]) [0, 1, 2, 3, 4, 5, 6, 7, 8, 9, 10, 11, 12, 13] rfl ?_
        refine zz_widen (k := 10 * (u189 + 0)) (n := 60 * (u189 + 0)) (by omega) (by omega) ?_
        exact hq _ _ _ _ (by omega) hJ189 h10189
      · skip
        refine zz_iload hX dL_isSo_198 13 rfl ?_
        refine zz_if_eq hX 944 dL_isSo_200 (by decide) (fun c => absurd c (by decide)) (fun _ => ?_)
        have hq9 : q < zv_ns S := by omega
        obtain ⟨q1, q2, q3, q4, q5, q6, q7, q8, q9, q10, q11, q12⟩ := ql_shot hJ189.1 hq9
        have hw9 := ql_hw_lt hJ189.1 hq9
        have hpu9 := ql_hw_pu hJ189.1 hq9
        have z_q : zn (nI q) = q := nI_clamp (n := q) (by omega)
        have z_t : zn (nI (two % 3)) = two % 3 := nI_clamp (n := two % 3) (by omega)
        refine so_B1 hJ189 h10189 ho ht q hq9 (uu := u189 + 0) (by omega) (fun j hj9 u1 s1 i1 m1 hu1 hJ1 h101 => ?_) hX hr
        have z_j : zn (nI j) = j := nI_clamp (n := j) (by omega)
        have hbl := zp_bar_lt (S := S) (i := q)
        refine zz_iload hX dL_isSo_424 13 rfl ?_
        refine zz_if_eq hX 502 dL_isSo_426 (by decide) (fun c => absurd c (by decide)) (fun _ => ?_)
        refine zz_aload_n hX dL_isSo_429 0 rfl rfl ?_
        refine zz_iload hX dL_isSo_430 14 rfl ?_
        refine zz_iload hX dL_isSo_432 12 rfl ?_
        refine zz_iconst (v := nI 3) hX dL_isSo_434 rfl ?_
        refine zz_irem (z := nI (two % 3)) hX dL_isSo_435 (by decide) (pk_rem (by omega) (by decide) (by decide)) ?_
        refine zz_callV hX zf_M_L_150 (As := [.int (nI q), .int (nI (two % 3))]) (st := []) (P_wants S s1 i1 m1 (ql_W hJ1.1) hJ1.2 (nI q) (nI (two % 3))) hJ1.2.1.1 rfl rfl rfl (by decide) (Nat.le_of_ble_eq_true rfl) (by omega) (by omega) dL_isSo_436 ?_ (fun e s i m h _ => (zq_no_el h (zs_ix_nI (by omega) (by omega)) ((zs_r2 (by omega)).mpr (by omega)) trivial).elim)
        rintro v9 s15 i15 m15 ⟨-, e9, hR9, hS9⟩ -
        rw [z_q] at e9
        obtain rfl := e9.symm
        have hJ15 := ql_J_ask hJ1 hR9 hS9
        have h1015 := ql_10 h101 hS9
        clear hR9 hS9
        refine zz_iload hX dL_isSo_439 17 rfl ?_
        refine zz_icmp_ne hX 502 dL_isSo_441 (by decide) (fun c441 => absurd rfl c441) (fun c441 => ?_)
        refine zz_aload_n hX dL_isSo_444 0 rfl rfl ?_
        refine zz_iload hX dL_isSo_445 14 rfl ?_
        refine zz_iload hX dL_isSo_447 16 rfl ?_
        refine zz_callV hX zf_M_L_153 (As := [.int (nI q), .int (nI j)]) (st := []) (P_wears S s15 i15 m15 (ql_W hJ15.1) hJ15.2 (nI q) (nI j)) hJ15.2.1.1 rfl rfl rfl (by decide) (Nat.le_of_ble_eq_true rfl) (by omega) (by omega) dL_isSo_449 ?_ (fun e s i m h _ => (zq_no_el h (by rw [z_q]; exact ⟨zs_ix_nI (by omega) (by omega), zs_ix_nI (by omega) (by omega)⟩) trivial trivial).elim)
        rintro v9 s16 i16 m16 ⟨-, e9, hR9, hS9⟩ -
        rw [z_q, z_j] at e9
        obtain rfl := e9.symm
        have hJ16 := ql_J_ask hJ15 hR9 hS9
        have h1016 := ql_10 h1015 hS9
        clear hR9 hS9
        refine zz_iload hX dL_isSo_452 18 rfl ?_
        refine zz_icmp_ne hX 502 dL_isSo_454 (by decide) (fun c454 => absurd rfl c454) (fun c454 => ?_)
        refine zz_aload_n hX dL_isSo_457 0 rfl rfl ?_
        refine zz_iload hX dL_isSo_458 14 rfl ?_
        refine zz_callV hX zf_M_L_156 (As := [.int (nI q)]) (st := []) (P_struck S s16 i16 m16 (ql_W hJ16.1) hJ16.2 (nI q)) hJ16.2.1.1 rfl rfl rfl (by decide) (Nat.le_of_ble_eq_true rfl) (by omega) (by omega) dL_isSo_460 ?_ (fun e s i m h _ => (zq_no_el h (zs_ix_nI (by omega) (by omega)) trivial trivial).elim)
        rintro v9 s17 i17 m17 ⟨-, e9, hR9, hS9⟩ -
        rw [z_q] at e9
        obtain rfl := e9.symm
        have hJ17 := ql_J_ask hJ16 hR9 hS9
        have h1017 := ql_10 h1016 hS9
        clear hR9 hS9
        refine zz_aload hX dL_isSo_463 5 rfl ?_
        refine zz_iload hX dL_isSo_465 14 rfl ?_
        refine zz_sI (x := nI (zv_sk S q)) hX zf_M_L_101 (As := [.ref 104, .int (nI q)]) (st := [.int (nI (zv_sk S q))]) (Q_struck n S s17 i17 m17 hJ17.1 q (by omega)) rfl rfl (by decide) (Nat.le_of_ble_eq_true rfl) (by omega) (by omega) dL_isSo_467 ?_
        refine zz_icmp_neN hX (by omega) (by omega) 502 dL_isSo_470 (by decide) (fun c470 => absurd rfl c470) (fun c470 => ?_)
        refine zz_aload_n hX dL_isSo_473 0 rfl rfl ?_
        refine zz_iload hX dL_isSo_474 14 rfl ?_
        refine zz_callV hX zf_M_L_70 (As := [.int (nI q)]) (st := []) (P_bars S s17 i17 m17 (ql_W hJ17.1) hJ17.2 (nI q)) hJ17.2.1.1 rfl rfl rfl (by decide) (Nat.le_of_ble_eq_true rfl) (by omega) (by omega) dL_isSo_476 ?_ (fun e s i m h _ => (zq_no_el h (zs_ix_nI (by omega) (by omega)) trivial trivial).elim)
        rintro v9 s18 i18 m18 ⟨-, e9, hR9, hS9⟩ -
        rw [z_q] at e9
        obtain rfl := e9.symm
        have hJ18 := ql_J_ask hJ17 hR9 hS9
        have h1018 := ql_10 h1017 hS9
        clear hR9 hS9
        refine zz_aload_n hX dL_isSo_479 1 rfl rfl ?_
        refine zz_aload_n hX dL_isSo_480 2 rfl rfl ?_
        refine zz_aload_n hX dL_isSo_481 3 rfl rfl ?_
        refine zz_aload hX dL_isSo_482 4 rfl ?_
        refine zz_aload hX dL_isSo_484 5 rfl ?_
        refine zz_aload hX dL_isSo_486 9 rfl ?_
        refine zz_aload hX dL_isSo_488 10 rfl ?_
        refine zz_iload hX dL_isSo_490 14 rfl ?_
        refine zz_sI (x := nI (zp_bar S q)) hX zf_M_L_158 (As := [.ref 100, .ref 101, .ref 102, .ref 103, .ref 104, .ref 108, .ref 109, .int (nI q)]) (st := [.int (nI (zp_bar S q))]) (Q_bars n S s18 i18 m18 hJ18.1 q (by omega)) rfl rfl (by decide) (Nat.le_of_ble_eq_true rfl) (by omega) (by omega) dL_isSo_492 ?_
        refine zz_icmp_neN hX (by omega) (by omega) 502 dL_isSo_495 (by decide) (fun c495 => absurd rfl c495) (fun c495 => ?_)
        refine zz_iconst (v := nI 1) hX dL_isSo_498 rfl ?_
        refine zz_goto hX 503 dL_isSo_499 (by decide) ?_
        refine zz_istore (ls' := [(0, .ref 2), (1, .ref 100), (2, .ref 101), (3, .ref 102), (4, .ref 103), (5, .ref 104), (6, .ref 105), (7, .ref 106), (8, .ref 107), (9, .ref 108), (10, .ref 109), (11, .int (nI one)), (12, .int (nI two)), (13, .int (nI 1)), (14, .int (nI q)), (15, .int (nI (zv_pu S q))), (16, .int (nI j)), (17, .int (zp_wants S q (nI (two % 3)) (zv_fr S q))), (18, .int ((zp_wr S q j (zv_fr S q - zv_sk S q)).2))]) hX dL_isSo_503 (Nat.le_of_ble_eq_true rfl) rfl ?_
        refine zz_pick (ls' := [(0, .ref 2), (1, .ref 100), (2, .ref 101), (3, .ref 102), (4, .ref 103), (5, .ref 104), (6, .ref 105), (7, .ref 106), (8, .ref 107), (9, .ref 108), (10, .ref 109), (11, .int (nI one)), (12, .int (nI two)), (13, .int (nI 1)), (14, .int (nI q)), (15, .int (nI (zv_pu S q)))]) [0, 1, 2, 3, 4, 5, 6, 7, 8, 9, 10, 11, 12, 13, 14, 15] rfl ?_
        refine zz_widen (k := 10 * (u1 + 4)) (n := 60 * (u1 + 4)) (by omega) (by omega) ?_
        refine so_B3 hJ18 h1018 ho ht q hq9 (uu := u1 + 4) (by omega) (fun u2 s2 i2 m2 hu2 hJ2 h102 => ?_) hX hr
        refine zz_iload hX dL_isSo_904 13 rfl ?_
        refine zz_if_eq hX 935 dL_isSo_906 (by decide) (fun c => absurd c (by decide)) (fun _ => ?_)
        refine zz_aload_n hX dL_isSo_909 0 rfl rfl ?_
        refine zz_bipush (v := nI 21) hX dL_isSo_910 rfl ?_
        refine zz_iload hX dL_isSo_912 14 rfl ?_
        refine zz_aload hX dL_isSo_914 5 rfl ?_
        refine zz_iload hX dL_isSo_916 14 rfl ?_
        refine zz_sI (x := nI (zv_sk S q)) hX zf_M_L_101 (As := [.ref 104, .int (nI q)]) (st := [.int (nI q), .int (nI 21), .ref 2]) (Q_struck n S s2 i2 m2 hJ2.1 q (by omega)) rfl rfl (by decide) (Nat.le_of_ble_eq_true rfl) (by omega) (by omega) dL_isSo_918 ?_
        refine zz_iconst (v := nI 0) hX dL_isSo_921 rfl ?_
        refine zz_iconst (v := nI 0) hX dL_isSo_922 rfl ?_
        refine zz_callSH hX zf_M_L_161 (As := [.ref 2, .int (nI 21), .int (nI q), .int (nI (zv_sk S q)), .int (nI 0), .int (nI 0)]) (st := []) (D_faults S s2 i2 m2 (ql_W hJ2.1) hJ2.2 (nI q) (nI (zv_sk S q)) (nI 0) (nI 0)) rfl rfl (by decide) (Nat.le_of_ble_eq_true rfl) (by omega) (by omega) dL_isSo_923 ?_ (fun _ _ _ _ h _ => h.elim)
        rintro v9 s19 i19 m19 ⟨k9, rfl, hk9, hS9⟩ -
        obtain ⟨e9, hR9⟩ := zq_d2 hk9 (fun h => by rw [z_q] at h; have := zs_ixl h.2 (by omega); omega)
        obtain rfl := e9.symm
        have hJ19 := ql_J_ask hJ2 hR9 hS9
        have h1019 := ql_10 h102 hS9
        clear hR9 hS9
        refine zz_ldc (v := -3000000) hX zw_con_L_84 dL_isSo_926 ?_
        refine zz_icmp_ne hX 935 dL_isSo_928 (by decide) (fun c => absurd c (by decide)) (fun _ => ?_)
        refine zz_iconst (v := nI 1) hX dL_isSo_931 rfl ?_
        refine zz_goto hX 936 dL_isSo_932 (by decide) ?_
        refine zz_istore (ls' := [(0, .ref 2), (1, .ref 100), (2, .ref 101), (3, .ref 102), (4, .ref 103), (5, .ref 104), (6, .ref 105), (7, .ref 106), (8, .ref 107), (9, .ref 108), (10, .ref 109), (11, .int (nI one)), (12, .int (nI two)), (13, .int (nI 1)), (14, .int (nI q))]) hX dL_isSo_936 (Nat.le_of_ble_eq_true rfl) rfl ?_
        refine zz_iinc (v := nI (q + 1)) (ls' := [(0, .ref 2), (1, .ref 100), (2, .ref 101), (3, .ref 102), (4, .ref 103), (5, .ref 104), (6, .ref 105), (7, .ref 106), (8, .ref 107), (9, .ref 108), (10, .ref 109), (11, .int (nI one)), (12, .int (nI two)), (13, .int (nI 1)), (14, .int (nI (q + 1)))]) hX dL_isSo_938 14 rfl (nI_1 _) (Nat.le_of_ble_eq_true rfl) rfl ?_
        refine zz_goto hX 189 dL_isSo_941 (by decide) ?_
        refine zz_widen (k := 10 * (u2 + 1)) (n := 60 * (u2 + 1)) (by omega) (by omega) ?_
        exact ih189 (q + 1) (u2 + 1) _ _ _ (by omega) (by omega) (by omega) hJ19 h1019
  exact L189 (zv_ns S - 0 + 1) 0 (uu + 0) _ _ _ (by omega) (Nat.zero_le _) (by omega) hJu h10u
set_option maxHeartbeats 1000000 in
set_option maxRecDepth 20000 in
theorem so_C {Γ : zz_C} {D : zz_D} {E : zz_E} {ad : Nat → Nat} {n : Nat} {S : zS} {sh0 su : zm_Sh} {iu : zm_Mi} {mu : zm_Mr} (hJu : ql_J n S su iu mu) (h10u : su 10 = some (9, 0)) {one two : Nat} (ho : one < 60000) (ht : two < 60000) {Qr : Option Value → zm_Sh → zm_Mi → zm_Mr → Prop} {uu : Nat} (hu : uu ≤ 230) (hq : ∀ (s : zm_Sh) (i : zm_Mi) (m : zm_Mr), ql_J n S s i m → s 10 = some (9, 0) → Qr (some (.int (nI 1))) s i m) (hX : zz_X Γ (D, E, 25, ad, sh0) RL cL_isSo 12 2500 15000) (hr : (zz_h Γ).sig.returnType = (some Jvm.ClassFile.FieldType.boolean)) : zz Γ (D, E, 25, ad, sh0) (zz_End Γ (D, E, 25, ad, sh0) Qr zz_none 2500 15000) (10 * uu) (60 * uu) su iu mu 944 [(0, .ref 2), (1, .ref 100), (2, .ref 101), (3, .ref 102), (4, .ref 103), (5, .ref 104), (6, .ref 105), (7, .ref 106), (8, .ref 107), (9, .ref 108), (10, .ref 109), (11, .int (nI one)), (12, .int (nI two)), (13, .int (nI 1))] [] := by
  obtain ⟨n1, n2, n3, n4⟩ := ql_num hJu.1
  have hsm := ql_small hJu.1
  refine zz_iconst (v := nI 0) hX dL_isSo_944 rfl ?_
  refine zz_istore (ls' := [(0, .ref 2), (1, .ref 100), (2, .ref 101), (3, .ref 102), (4, .ref 103), (5, .ref 104), (6, .ref 105), (7, .ref 106), (8, .ref 107), (9, .ref 108), (10, .ref 109), (11, .int (nI one)), (12, .int (nI two)), (13, .int (nI 1)), (14, .int (nI 0))]) hX dL_isSo_945 (Nat.le_of_ble_eq_true rfl) rfl ?_
  refine zz_aload hX dL_isSo_947 10 rfl ?_
  refine zz_bipush (v := nI 6) hX dL_isSo_949 rfl ?_
  refine zz_iald (x := nI (ql_dw S (zv_nf S) 0)) hX (ql_s109 hJu.1) 6 rfl (by decide) (by decide) ((ql_g6 hJu.1)) dL_isSo_951 ?_
  refine zz_istore (ls' := [(0, .ref 2), (1, .ref 100), (2, .ref 101), (3, .ref 102), (4, .ref 103), (5, .ref 104), (6, .ref 105), (7, .ref 106), (8, .ref 107), (9, .ref 108), (10, .ref 109), (11, .int (nI one)), (12, .int (nI two)), (13, .int (nI 1)), (14, .int (nI 0)), (15, .int (nI (ql_dw S (zv_nf S) 0)))]) hX dL_isSo_952 (Nat.le_of_ble_eq_true rfl) rfl ?_
  refine zz_lcl (ls' := [(0, .ref 2), (1, .ref 100), (2, .ref 101), (3, .ref 102), (4, .ref 103), (5, .ref 104), (6, .ref 105), (7, .ref 106), (8, .ref 107), (9, .ref 108), (10, .ref 109), (11, .int (nI one)), (12, .int (nI two)), (13, .int (nI 1)), (14, .int (nI (ql_fs S 0))), (15, .int (nI (ql_dw S (zv_nf S - 0) 0)))]) (rfl) ?_
  refine zz_widen (k := 10 * (uu + 0)) (n := 60 * (uu + 0)) (by omega) (by omega) ?_
  have L954 : ∀ (k954 k u954 : Nat) (s954 : zm_Sh) (i954 : zm_Mi) (m954 : zm_Mr), zv_nf S - k < k954 → k ≤ zv_nf S → u954 ≤ uu + 0 + 2 * k → ql_J n S s954 i954 m954 → s954 10 = some (9, 0) → zz Γ (D, E, 25, ad, sh0) (zz_End Γ (D, E, 25, ad, sh0) Qr zz_none 2500 15000) (10 * u954) (60 * u954) s954 i954 m954 954 [(0, .ref 2), (1, .ref 100), (2, .ref 101), (3, .ref 102), (4, .ref 103), (5, .ref 104), (6, .ref 105), (7, .ref 106), (8, .ref 107), (9, .ref 108), (10, .ref 109), (11, .int (nI one)), (12, .int (nI two)), (13, .int (nI 1)), (14, .int (nI (ql_fs S k))), (15, .int (nI (ql_dw S (zv_nf S - k) k)))] [] := by
    intro k954
    induction k954 with
    | zero => intro k u954 s954 i954 m954 hk954; exact absurd hk954 (Nat.not_lt_zero _)
    | succ k954 ih954 =>
      intro k u954 s954 i954 m954 hk954 hv954 hu954 hJ954 h10954
      have hb9 := ql_dwb hJ954.1 k hv954
      have hz9 := ql_dw0 (S := S) hv954
      have hf6 := ql_fs_le hJ954.1 k hv954
      refine zz_iload hX dL_isSo_954 15 rfl ?_
      refine zz_if_leN hX (by omega) 1050 dL_isSo_956 (by decide) (fun c956 => ?_) (fun c956 => ?_)
      · skip
        obtain rfl : k = zv_nf S := by omega
        refine zz_iload hX dL_isSo_1050 13 rfl ?_
        refine zz_if_eq hX 1069 dL_isSo_1052 (by decide) (fun c => absurd c (by decide)) (fun _ => ?_)
        refine zz_aload_n hX dL_isSo_1055 0 rfl rfl ?_
        refine zz_iload hX dL_isSo_1056 14 rfl ?_
        refine zz_callV hX zf_M_L_165 (As := [.int (nI (ql_fs S (zv_nf S)))]) (st := []) (P_film S s954 i954 m954 (ql_W hJ954.1) hJ954.2 (nI (ql_fs S (zv_nf S)))) hJ954.2.1.1 rfl rfl rfl (by decide) (Nat.le_of_ble_eq_true rfl) (by omega) (by omega) dL_isSo_1058 ?_ (fun e s i m h _ => (zq_no_el h (zs_nn (by omega)) trivial trivial).elim)
        rintro v9 s20 i20 m20 ⟨-, e9, hR9, hS9⟩ -
        rw [ql_at_end hJ954.1] at e9
        obtain rfl := e9.symm
        have hJ20 := ql_J_ask hJ954 hR9 hS9
        have h1020 := ql_10 h10954 hS9
        clear hR9 hS9
        refine zz_iconst (v := (-1)) hX dL_isSo_1061 rfl ?_
        refine zz_icmp_ne hX 1069 dL_isSo_1062 (by decide) (fun c => absurd c (by decide)) (fun _ => ?_)
        refine zz_iconst (v := nI 1) hX dL_isSo_1065 rfl ?_
        refine zz_goto hX 1070 dL_isSo_1066 (by decide) ?_
        refine zz_iret hX hr rfl (by omega) (by omega) dL_isSo_1070 ?_
        exact hq _ _ _ hJ20 h1020
      · skip
        have hk8 : k < zv_nf S := by omega
        have hs9 := ql_dw_s hk8
        have hf9 := ql_film hJ954.1 hk8
        have hfl := ql_shot hJ954.1 hf9.1
        obtain ⟨r1, r2, r3, r4, r5, r6, r7, -⟩ := hfl
        refine zz_iload hX dL_isSo_959 13 rfl ?_
        refine zz_if_eq hX 1050 dL_isSo_961 (by decide) (fun c => absurd c (by decide)) (fun _ => ?_)
        refine zz_iload hX dL_isSo_964 15 rfl ?_
        refine zz_bipush (v := nI 10) hX dL_isSo_966 rfl ?_
        refine zz_irem (z := nI (zv_fl S k + 1)) hX dL_isSo_968 (by decide) ((pk_rem (by omega) (by decide) (by decide)).trans (congrArg nI (by omega))) ?_
        refine zz_iconst (v := nI 1) hX dL_isSo_969 rfl ?_
        refine zz_isub (z := nI (zv_fl S k)) hX dL_isSo_970 ((pk_sub (by omega)).trans (congrArg nI (by omega))) ?_
        refine zz_istore (ls' := [(0, .ref 2), (1, .ref 100), (2, .ref 101), (3, .ref 102), (4, .ref 103), (5, .ref 104), (6, .ref 105), (7, .ref 106), (8, .ref 107), (9, .ref 108), (10, .ref 109), (11, .int (nI one)), (12, .int (nI two)), (13, .int (nI 1)), (14, .int (nI (ql_fs S k))), (15, .int (nI (ql_dw S (zv_nf S - k) k))), (16, .int (nI (zv_fl S k)))]) hX dL_isSo_971 (Nat.le_of_ble_eq_true rfl) rfl ?_
        refine zz_aload_n hX dL_isSo_973 0 rfl rfl ?_
        refine zz_iload hX dL_isSo_974 14 rfl ?_
        refine zz_callV hX zf_M_L_165 (As := [.int (nI (ql_fs S k))]) (st := []) (P_film S s954 i954 m954 (ql_W hJ954.1) hJ954.2 (nI (ql_fs S k))) hJ954.2.1.1 rfl rfl rfl (by decide) (Nat.le_of_ble_eq_true rfl) (by omega) (by omega) dL_isSo_976 ?_ (fun e s i m h _ => (zq_no_el h (zs_nn (by omega)) trivial trivial).elim)
        rintro v9 s21 i21 m21 ⟨-, e9, hR9, hS9⟩ -
        rw [ql_at_0 hJ954.1 hk8] at e9
        obtain rfl := e9.symm
        have hJ21 := ql_J_ask hJ954 hR9 hS9
        have h1021 := ql_10 h10954 hS9
        clear hR9 hS9
        refine zz_bipush (v := nI 100) hX dL_isSo_979 rfl ?_
        refine zz_iload hX dL_isSo_981 16 rfl ?_
        refine zz_imul (z := nI (100 * (zv_fl S k))) hX dL_isSo_983 (pk_mul _ _) ?_
        refine zz_icmp_neN hX (by omega) (by omega) 1025 dL_isSo_984 (by decide) (fun c984 => absurd rfl c984) (fun c984 => ?_)
        refine zz_aload_n hX dL_isSo_987 0 rfl rfl ?_
        refine zz_iload hX dL_isSo_988 14 rfl ?_
        refine zz_aload hX dL_isSo_990 5 rfl ?_
        refine zz_iload hX dL_isSo_992 16 rfl ?_
        refine zz_sI (x := nI (zv_fr S (zv_fl S k))) hX zf_M_L_105 (As := [.ref 104, .int (nI (zv_fl S k))]) (st := [.int (nI (ql_fs S k)), .ref 2]) (Q_frames n S s21 i21 m21 hJ21.1 (zv_fl S k) (by omega)) rfl rfl (by decide) (Nat.le_of_ble_eq_true rfl) (by omega) (by omega) dL_isSo_994 ?_
        refine zz_iadd (z := nI (ql_fs S k + zv_fr S (zv_fl S k))) hX dL_isSo_997 (nI_add _ _) ?_
        refine zz_iconst (v := nI 1) hX dL_isSo_998 rfl ?_
        refine zz_isub (z := nI (ql_fs S k + (zv_fr S (zv_fl S k) - 1))) hX dL_isSo_999 ((pk_sub (by omega)).trans (congrArg nI (by omega))) ?_
        refine zz_callV hX zf_M_L_165 (As := [.int (nI (ql_fs S k + (zv_fr S (zv_fl S k) - 1)))]) (st := []) (P_film S s21 i21 m21 (ql_W hJ21.1) hJ21.2 (nI (ql_fs S k + (zv_fr S (zv_fl S k) - 1)))) hJ21.2.1.1 rfl rfl rfl (by decide) (Nat.le_of_ble_eq_true rfl) (by omega) (by omega) dL_isSo_1000 ?_ (fun e s i m h _ => (zq_no_el h (zs_nn (by omega)) trivial trivial).elim)
        rintro v9 s22 i22 m22 ⟨-, e9, hR9, hS9⟩ -
        rw [ql_at_hit hJ21.1 hk8 (show zv_fr S (zv_fl S k) - 1 < zv_fr S (zv_fl S k) by omega)] at e9
        obtain rfl := e9.symm
        have hJ22 := ql_J_ask hJ21 hR9 hS9
        have h1022 := ql_10 h1021 hS9
        clear hR9 hS9
        refine zz_bipush (v := nI 100) hX dL_isSo_1003 rfl ?_
        refine zz_iload hX dL_isSo_1005 16 rfl ?_
        refine zz_imul (z := nI (100 * (zv_fl S k))) hX dL_isSo_1007 (pk_mul _ _) ?_
        refine zz_aload hX dL_isSo_1008 5 rfl ?_
        refine zz_iload hX dL_isSo_1010 16 rfl ?_
        refine zz_sI (x := nI (zv_fr S (zv_fl S k))) hX zf_M_L_105 (As := [.ref 104, .int (nI (zv_fl S k))]) (st := [.int (nI (100 * (zv_fl S k))), .int (nI (100 * (zv_fl S k) + (zv_fr S (zv_fl S k) - 1)))]) (Q_frames n S s22 i22 m22 hJ22.1 (zv_fl S k) (by omega)) rfl rfl (by decide) (Nat.le_of_ble_eq_true rfl) (by omega) (by omega) dL_isSo_1012 ?_
        refine zz_iadd (z := nI (100 * (zv_fl S k) + zv_fr S (zv_fl S k))) hX dL_isSo_1015 (nI_add _ _) ?_
        refine zz_iconst (v := nI 1) hX dL_isSo_1016 rfl ?_
        refine zz_isub (z := nI (100 * (zv_fl S k) + (zv_fr S (zv_fl S k) - 1))) hX dL_isSo_1017 ((pk_sub (by omega)).trans (congrArg nI (by omega))) ?_
        refine zz_icmp_neN hX (by omega) (by omega) 1025 dL_isSo_1018 (by decide) (fun c1018 => absurd rfl c1018) (fun c1018 => ?_)
        refine zz_iconst (v := nI 1) hX dL_isSo_1021 rfl ?_
        refine zz_goto hX 1026 dL_isSo_1022 (by decide) ?_
        refine zz_istore (ls' := [(0, .ref 2), (1, .ref 100), (2, .ref 101), (3, .ref 102), (4, .ref 103), (5, .ref 104), (6, .ref 105), (7, .ref 106), (8, .ref 107), (9, .ref 108), (10, .ref 109), (11, .int (nI one)), (12, .int (nI two)), (13, .int (nI 1)), (14, .int (nI (ql_fs S k))), (15, .int (nI (ql_dw S (zv_nf S - k) k))), (16, .int (nI (zv_fl S k)))]) hX dL_isSo_1026 (Nat.le_of_ble_eq_true rfl) rfl ?_
        refine zz_iload hX dL_isSo_1028 14 rfl ?_
        refine zz_aload hX dL_isSo_1030 5 rfl ?_
        refine zz_iload hX dL_isSo_1032 16 rfl ?_
        refine zz_sI (x := nI (zv_fr S (zv_fl S k))) hX zf_M_L_105 (As := [.ref 104, .int (nI (zv_fl S k))]) (st := [.int (nI (ql_fs S k))]) (Q_frames n S s22 i22 m22 hJ22.1 (zv_fl S k) (by omega)) rfl rfl (by decide) (Nat.le_of_ble_eq_true rfl) (by omega) (by omega) dL_isSo_1034 ?_
        refine zz_iadd (z := nI (ql_fs S k + zv_fr S (zv_fl S k))) hX dL_isSo_1037 (nI_add _ _) ?_
        refine zz_istore (ls' := [(0, .ref 2), (1, .ref 100), (2, .ref 101), (3, .ref 102), (4, .ref 103), (5, .ref 104), (6, .ref 105), (7, .ref 106), (8, .ref 107), (9, .ref 108), (10, .ref 109), (11, .int (nI one)), (12, .int (nI two)), (13, .int (nI 1)), (14, .int (nI (ql_fs S k + zv_fr S (zv_fl S k)))), (15, .int (nI (ql_dw S (zv_nf S - k) k))), (16, .int (nI (zv_fl S k)))]) hX dL_isSo_1038 (Nat.le_of_ble_eq_true rfl) rfl ?_
        refine zz_iload hX dL_isSo_1040 15 rfl ?_
        refine zz_bipush (v := nI 10) hX dL_isSo_1042 rfl ?_
        refine zz_idiv (z := nI (ql_dw S (zv_nf S - k) k / 10)) hX dL_isSo_1044 (by decide) (pk_div (by omega) (by decide) (by decide)) ?_
        refine zz_istore (ls' := [(0, .ref 2), (1, .ref 100), (2, .ref 101), (3, .ref 102), (4, .ref 103), (5, .ref 104), (6, .ref 105), (7, .ref 106), (8, .ref 107), (9, .ref 108), (10, .ref 109), (11, .int (nI one)), (12, .int (nI two)), (13, .int (nI 1)), (14, .int (nI (ql_fs S k + zv_fr S (zv_fl S k)))), (15, .int (nI (ql_dw S (zv_nf S - k) k / 10))), (16, .int (nI (zv_fl S k)))]) hX dL_isSo_1045 (Nat.le_of_ble_eq_true rfl) rfl ?_
        refine zz_goto hX 954 dL_isSo_1047 (by decide) ?_
        refine zz_pick (ls' := [(0, .ref 2), (1, .ref 100), (2, .ref 101), (3, .ref 102), (4, .ref 103), (5, .ref 104), (6, .ref 105), (7, .ref 106), (8, .ref 107), (9, .ref 108), (10, .ref 109), (11, .int (nI one)), (12, .int (nI two)), (13, .int (nI 1)), (14, .int (nI (ql_fs S k + zv_fr S (zv_fl S k)))), (15, .int (nI (ql_dw S (zv_nf S - k) k / 10)))]) [0, 1, 2, 3, 4, 5, 6, 7, 8, 9, 10, 11, 12, 13, 14, 15] rfl ?_
        refine zz_lcl (ls' := [(0, .ref 2), (1, .ref 100), (2, .ref 101), (3, .ref 102), (4, .ref 103), (5, .ref 104), (6, .ref 105), (7, .ref 106), (8, .ref 107), (9, .ref 108), (10, .ref 109), (11, .int (nI one)), (12, .int (nI two)), (13, .int (nI 1)), (14, .int (nI (ql_fs S (k + 1)))), (15, .int (nI (ql_dw S (zv_nf S - (k + 1)) (k + 1))))]) (by rw [show ql_fs S (k + 1) = ql_fs S k + zv_fr S (zv_fl S k) from rfl, show ql_dw S (zv_nf S - (k + 1)) (k + 1) = ql_dw S (zv_nf S - k) k / 10 by omega]) ?_
        refine zz_widen (k := 10 * (u954 + 2)) (n := 60 * (u954 + 2)) (by omega) (by omega) ?_
        exact ih954 (k + 1) (u954 + 2) _ _ _ (by omega) (by omega) (by omega) hJ22 h1022
  exact L954 (zv_nf S - 0 + 1) 0 (uu + 0) _ _ _ (by omega) (Nat.zero_le _) (by omega) hJu h10u
/-- all is as the law holds it, and stays so -/
theorem Q_isSo (n : Nat) (S : zS) (sh : zm_Sh) (mi : zm_Mi) (mr : zm_Mr) (hJ : ql_J n S sh mi mr) (h10 : sh 10 = some (9, 0)) (one two : Nat) (ho : one < 60000) (ht : two < 60000) : zz_Con yL_isSo (.code yL_isSo cL_isSo 25 (some Jvm.ClassFile.FieldType.boolean)) 12 2500 15000 [.ref 2, .ref 100, .ref 101, .ref 102, .ref 103, .ref 104, .ref 105, .ref 106, .ref 107, .ref 108, .ref 109, .int (nI one), .int (nI two)] sh mi mr (fun v s i m => v = some (.int (nI 1)) ∧ ql_J n S s i m ∧ s 10 = some (9, 0)) zz_none := by
  refine zz_begin RL [(0, .ref 2), (1, .ref 100), (2, .ref 101), (3, .ref 102), (4, .ref 103), (5, .ref 104), (6, .ref 105), (7, .ref 106), (8, .ref 107), (9, .ref 108), (10, .ref 109), (11, .int (nI one)), (12, .int (nI two))] (by decide) rfl rfl (Nat.le_of_ble_eq_true rfl) rfl ?_
  intro Γ D E ad hX hr hN hT
  exact so_A hJ h10 ho ht (uu := 0) rfl (fun u1 s1 i1 m1 hu1 hJ1 h101 => so_B hJ1 h101 ho ht hu1 (fun u2 s2 i2 m2 hu2 hJ2 h102 => so_C hJ2 h102 ho ht hu2 (fun s3 i3 m3 hJ3 h103 => ⟨rfl, hJ3, h103⟩) hX hr) hX hr) hX hr
