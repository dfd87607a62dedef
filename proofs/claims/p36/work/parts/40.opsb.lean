/-! ===== words and bounds behind each call ===== -/
section ZLB
variable {n : Nat} {S : zS} {sh : zm_Sh} {mi : zm_Mi} {mr : zm_Mr}
theorem ql_hw_assign (h : ql_I n S sh mi) {i y : Nat} (hi : i < zv_ns S) (hy : y < 5) : nI (ql_hw S i) + nI 1024 * (nI y - S 14 i) = nI (ql_hw (zm_u2 S 14 i (nI y)) i) := by
  obtain ⟨q1, q2, q3, q4, q5, q6, q7, q8, q9, q10, q11, q12⟩ := ql_shot h hi
  have an := ql_an h hi
  have zy : zn (nI y + 1) = y + 1 := by
    have e : nI y + 1 = nI (y + 1) := nI_1 y
    rw [e]; exact nI_clamp (n := y + 1) (by omega)
  have e2 : ql_hw (zm_u2 S 14 i (nI y)) i = zv_pu S i + 4 * zv_fr S i + 32 * zv_st S i + 128 * zn (S 13 i + 1) + 1024 * (y + 1) + 8192 * zv_sk S i := by
    unfold ql_hw zv_pu zv_fr zv_st zv_sk
    rw [zm_u2l (by decide), zm_u2l (by decide), zm_u2l (by decide), zm_u2l (by decide), zm_u2s, zm_u2l (by decide), zy]
  have e3 : ql_hw S i = zv_pu S i + 4 * zv_fr S i + 32 * zv_st S i + 128 * zn (S 13 i + 1) + 1024 * zn (S 14 i + 1) + 8192 * zv_sk S i := rfl
  have t14 : (S 14 i).toInt = (zn (S 14 i + 1) : Int) - 1 := by
    have z := pk_sub_toInt (a := zn (S 14 i + 1)) (b := 1) (by omega) (by decide)
    rw [an] at z; exact z
  have ty : (nI y).toInt = (y : Int) := nI_toInt (by omega)
  have d1 : (nI y - S 14 i).toInt = (y : Int) - (zn (S 14 i + 1) : Int) + 1 := by rw [zs_smallS (by omega) (by omega), ty, t14]; omega
  have d2 : (nI 1024 * (nI y - S 14 i)).toInt = 1024 * ((y : Int) - (zn (S 14 i + 1) : Int) + 1) := by rw [zs_Nmul (n := 1024) (by decide) (by omega) (by omega), d1]; rfl
  have th : (nI (ql_hw S i)).toInt = (ql_hw S i : Int) := nI_toInt (by omega)
  rw [zs_eq, zs_small (by omega) (by omega), d2, th, nI_toInt (by omega), e2, e3]
  omega
theorem ql_hw_dub (h : ql_I n S sh mi) {i w : Nat} (hi : i < zv_ns S) (hw : w ≤ 5) : nI (ql_hw S i) + nI 128 * (nI w - nI 1 - S 13 i) = nI (ql_hw (zm_u2 S 13 i (nI w - nI 1)) i) := by
  obtain ⟨q1, q2, q3, q4, q5, q6, q7, q8, q9, q10, q11, q12⟩ := ql_shot h hi
  have an := ql_vo h hi
  have zy : zn (nI w - nI 1 + 1) = w := by
    have e : nI w - nI 1 + 1 = nI w := by
      rw [show (1 : Int32) = nI 1 from rfl, Int32.sub_add_cancel]
    rw [e]; exact nI_clamp (n := w) (by omega)
  have e2 : ql_hw (zm_u2 S 13 i (nI w - nI 1)) i = zv_pu S i + 4 * zv_fr S i + 32 * zv_st S i + 128 * w + 1024 * zn (S 14 i + 1) + 8192 * zv_sk S i := by
    unfold ql_hw zv_pu zv_fr zv_st zv_sk
    rw [zm_u2l (by decide), zm_u2l (by decide), zm_u2l (by decide), zm_u2s, zm_u2l (by decide), zm_u2l (by decide), zy]
  have e3 : ql_hw S i = zv_pu S i + 4 * zv_fr S i + 32 * zv_st S i + 128 * zn (S 13 i + 1) + 1024 * zn (S 14 i + 1) + 8192 * zv_sk S i := rfl
  have t14 : (S 13 i).toInt = (zn (S 13 i + 1) : Int) - 1 := by
    have z := pk_sub_toInt (a := zn (S 13 i + 1)) (b := 1) (by omega) (by decide)
    rw [an] at z; exact z
  have ty : (nI w - nI 1).toInt = (w : Int) - 1 := by rw [pk_sub_toInt (by omega) (by decide)]; rfl
  have d1 : (nI w - nI 1 - S 13 i).toInt = (w : Int) - (zn (S 13 i + 1) : Int) := by rw [zs_smallS (by omega) (by omega), ty, t14]; omega
  have d2 : (nI 128 * (nI w - nI 1 - S 13 i)).toInt = 128 * ((w : Int) - (zn (S 13 i + 1) : Int)) := by rw [zs_Nmul (n := 128) (by decide) (by omega) (by omega), d1]; rfl
  have th : (nI (ql_hw S i)).toInt = (ql_hw S i : Int) := nI_toInt (by omega)
  rw [zs_eq, zs_small (by omega) (by omega), d2, th, nI_toInt (by omega), e2, e3]
  omega
theorem ql_hw_anew {i f : Nat} (hf : f < zv_sk S i) (h48 : zv_sk S i ≤ 48) : ql_hw S i - 8192 * (zv_sk S i - f) = ql_hw (zm_u2 S 15 i (nI f)) i ∧ 8192 * (zv_sk S i - f) ≤ ql_hw S i := by
  have zf : zn (nI f) = f := nI_clamp (n := f) (by omega)
  have e2 : ql_hw (zm_u2 S 15 i (nI f)) i = zv_pu S i + 4 * zv_fr S i + 32 * zv_st S i + 128 * zn (S 13 i + 1) + 1024 * zn (S 14 i + 1) + 8192 * f := by
    unfold ql_hw zv_pu zv_fr zv_st zv_sk
    rw [zm_u2l (by decide), zm_u2l (by decide), zm_u2l (by decide), zm_u2l (by decide), zm_u2l (by decide), zm_u2s, zf]
  have e3 : ql_hw S i = zv_pu S i + 4 * zv_fr S i + 32 * zv_st S i + 128 * zn (S 13 i + 1) + 1024 * zn (S 14 i + 1) + 8192 * zv_sk S i := rfl
  rw [e2, e3]; omega
theorem ql_iw_set (h : zW S) {a : Nat} (ha : a < 5) : ql_iw (zm_u2 S 17 a (nI 1)) = (if ql_iw S / 2 ^ a % 2 = 1 then ql_iw S else ql_iw S + 2 ^ a) ∧ ql_iw (zm_u2 S 17 a (nI 0)) = (if ql_iw S / 2 ^ a % 2 = 1 then ql_iw S - 2 ^ a else ql_iw S) := by
  have hb := ql_iw_b h ha
  rw [hb]
  have a1 := (ql_i1 h a).1
  have z1 : zn (nI 1) = 1 := by decide
  have z0 : zn (nI 0) = 0 := by decide
  have hc : a = 0 ∨ a = 1 ∨ a = 2 ∨ a = 3 ∨ a = 4 := by omega
  unfold ql_iw
  rcases hc with rfl | rfl | rfl | rfl | rfl
  · rw [zm_u2s, zm_u2k (by decide), zm_u2k (by decide), zm_u2k (by decide), zm_u2k (by decide), zm_u2s, zm_u2k (by decide), zm_u2k (by decide), zm_u2k (by decide), zm_u2k (by decide), z1, z0]
    have e : 2 ^ 0 = 1 := rfl
    rw [e]; constructor <;> split <;> omega
  · rw [zm_u2s, zm_u2k (by decide), zm_u2k (by decide), zm_u2k (by decide), zm_u2k (by decide), zm_u2s, zm_u2k (by decide), zm_u2k (by decide), zm_u2k (by decide), zm_u2k (by decide), z1, z0]
    have e : 2 ^ 1 = 2 := rfl
    rw [e]; constructor <;> split <;> omega
  · rw [zm_u2s, zm_u2k (by decide), zm_u2k (by decide), zm_u2k (by decide), zm_u2k (by decide), zm_u2s, zm_u2k (by decide), zm_u2k (by decide), zm_u2k (by decide), zm_u2k (by decide), z1, z0]
    have e : 2 ^ 2 = 4 := rfl
    rw [e]; constructor <;> split <;> omega
  · rw [zm_u2s, zm_u2k (by decide), zm_u2k (by decide), zm_u2k (by decide), zm_u2k (by decide), zm_u2s, zm_u2k (by decide), zm_u2k (by decide), zm_u2k (by decide), zm_u2k (by decide), z1, z0]
    have e : 2 ^ 3 = 8 := rfl
    rw [e]; constructor <;> split <;> omega
  · rw [zm_u2s, zm_u2k (by decide), zm_u2k (by decide), zm_u2k (by decide), zm_u2k (by decide), zm_u2s, zm_u2k (by decide), zm_u2k (by decide), zm_u2k (by decide), zm_u2k (by decide), z1, z0]
    have e : 2 ^ 4 = 16 := rfl
    rw [e]; constructor <;> split <;> omega
/-! digits -/
theorem ql_dw_split {S : zS} : ∀ a b q, ql_dw S (a + b) q = ql_dw S a q + 10 ^ a * ql_dw S b (q + a)
  | 0, b, q => by rw [Nat.zero_add]; show _ = 0 + 1 * _; rw [Nat.zero_add, Nat.one_mul]; rfl
  | a + 1, b, q => by
    rw [show a + 1 + b = (a + b) + 1 by omega]
    show (zv_fl S q + 1) + 10 * ql_dw S (a + b) (q + 1) = (zv_fl S q + 1) + 10 * ql_dw S a (q + 1) + 10 ^ (a + 1) * ql_dw S b (q + (a + 1))
    rw [ql_dw_split a b (q + 1), Nat.pow_succ, Nat.mul_add, show q + 1 + a = q + (a + 1) by omega, Nat.mul_comm (10 ^ a) 10, Nat.mul_assoc]
    omega
theorem ql_dw_cg {S T : zS} : ∀ k q q', (∀ j, j < k → zv_fl T (q' + j) = zv_fl S (q + j)) → ql_dw T k q' = ql_dw S k q
  | 0, _, _, _ => rfl
  | k + 1, q, q', h => by
    have h0 := h 0 (by omega)
    have ih := ql_dw_cg (S := S) (T := T) k (q + 1) (q' + 1) (fun j hj => by have := h (j + 1) (by omega); rw [show q' + 1 + j = q' + (j + 1) by omega, show q + 1 + j = q + (j + 1) by omega]; exact this)
    show (zv_fl T q' + 1) + 10 * ql_dw T k (q' + 1) = (zv_fl S q + 1) + 10 * ql_dw S k (q + 1)
    rw [ih]
    have h1 : zv_fl T q' = zv_fl S q := h0
    rw [h1]
theorem ql_dw_cut {i : Nat} (hi : i < 8) (hn : zv_nf S < 8) : ql_dw (zt_cut S i) (zv_nf (zt_cut S i)) 0 = ql_dw S (zv_nf S) 0 + 10 ^ zv_nf S * (i + 1) := by
  rw [zt_cut_nf hn, ql_dw_split (zv_nf S) 1 0]
  have e1 : ql_dw (zt_cut S i) (zv_nf S) 0 = ql_dw S (zv_nf S) 0 := ql_dw_cg _ 0 0 (fun j hj => by rw [Nat.zero_add, zt_cut_fl hi, if_neg (by omega)])
  have e2 : ql_dw (zt_cut S i) 1 (0 + zv_nf S) = i + 1 := by
    show (zv_fl (zt_cut S i) (0 + zv_nf S) + 1) + 10 * 0 = i + 1
    rw [Nat.zero_add, zt_cut_fl hi, if_pos rfl]
  rw [e1, e2]
theorem ql_dw_out (hs : ∀ k, k < zv_nf S → zv_fl S k < 8) {q : Nat} (hq : q < zv_nf S) (hn : zv_nf S ≤ 8) : ql_dw (zt_out S q) (zv_nf (zt_out S q)) 0 = ql_dw S (zv_nf S) 0 / 10 ^ q / 10 * 10 ^ q + ql_dw S (zv_nf S) 0 % 10 ^ q := by
  obtain ⟨r, hr⟩ : ∃ r, zv_nf S = q + (r + 1) := ⟨zv_nf S - 1 - q, by omega⟩
  have hD : ql_dw S (zv_nf S) 0 = ql_dw S q 0 + 10 ^ q * (zv_fl S q + 1 + 10 * ql_dw S r (q + 1)) := by
    rw [show ql_dw S (zv_nf S) 0 = ql_dw S (q + (r + 1)) 0 by rw [hr], ql_dw_split q (r + 1) 0, Nat.zero_add]
    rfl
  have hlo := ql_dw_lt hs q 0 (by omega)
  have hfl : ∀ k, k < zv_nf S - 1 → zv_fl (zt_out S q) k = if q ≤ k then zv_fl S (k + 1) else zv_fl S k := fun k hk => by
    unfold zv_fl
    rw [zt_out_29 hk]
    split <;> rfl
  have hN : ql_dw (zt_out S q) (zv_nf (zt_out S q)) 0 = ql_dw S q 0 + 10 ^ q * ql_dw S r (q + 1) := by
    have e1 : ql_dw (zt_out S q) q 0 = ql_dw S q 0 := ql_dw_cg _ 0 0 (fun j hj => by rw [Nat.zero_add, hfl j (by omega), if_neg (by omega)])
    have e2 : ql_dw (zt_out S q) r (0 + q) = ql_dw S r (q + 1) := by
      rw [Nat.zero_add]
      exact ql_dw_cg _ (q + 1) q (fun j hj => by rw [hfl (q + j) (by omega), if_pos (by omega), show q + j + 1 = q + 1 + j by omega])
    rw [zt_out_nf hn, show zv_nf S - 1 = q + r by omega, ql_dw_split q r 0, e1, e2]
  have hp : 0 < 10 ^ q := Nat.pow_pos (by decide)
  have e1 : ql_dw S (zv_nf S) 0 / 10 ^ q = zv_fl S q + 1 + 10 * ql_dw S r (q + 1) := by
    rw [hD, Nat.add_mul_div_left _ _ hp, Nat.div_eq_of_lt hlo, Nat.zero_add]
  have e2 : ql_dw S (zv_nf S) 0 % 10 ^ q = ql_dw S q 0 := by
    rw [hD, Nat.add_mul_mod_self_left, Nat.mod_eq_of_lt hlo]
  have hf := hs q hq
  have e3 : (zv_fl S q + 1 + 10 * ql_dw S r (q + 1)) / 10 = ql_dw S r (q + 1) := by omega
  rw [hN, e1, e2, e3, Nat.mul_comm]
  omega
/-! bounds -/
theorem ql_B_s {T : zS} (h : ql_B n S) (e : ∀ r, (r = 0 ∨ r = 1 ∨ r = 3 ∨ r = 4 ∨ r = 5 ∨ r = 6 ∨ r = 9 ∨ r = 11 ∨ r = 15 ∨ r = 20 ∨ r = 21 ∨ r = 23 ∨ r = 25 ∨ r = 26) → T r = S r) : ql_B (n + 1) T := ql_B_mono (ql_B_c h e) (by omega)
theorem ql_B_puppet (h : ql_B n S) {x : Nat} (hn : zv_np S ≤ 1) (hx : x ≤ 3) : ql_B (n + 1) (zt_puppet S (nI x)) := by
  have E : ∀ r, ¬ (r = 0 ∨ r = 1) → zt_puppet S (nI x) r = S r := fun r hr => (zm_u2r (by omega)).trans (zm_u2r (by omega))
  obtain ⟨b1, b2, b3, b4, b5, b6, b7⟩ := ql_B_mono h (Nat.le_succ n)
  have xn : zv_np (zt_puppet S (nI x)) = zv_np S + 1 := by
    show zn (zt_puppet S (nI x) 0 0) = _
    rw [show zt_puppet S (nI x) 0 0 = nI (zv_np S + 1) from zm_u2s]; exact nI_clamp (n := zv_np S + 1) (by omega)
  have zx : zn (nI x) = x := nI_clamp (n := x) (by omega)
  refine ⟨⟨by omega, fun p hp => ?_⟩, ?_, ?_, ?_, ?_, ?_, ?_⟩
  · rw [xn] at hp
    show zn (zt_puppet S (nI x) 1 p) ≤ 3
    unfold zt_puppet
    rw [zm_u2l (by decide)]
    by_cases e : p = zv_np S
    · rw [e, zm_u2s, zx]; exact hx
    · rw [zm_u2k e]; exact b1.2 p (by omega)
  · unfold ql_Bv zv_nv zv_sc at b2 ⊢; rw [E 5 (by decide), E 6 (by decide)]; exact b2
  · unfold ql_Bs zv_ns zv_fr at b3 ⊢; rw [E 9 (by decide), E 11 (by decide)]; exact b3
  · unfold ql_Bg at b4 ⊢; rw [E 20 (by decide), E 21 (by decide)]; exact b4
  · unfold ql_Bj at b5 ⊢; rw [E 3 (by decide)]; exact b5
  · unfold ql_Bm at b6 ⊢; rw [E 4 (by decide)]; exact b6
  · unfold ql_Be zv_ns zv_sk at b7 ⊢; rw [E 9 (by decide), E 15 (by decide), E 23 (by decide), E 25 (by decide), E 26 (by decide)]; exact b7
theorem ql_B_mouths (h : ql_B n S) {c x : Nat} (hx : x < 10) (hc : S 4 c + nI x ≤ nI 9) : ql_B (n + 1) (zm_u2 S 4 c (S 4 c + nI x)) := by
  obtain ⟨b1, b2, b3, b4, b5, b6, b7⟩ := ql_B_mono h (Nat.le_succ n)
  refine ⟨b1, b2, b3, b4, b5, fun a => ?_, b7⟩
  by_cases e : a = c
  · rw [e, zm_u2s]
    have h9 := b6 c
    unfold zv_in at h9 ⊢
    have tx : (nI x).toInt = (x : Int) := nI_toInt (by omega)
    have t9 : (nI 9).toInt = 9 := nI_toInt (by decide)
    have e5 : (S 4 c + nI x).toInt = (S 4 c).toInt + x := by rw [zs_small (by omega) (by omega), tx]
    rw [zs_le, t9] at hc
    omega
  · rw [zm_u2k e]; exact b6 a
theorem ql_B_sound (h : ql_B n S) {x f : Int32} (hv : zv_nv S ≤ 3) (hc : zv_sc S (zv_nv S) < 6) : ql_B (n + 1) (zt_sound S x f) := by
  have E : ∀ r, ¬ (r = 6 ∨ r = 7 ∨ r = 8) → zt_sound S x f r = S r := fun r hr => zt_sound_r (by omega) (by omega) (by omega)
  obtain ⟨b1, b2, b3, b4, b5, b6, b7⟩ := ql_B_mono h (Nat.le_succ n)
  refine ⟨?_, ⟨?_, fun v hv9 => ?_⟩, ?_, ?_, ?_, ?_, ?_⟩
  · unfold ql_Bp zv_np zv_jn at b1 ⊢; rw [E 0 (by decide), E 1 (by decide)]; exact b1
  · unfold zv_nv at hv ⊢; rw [E 5 (by decide)]; exact hv
  · rw [zt_sound_sc (by omega)]
    split
    · omega
    · exact b2.2 v hv9
  · unfold ql_Bs zv_ns zv_fr at b3 ⊢; rw [E 9 (by decide), E 11 (by decide)]; exact b3
  · unfold ql_Bg at b4 ⊢; rw [E 20 (by decide), E 21 (by decide)]; exact b4
  · unfold ql_Bj at b5 ⊢; rw [E 3 (by decide)]; exact b5
  · unfold ql_Bm at b6 ⊢; rw [E 4 (by decide)]; exact b6
  · unfold ql_Be zv_ns zv_sk at b7 ⊢; rw [E 9 (by decide), E 15 (by decide), E 23 (by decide), E 25 (by decide), E 26 (by decide)]; exact b7
theorem ql_B_voice (h : ql_B n S) (hv : zv_nv S ≤ 2) : ql_B (n + 1) (zt_voice S) := by
  obtain ⟨b1, b2, b3, b4, b5, b6, b7⟩ := ql_B_mono h (Nat.le_succ n)
  refine ⟨b1, ⟨?_, b2.2⟩, b3, b4, b5, b6, b7⟩
  show zn (zt_voice S 5 0) ≤ 3
  rw [show zt_voice S 5 0 = nI (zv_nv S + 1) from zm_u2s]
  have z : zn (nI (zv_nv S + 1)) = zv_nv S + 1 := nI_clamp (n := zv_nv S + 1) (by omega)
  omega
theorem ql_B_shot (h : ql_B n S) (hW : zW S) {p x y : Nat} {v : Int32} (hn : zv_ns S ≤ 2) (hx : x ≤ 6) : ql_B (n + 1) (zt_shot S (nI p) (nI x) (nI y) v) := by
  have E : ∀ r, ¬ (9 ≤ r ∧ r ≤ 14) → zt_shot S (nI p) (nI x) (nI y) v r = S r := fun r hr => (zm_u2r (by omega)).trans ((zm_u2r (by omega)).trans ((zm_u2r (by omega)).trans ((zm_u2r (by omega)).trans ((zm_u2r (by omega)).trans (zm_u2r (by omega))))))
  obtain ⟨b1, b2, b3, b4, b5, b6, b7⟩ := ql_B_mono h (Nat.le_succ n)
  have xn : zv_ns (zt_shot S (nI p) (nI x) (nI y) v) = zv_ns S + 1 := by
    show zn (zt_shot S (nI p) (nI x) (nI y) v 9 0) = _
    rw [show zt_shot S (nI p) (nI x) (nI y) v 9 0 = nI (zv_ns S + 1) from zm_u2s]; exact nI_clamp (n := zv_ns S + 1) (by omega)
  have x11 : ∀ a, zt_shot S (nI p) (nI x) (nI y) v 11 a = if a = zv_ns S then nI x else S 11 a := fun a => by
    unfold zt_shot
    rw [zm_u2l (by decide), zm_u2l (by decide), zm_u2l (by decide), zm_u2l (by decide)]
    by_cases e : a = zv_ns S
    · rw [if_pos e, e, zm_u2s]
    · rw [if_neg e, zm_u2k e, zm_u2l (by decide)]
  have zx : zn (nI x) = x := nI_clamp (n := x) (by omega)
  have sk0 : zv_sk S (zv_ns S) = 0 := by
    have s0 : S 15 (zv_ns S) = 0 := (hW.2.2.1.2.2.2 _ (Nat.le_refl _)).1
    unfold zv_sk; rw [s0]; decide
  refine ⟨?_, ?_, ⟨by omega, fun a ha => ?_⟩, ?_, ?_, ?_, fun a f ha hf => ?_⟩
  · unfold ql_Bp zv_np zv_jn at b1 ⊢; rw [E 0 (by omega), E 1 (by omega)]; exact b1
  · unfold ql_Bv zv_nv zv_sc at b2 ⊢; rw [E 5 (by omega), E 6 (by omega)]; exact b2
  · rw [xn] at ha
    show zn (zt_shot S (nI p) (nI x) (nI y) v 11 a) ≤ 6
    rw [x11]
    by_cases e : a = zv_ns S
    · rw [if_pos e, zx]; exact hx
    · rw [if_neg e]; exact b3.2 a (by omega)
  · unfold ql_Bg at b4 ⊢; rw [E 20 (by omega), E 21 (by omega)]; exact b4
  · unfold ql_Bj at b5 ⊢; rw [E 3 (by omega)]; exact b5
  · unfold ql_Bm at b6 ⊢; rw [E 4 (by omega)]; exact b6
  · rw [xn] at ha
    have hf2 : f < zv_sk S a := by unfold zv_sk at hf ⊢; rw [E 15 (by omega)] at hf; exact hf
    rw [E 23 (by omega), E 25 (by omega), E 26 (by omega)]
    refine b7 a f ?_ hf2
    by_cases e : a = zv_ns S
    · rw [e, sk0] at hf2; omega
    · omega
theorem ql_B_play (h : ql_B n S) {x : Int32} (hx : zv_in x 0 20) : ql_B (n + 1) (zm_u2 S 20 0 x) := by
  obtain ⟨b1, b2, b3, ⟨b4, b4'⟩, b5, b6, b7⟩ := ql_B_mono h (Nat.le_succ n)
  exact ⟨b1, b2, b3, ⟨by rw [zm_u2s]; exact hx, b4'⟩, b5, b6, b7⟩
theorem ql_B_lamp (h : ql_B n S) : ql_B (n + 1) (zm_u2 S 21 0 0) := by
  obtain ⟨b1, b2, b3, ⟨b4, b4'⟩, b5, b6, b7⟩ := ql_B_mono h (Nat.le_succ n)
  refine ⟨b1, b2, b3, ⟨b4, ?_⟩, b5, b6, b7⟩
  rw [zm_u2s]
  unfold zv_in
  rw [Int32.toInt_zero]; omega
theorem ql_B_mend (h : ql_B n S) {c : Nat} : ql_B (n + 1) (zm_u2 S 3 c 0) := by
  obtain ⟨b1, b2, b3, b4, b5, b6, b7⟩ := ql_B_mono h (Nat.le_succ n)
  refine ⟨b1, b2, b3, b4, fun a => ?_, b6, b7⟩
  by_cases e : a = c
  · rw [e, zm_u2s]; unfold zv_in; rw [Int32.toInt_zero]; omega
  · rw [zm_u2k e]; exact b5 a
theorem ql_B_anew (h : ql_B n S) {i f : Nat} (hf : f < zv_sk S i) (h48 : zv_sk S i ≤ 48) : ql_B (n + 1) (zm_u2 S 15 i (nI f)) := by
  obtain ⟨b1, b2, b3, b4, b5, b6, b7⟩ := ql_B_mono h (Nat.le_succ n)
  exact ⟨b1, b2, b3, b4, b5, b6, fun a c ha hc => b7 a c ha (ql_sk15 hf h48 hc)⟩
/-- both sides behind a call -/
theorem ql_J_end {S' : zS} {M : zm_Mi} {s9 : zm_Sh} {i9 : zm_Mi} {m9 : zm_Mr} (hn : n + 1 ≤ 64) (hW' : zW S') (hB' : ql_B (n + 1) S') (hN' : ql_N S' sh M) (hR9 : zR S' s9 i9 m9) (hS9 : zr_same zr_out sh M mr s9 i9 m9) : ql_J (n + 1) S' s9 i9 m9 :=
  ⟨⟨hn, hW', hB', ql_N_same hN' (fun l h1 h2 => ⟨(hS9 l (Or.inr ⟨by omega, by omega⟩)).1, (hS9 l (Or.inr ⟨by omega, by omega⟩)).2.1⟩)⟩, hR9⟩
theorem ql_R_u (hW : zW S) (hR : zR S sh mi mr) {l k : Nat} {x : Int32} (hl : 100 ≤ l ∧ l < 110) : zR S sh (zm_u2 mi l k x) mr := zR_same hW hR (fun q hq => ⟨rfl, zm_u2r (by unfold zr_cl at hq; omega), rfl⟩)
theorem ql_R_f (hW : zW S) (hR : zR S sh mi mr) {M : zm_Mi} (hM : ∀ l, ¬ (100 ≤ l ∧ l < 110) → M l = mi l) : zR S sh M mr := zR_same hW hR (fun q hq => ⟨rfl, hM q (by unfold zr_cl at hq; omega), rfl⟩)
theorem zm_u2_id {m : Nat → Nat → Int32} {l k : Nat} {x : Int32} (h : m l k = x) : zm_u2 m l k x = m := by
  funext a b
  unfold zm_u2
  by_cases e : a = l ∧ b = k
  · rw [if_pos e, e.1, e.2, h]
  · rw [if_neg e]
theorem zs_add0 {x : Int32} : x + nI 0 = x := by rw [nI_0, Int32.add_zero]
theorem zs_sub0 {x : Int32} : x - nI 0 = x := by rw [nI_0, Int32.sub_zero]
theorem ql_10 (h10 : sh 10 = some (9, 0)) {s9 : zm_Sh} {i9 : zm_Mi} {m9 : zm_Mr} {M : zm_Mi} (hS9 : zr_same zr_out sh M mr s9 i9 m9) : s9 10 = some (9, 0) := ((hS9 10 (Or.inr ⟨by decide, by decide⟩)).1).trans h10
/-- a step of the law is done, and all is well -/
def ql_T (n : Nat) : Option Value → zm_Sh → zm_Mi → zm_Mr → Prop := fun v s i m => v = some (.int (nI 1)) ∧ (∃ S', ql_J (n + 1) S' s i m) ∧ s 10 = some (9, 0)
end ZLB
/-! what the caller's answer is -/
section ZLC
variable {A B C : Prop} {a k : Int32} {S S' : zS} {s : zm_Sh} {i : zm_Mi} {m : zm_Mr}
abbrev zq_dk (A B C : Prop) (a k : Int32) (S S' : zS) (s : zm_Sh) (i : zm_Mi) (m : zm_Mr) : Prop := (A ∧ B ∧ C ∧ k = a ∧ zR S' s i m) ∨ (¬ A ∧ k = -3000000 ∧ zR S s i m) ∨ (A ∧ ¬ B ∧ k = -2000000 ∧ zR S s i m) ∨ (A ∧ B ∧ ¬ C ∧ k = -1000000 ∧ zR S s i m)
theorem zq_d1 (h : zq_dk A B C a k S S' s i m) (hA : A) (hB : B) (hC : C) : k = a ∧ zR S' s i m := by
  rcases h with ⟨-, -, -, h4⟩ | ⟨h1, -⟩ | ⟨-, h2, -⟩ | ⟨-, -, h3, -⟩
  · exact h4
  · exact absurd hA h1
  · exact absurd hB h2
  · exact absurd hC h3
theorem zq_d2 (h : zq_dk A B C a k S S' s i m) (hA : ¬ A) : k = -3000000 ∧ zR S s i m := by
  rcases h with ⟨h1, -⟩ | ⟨-, h4⟩ | ⟨h1, -⟩ | ⟨h1, -⟩
  · exact absurd h1 hA
  · exact h4
  · exact absurd h1 hA
  · exact absurd h1 hA
theorem zq_d3 (h : zq_dk A B C a k S S' s i m) (hA : A) (hB : ¬ B) : k = -2000000 ∧ zR S s i m := by
  rcases h with ⟨-, h2, -⟩ | ⟨h1, -⟩ | ⟨-, -, h4⟩ | ⟨-, h2, -⟩
  · exact absurd h2 hB
  · exact absurd hA h1
  · exact h4
  · exact absurd h2 hB
theorem zq_d4 (h : zq_dk A B C a k S S' s i m) (hA : A) (hB : B) (hC : ¬ C) : k = -1000000 ∧ zR S s i m := by
  rcases h with ⟨-, -, h3, -⟩ | ⟨h1, -⟩ | ⟨-, h2, -⟩ | ⟨-, -, -, h4⟩
  · exact absurd h3 hC
  · exact absurd hA h1
  · exact absurd hB h2
  · exact h4
end ZLC
