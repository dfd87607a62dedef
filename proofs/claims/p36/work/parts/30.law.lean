/-! ===== the law's side: rows that the class's walk did not need ===== -/
section ZL1
variable {Γ : zz_C} {G : zz_G} {Q : State → Prop} {cells slots : Nat} {sh : zm_Sh} {mi : zm_Mi} {mr : zm_Mr} {pc : Nat} {ls : List (Nat × Value)} {st : List Value} {own : String} {cc : ByteArray} {d mc ms : Nat}
theorem zz_ineg (X : zz_X Γ G own cc d mc ms) {x z : Int32} (hdg : decode cc pc = .ok (.ineg, 1)) (hz : -x = z) (kk : zz Γ G Q cells slots sh mi mr (pc + 1) ls (.int z :: st)) : zz Γ G Q cells slots sh mi mr pc ls (.int x :: st) := by
  subst hz
  exact fun ad H locs la h => lv_ineg X.1 X.2.1 hdg (kk ad H locs la (h.ws (zm_oc trivial (zm_ot h.oks))))
theorem zz_ishl (X : zz_X Γ G own cc d mc ms) {x y z : Int32} (hdg : decode cc pc = .ok (.ishl, 1)) (hz : x <<< (y &&& 31) = z) (kk : zz Γ G Q cells slots sh mi mr (pc + 1) ls (.int z :: st)) : zz Γ G Q cells slots sh mi mr pc ls (.int y :: .int x :: st) := by
  subst hz
  exact fun ad H locs la h => lv_ishl X.1 X.2.1 hdg (kk ad H locs la (h.ws (zm_oc trivial (zm_ot (zm_ot h.oks)))))
theorem zz_ishr (X : zz_X Γ G own cc d mc ms) {x y z : Int32} (hdg : decode cc pc = .ok (.ishr, 1)) (hz : x >>> (y &&& 31) = z) (kk : zz Γ G Q cells slots sh mi mr (pc + 1) ls (.int z :: st)) : zz Γ G Q cells slots sh mi mr pc ls (.int y :: .int x :: st) := by
  subst hz
  exact fun ad H locs la h => lv_ishr X.1 X.2.1 hdg (kk ad H locs la (h.ws (zm_oc trivial (zm_ot (zm_ot h.oks)))))
theorem zz_sld (X : zz_X Γ G own cc d mc ms) {l : Nat} (h10 : sh l = some (9, 0)) {i : Int32} (j : Nat) (hi : i = nI j) (hj : j < G.2.1.2.2.1) (hdg : decode cc pc = .ok (.iaload, 1)) (kk : zz Γ G Q cells slots sh mi mr (pc + 1) ls (.int (G.2.1.2.2.2 j) :: st)) : zz Γ G Q cells slots sh mi mr pc ls (.int i :: .ref l :: st) := by
  intro ad H locs la h
  subst hi
  have K := X.2.2.2.2.2.2.1
  obtain ⟨⟨hbl, hX⟩, hsz⟩ := K.2.2.2.2.2.2.2.2.2
  have e10 : ad l = G.2.1.2.1 := h.1.2.2 l h10
  have hL : G.2.1.2.2.1 < 2 ^ 31 := hbl.2
  have hc : (nI j).toNatClampNeg = j := nI_clamp (by omega)
  have k2 := kk ad H locs la (h.ws (zm_oc trivial (zm_ot (zm_ot h.oks))))
  rw [← hc] at k2
  show zz_W Γ H locs cells slots Q (F0 (zz_m Γ) pc la (.int (nI j) :: .ref (ad l) :: st.map (zm_cv ad)))
  rw [e10]
  exact va_sld X.1 X.2.1 hX (by omega) (Nat.not_le.mpr hbl.1) h.2.1 (vp_in_nI hj hL) hdg k2
theorem zz_slen (X : zz_X Γ G own cc d mc ms) {l : Nat} (h10 : sh l = some (9, 0)) (hdg : decode cc pc = .ok (.arraylength, 1)) (kk : G.2.1.2.2.1 < 2 ^ 31 → zz Γ G Q cells slots sh mi mr (pc + 1) ls (.int (nI G.2.1.2.2.1) :: st)) : zz Γ G Q cells slots sh mi mr pc ls (.ref l :: st) := by
  intro ad H locs la h
  have K := X.2.2.2.2.2.2.1
  obtain ⟨⟨hbl, hX⟩, hsz⟩ := K.2.2.2.2.2.2.2.2.2
  have e10 : ad l = G.2.1.2.1 := h.1.2.2 l h10
  have k2 := kk hbl.2 ad H locs la (h.ws (zm_oc trivial (zm_ot h.oks)))
  show zz_W Γ H locs cells slots Q (F0 (zz_m Γ) pc la (.ref (ad l) :: st.map (zm_cv ad)))
  rw [e10]
  exact va_slen X.1 X.2.1 hX (by omega) (Nat.not_le.mpr hbl.1) h.2.1 hdg k2
end ZL1
theorem zz_bi_T {p : Prop} [Decidable p] (h : p) : nI 1 = zz_bi p := by rw [zz_bi_t h]; rfl
theorem zz_bi_F {p : Prop} [Decidable p] (h : ¬ p) : nI 0 = zz_bi p := by rw [zz_bi_f h]; rfl
/-- a number if p, else 0 -/
def zl_q (k : Nat) (p : Prop) [Decidable p] : Int32 := if p then nI k else nI 0
theorem zl_q_T {k : Nat} {p : Prop} [Decidable p] (h : p) : nI k = zl_q k p := (if_pos h).symm
theorem zl_q_F {k : Nat} {p : Prop} [Decidable p] (h : ¬ p) : nI 0 = zl_q k p := (if_neg h).symm
theorem zq_no_el {A B C : Prop} {sh s : zm_Sh} {mi i : zm_Mi} {mr m : zm_Mr} {e : String} (h : zq_no A B C sh mi mr e s i m) (hA : A) (hB : B) (hC : C) : False := by
  rcases h.1 with ⟨-, q⟩ | ⟨-, -, q⟩ | ⟨-, -, -, q⟩
  · exact q hA
  · exact q hB
  · exact q hC
theorem zk_nbi (p : Prop) [Decidable p] : narrow .boolean (.int (zz_bi p)) = .int (zz_bi p) := by
  unfold zz_bi
  split <;> rfl
theorem zs_any_s {p : Nat → Prop} [DecidablePred p] (n : Nat) : zs_any p (n + 1) = true ↔ (zs_any p n = true ∨ p n) := by
  rw [show zs_any p (n + 1) = (zs_any p n || decide (p n)) from rfl, Bool.or_eq_true, decide_eq_true_eq]
theorem zs_pf_of_held {stp f : Nat} (h : ¬ zs_pf stp f = f) : zs_pf stp f = f - 1 := by
  unfold zs_pf at *
  split
  · rfl
  · rename_i h2; rw [if_neg h2] at h; exact absurd rfl h
theorem zs_pf_held0 {stp f : Nat} (h : ¬ zs_pf stp f = f) : 0 < f := Nat.pos_of_ne_zero (fun e => h (by rw [e]; exact zs_pf_0 _))
theorem zs_held_iff {stp f : Nat} : (¬ zs_pf stp f = f) ↔ (stp = 2 ∧ f % 2 = 1) := by
  unfold zs_pf
  split
  · rename_i h; exact ⟨fun _ => h, fun _ => by omega⟩
  · rename_i h; exact ⟨fun q => absurd rfl q, fun q => absurd q h⟩
/-! ===== numbers ===== -/
theorem zs_mulN {a : Int32} {n : Nat} (hn : n < 2 ^ 31) (h1 : -1000000000 ≤ a.toInt * n) (h2 : a.toInt * n ≤ 1000000000) : (a * nI n).toInt = a.toInt * n := by
  rw [Int32.toInt_mul, nI_toInt hn]; exact Int.bmod_eq_of_le (by omega) (by omega)
theorem zs_Nmul {a : Int32} {n : Nat} (hn : n < 2 ^ 31) (h1 : -1000000000 ≤ (n : Int) * a.toInt) (h2 : (n : Int) * a.toInt ≤ 1000000000) : (nI n * a).toInt = n * a.toInt := by
  rw [Int32.toInt_mul, nI_toInt hn]; exact Int.bmod_eq_of_le (by omega) (by omega)
theorem zs_div_nn {x : Int32} {n : Nat} (hn : n < 2 ^ 31) (hx : 0 ≤ x.toInt) : (x / nI n).toInt = x.toInt / (n : Int) := by
  rw [zs_div_toInt hn, Int.tdiv_eq_ediv_of_nonneg hx]
theorem zs_jt {a b : Int32} (ha : zv_in a 0 100000) (hb : zv_in b 0 359) : (a * nI 360 + b).toInt = a.toInt * 360 + b.toInt := by
  unfold zv_in at ha hb
  have e1 : (a * nI 360).toInt = a.toInt * 360 := zs_mulN (n := 360) (by decide) (by omega) (by omega)
  rw [zs_small (by omega) (by omega), e1]
theorem zs_divJ {a b : Int32} (ha : zv_in a 0 100000) (hb : zv_in b 0 359) : (a * nI 360 + b) / nI 360 = a := by
  have e := zs_jt ha hb
  unfold zv_in at ha hb
  rw [zs_eq, zs_div_nn (by decide) (by omega), e]
  omega
theorem zs_remJ {a b : Int32} (ha : zv_in a 0 100000) (hb : zv_in b 0 359) : (a * nI 360 + b) - (a * nI 360 + b) / nI 360 * nI 360 = b := by
  have e := zs_jt ha hb
  unfold zv_in at ha hb
  show zs_rem (a * nI 360 + b) (nI 360) = b
  rw [zs_eq, zs_rem_nn (by decide) (by decide) (by omega), e]
  omega
/-- a struck frame as the law keeps it: mouth, camera, light -/
def ql_ew (a b c : Int32) : Int32 := a + nI 1 + nI 16 * (b + nI 2000) + 65536 * c
theorem ql_ew_toInt {a b c : Int32} (ha : zv_in a (-1) 9) (hb : zv_in b (-1019) 1019) (hc : zv_in c 500 1000) : (ql_ew a b c).toInt = (a.toInt + 1) + 16 * (b.toInt + 2000) + 65536 * c.toInt := by
  unfold zv_in at ha hb hc
  have t1 : (nI 1).toInt = 1 := nI_toInt (by decide)
  have t2 : (nI 2000).toInt = 2000 := nI_toInt (by decide)
  have e1 : (a + nI 1).toInt = a.toInt + 1 := by rw [zs_small (by omega) (by omega), t1]
  have e2 : (b + nI 2000).toInt = b.toInt + 2000 := by rw [zs_small (by omega) (by omega), t2]
  have e3 : (nI 16 * (b + nI 2000)).toInt = 16 * (b.toInt + 2000) := by rw [zs_Nmul (n := 16) (by decide) (by omega) (by omega), e2]; rfl
  have e4 : ((65536 : Int32) * c).toInt = 65536 * c.toInt := by
    rw [show (65536 : Int32) = nI 65536 from rfl, zs_Nmul (n := 65536) (by decide) (by omega) (by omega)]; rfl
  unfold ql_ew
  rw [zs_small (by rw [zs_small (by omega) (by omega)]; omega) (by rw [zs_small (by omega) (by omega)]; omega), zs_small (by omega) (by omega), e1, e3, e4]
theorem ql_ew16 {a b c : Int32} (ha : zv_in a (-1) 9) (hb : zv_in b (-1019) 1019) (hc : zv_in c 500 1000) : ql_ew a b c - ql_ew a b c / nI 16 * nI 16 = a + nI 1 := by
  have e := ql_ew_toInt ha hb hc
  unfold zv_in at ha hb hc
  have t1 : (nI 1).toInt = 1 := nI_toInt (by decide)
  show zs_rem (ql_ew a b c) (nI 16) = a + nI 1
  rw [zs_eq, zs_rem_nn (by decide) (by decide) (by omega), e, zs_small (by omega) (by omega), t1]
  omega
theorem zs_add_sub {a b : Int32} : a + b - b = a := by rw [Int32.add_sub_cancel]
theorem ql_ewm {a b c : Int32} (ha : zv_in a (-1) 9) (hb : zv_in b (-1019) 1019) (hc : zv_in c 500 1000) : ql_ew a b c - ql_ew a b c / nI 16 * nI 16 - nI 1 = a := by
  rw [ql_ew16 ha hb hc, zs_add_sub]
theorem ql_ewc {a b c : Int32} (ha : zv_in a (-1) 9) (hb : zv_in b (-1019) 1019) (hc : zv_in c 500 1000) : ql_ew a b c / nI 16 - ql_ew a b c / nI 16 / nI 4096 * nI 4096 - nI 2000 = b := by
  have e := ql_ew_toInt ha hb hc
  unfold zv_in at ha hb hc
  have t1 : (nI 2000).toInt = 2000 := nI_toInt (by decide)
  have e2 : (ql_ew a b c / nI 16).toInt = (b.toInt + 2000) + 4096 * c.toInt := by
    rw [zs_div_nn (by decide) (by omega), e]; omega
  have e3 : (zs_rem (ql_ew a b c / nI 16) (nI 4096)).toInt = b.toInt + 2000 := by
    rw [zs_rem_nn (by decide) (by decide) (by omega), e2]; omega
  show zs_rem (ql_ew a b c / nI 16) (nI 4096) - nI 2000 = b
  rw [zs_eq, zs_smallS (by omega) (by omega), e3, t1]
  omega
theorem ql_ewl {a b c : Int32} (ha : zv_in a (-1) 9) (hb : zv_in b (-1019) 1019) (hc : zv_in c 500 1000) : ql_ew a b c / 65536 = c := by
  have e := ql_ew_toInt ha hb hc
  unfold zv_in at ha hb hc
  rw [show (65536 : Int32) = nI 65536 from rfl, zs_eq, zs_div_nn (by decide) (by omega), e]
  omega
/-- a spoken sound as the law keeps it -/
theorem ql_vw {a b : Int32} (ha : zv_in a 0 9) (hb : zv_in b 1 24) : (a + nI 16 * b).toInt = a.toInt + 16 * b.toInt := by
  unfold zv_in at ha hb
  have e1 : (nI 16 * b).toInt = 16 * b.toInt := by rw [zs_Nmul (n := 16) (by decide) (by omega) (by omega)]; rfl
  rw [zs_small (by omega) (by omega), e1]
theorem ql_vwd {a b : Int32} (ha : zv_in a 0 9) (hb : zv_in b 1 24) : (a + nI 16 * b) / nI 16 = b := by
  have e := ql_vw ha hb
  unfold zv_in at ha hb
  rw [zs_eq, zs_div_nn (by decide) (by omega), e]
  omega
theorem ql_vwr {a b : Int32} (ha : zv_in a 0 9) (hb : zv_in b 1 24) : (a + nI 16 * b) - (a + nI 16 * b) / nI 16 * nI 16 = a := by
  have e := ql_vw ha hb
  unfold zv_in at ha hb
  show zs_rem (a + nI 16 * b) (nI 16) = a
  rw [zs_eq, zs_rem_nn (by decide) (by decide) (by omega), e]
  omega
/-! ===== the law's arrays hold the state ===== -/
def ql_S (sh : zm_Sh) : Prop := sh 100 = some (1, 2) ∧ sh 101 = some (1, 7) ∧ sh 102 = some (1, 21) ∧ sh 103 = some (1, 22) ∧ sh 104 = some (1, 4) ∧ sh 105 = some (1, 55) ∧ sh 106 = some (1, 19) ∧ sh 107 = some (1, 54) ∧ sh 108 = some (1, 58) ∧ sh 109 = some (1, 7)
def ql_hw (S : zS) (i : Nat) : Nat := zv_pu S i + 4 * zv_fr S i + 32 * zv_st S i + 128 * zn (S 13 i + 1) + 1024 * zn (S 14 i + 1) + 8192 * zv_sk S i
def ql_iw (S : zS) : Nat := zn (S 17 0) + 2 * zn (S 17 1) + 4 * zn (S 17 2) + 8 * zn (S 17 3) + 16 * zn (S 17 4)
/-- the film's shots as digits: k of them from the q-th on -/
def ql_dw (S : zS) : Nat → Nat → Nat
  | 0, _ => 0
  | k + 1, q => (zv_fl S q + 1) + 10 * ql_dw S k (q + 1)
def ql_cw (x : Int32) : Int32 := if x = 100000 then 0 else x + nI 1000
def ql_p (S : zS) (mi : zm_Mi) : Prop := ∀ p, p < zv_np S → mi 100 p = S 1 p
def ql_j (S : zS) (mi : zm_Mi) : Prop := ∀ p j, p < 2 → j < 3 → mi 101 (3 * p + j) = S 3 (6 * p + j) * nI 360 + S 2 (6 * p + j)
def ql_m (S : zS) (mi : zm_Mi) : Prop := ∀ p s, p < 2 → s < 10 → mi 102 (10 * p + s) = S 4 (10 * p + s)
def ql_v (S : zS) (mi : zm_Mi) : Prop := (∀ w, w < 3 → mi 103 (18 + w) = S 6 w) ∧ ∀ w q, w < 3 → q < 6 → mi 103 (6 * w + q) = S 7 (12 * w + q) + nI 16 * S 8 (12 * w + q)
def ql_h (S : zS) (mi : zm_Mi) : Prop := ∀ i, i < zv_ns S → mi 104 i = nI (ql_hw S i)
def ql_k (S : zS) (mi : zm_Mi) : Prop := ∀ i j f, i < 3 → j < 3 → f < 6 → mi 105 (18 * i + 6 * j + f) = S 18 (48 * (6 * i + j) + f) + nI 1
def ql_c (S : zS) (mi : zm_Mi) : Prop := ∀ i f, i < 3 → f < 6 → mi 106 (6 * i + f) = ql_cw (S 19 (48 * i + f))
def ql_o (S : zS) (mi : zm_Mi) : Prop := ∀ i j f, i < zv_ns S → j < zv_jn S (zv_pu S i) → f < zv_sk S i → mi 107 (18 * i + 6 * j + f) = S 22 (48 * (6 * i + j) + f)
def ql_e (S : zS) (mi : zm_Mi) : Prop := (∀ i f, i < zv_ns S → f < zv_sk S i → mi 108 (6 * i + f) = ql_ew (S 23 (48 * i + f)) (S 25 (48 * i + f)) (S 26 (48 * i + f)) ∧ mi 108 (18 + (6 * i + f)) = S 27 (48 * i + f) ∧ mi 108 (36 + (6 * i + f)) = S 24 (48 * i + f)) ∧ ∀ i, i < 3 → mi 108 (54 + i) = S 16 i
def ql_g (S : zS) (mi : zm_Mi) : Prop := mi 109 0 = S 0 0 ∧ mi 109 1 = S 5 0 ∧ mi 109 2 = S 9 0 ∧ mi 109 3 = S 20 0 ∧ mi 109 4 = S 21 0 ∧ mi 109 5 = nI (ql_iw S) ∧ mi 109 6 = nI (ql_dw S (zv_nf S) 0)
def ql_N (S : zS) (sh : zm_Sh) (mi : zm_Mi) : Prop := ql_S sh ∧ ql_p S mi ∧ ql_j S mi ∧ ql_m S mi ∧ ql_v S mi ∧ ql_h S mi ∧ ql_k S mi ∧ ql_c S mi ∧ ql_o S mi ∧ ql_e S mi ∧ ql_g S mi
/-- the law's own bounds behind n steps -/
def ql_Bp (S : zS) : Prop := zv_np S ≤ 2 ∧ ∀ p, p < zv_np S → zv_jn S p ≤ 3
def ql_Bv (S : zS) : Prop := zv_nv S ≤ 3 ∧ ∀ v, v ≤ 6 → zv_sc S v ≤ 6
def ql_Bs (S : zS) : Prop := zv_ns S ≤ 3 ∧ ∀ i, i < zv_ns S → zv_fr S i ≤ 6
def ql_Bg (n : Nat) (S : zS) : Prop := zv_in (S 20 0) 0 20 ∧ zv_in (S 21 0) 0 n
def ql_Bj (n : Nat) (S : zS) : Prop := ∀ a, zv_in (S 3 a) 0 (180 * n)
def ql_Bm (S : zS) : Prop := ∀ a, zv_in (S 4 a) 0 9
def ql_Be (S : zS) : Prop := ∀ i f, i < zv_ns S → f < zv_sk S i → zv_in (S 23 (48 * i + f)) (-1) 9 ∧ zv_in (S 25 (48 * i + f)) (-1019) 1019 ∧ zv_in (S 26 (48 * i + f)) 500 1000
def ql_B (n : Nat) (S : zS) : Prop := ql_Bp S ∧ ql_Bv S ∧ ql_Bs S ∧ ql_Bg n S ∧ ql_Bj n S ∧ ql_Bm S ∧ ql_Be S
def ql_I (n : Nat) (S : zS) (sh : zm_Sh) (mi : zm_Mi) : Prop := n ≤ 64 ∧ zW S ∧ ql_B n S ∧ ql_N S sh mi
def ql_J (n : Nat) (S : zS) (sh : zm_Sh) (mi : zm_Mi) (mr : zm_Mr) : Prop := ql_I n S sh mi ∧ zR S sh mi mr
section ZL2
variable {n : Nat} {S : zS} {sh s : zm_Sh} {mi i : zm_Mi} {mr m : zm_Mr}
theorem ql_s2 (h : ql_J n S sh mi mr) : sh 2 = some (0, 5) := h.2.1.1
theorem ql_s100 (h : ql_I n S sh mi) : sh 100 = some (1, 2) := h.2.2.2.1.1
theorem ql_s101 (h : ql_I n S sh mi) : sh 101 = some (1, 7) := h.2.2.2.1.2.1
theorem ql_s102 (h : ql_I n S sh mi) : sh 102 = some (1, 21) := h.2.2.2.1.2.2.1
theorem ql_s103 (h : ql_I n S sh mi) : sh 103 = some (1, 22) := h.2.2.2.1.2.2.2.1
theorem ql_s104 (h : ql_I n S sh mi) : sh 104 = some (1, 4) := h.2.2.2.1.2.2.2.2.1
theorem ql_s105 (h : ql_I n S sh mi) : sh 105 = some (1, 55) := h.2.2.2.1.2.2.2.2.2.1
theorem ql_s106 (h : ql_I n S sh mi) : sh 106 = some (1, 19) := h.2.2.2.1.2.2.2.2.2.2.1
theorem ql_s107 (h : ql_I n S sh mi) : sh 107 = some (1, 54) := h.2.2.2.1.2.2.2.2.2.2.2.1
theorem ql_s108 (h : ql_I n S sh mi) : sh 108 = some (1, 58) := h.2.2.2.1.2.2.2.2.2.2.2.2.1
theorem ql_s109 (h : ql_I n S sh mi) : sh 109 = some (1, 7) := h.2.2.2.1.2.2.2.2.2.2.2.2.2
theorem ql_Np (h : ql_I n S sh mi) : ql_p S mi := h.2.2.2.2.1
theorem ql_Nj (h : ql_I n S sh mi) : ql_j S mi := h.2.2.2.2.2.1
theorem ql_Nm (h : ql_I n S sh mi) : ql_m S mi := h.2.2.2.2.2.2.1
theorem ql_Nv (h : ql_I n S sh mi) : ql_v S mi := h.2.2.2.2.2.2.2.1
theorem ql_Nh (h : ql_I n S sh mi) : ql_h S mi := h.2.2.2.2.2.2.2.2.1
theorem ql_Nk (h : ql_I n S sh mi) : ql_k S mi := h.2.2.2.2.2.2.2.2.2.1
theorem ql_Nc (h : ql_I n S sh mi) : ql_c S mi := h.2.2.2.2.2.2.2.2.2.2.1
theorem ql_No (h : ql_I n S sh mi) : ql_o S mi := h.2.2.2.2.2.2.2.2.2.2.2.1
theorem ql_Ne (h : ql_I n S sh mi) : ql_e S mi := h.2.2.2.2.2.2.2.2.2.2.2.2.1
theorem ql_Ng (h : ql_I n S sh mi) : ql_g S mi := h.2.2.2.2.2.2.2.2.2.2.2.2.2
theorem ql_W (h : ql_I n S sh mi) : zW S := h.2.1
theorem ql_BB (h : ql_I n S sh mi) : ql_B n S := h.2.2.1
theorem ql_64 (h : ql_I n S sh mi) : n ≤ 64 := h.1
/-- numbers of a shot -/
theorem ql_num (h : ql_I n S sh mi) : zv_np S ≤ 2 ∧ zv_nv S ≤ 3 ∧ zv_ns S ≤ 3 ∧ zv_nf S ≤ 8 := ⟨h.2.2.1.1.1, h.2.2.1.2.1.1, h.2.2.1.2.2.1.1, h.2.1.2.2.2.2.2.2.1⟩
theorem ql_shot (h : ql_I n S sh mi) {a : Nat} (ha : a < zv_ns S) : a < 3 ∧ zv_pu S a < zv_np S ∧ zv_pu S a < 2 ∧ 1 ≤ zv_jn S (zv_pu S a) ∧ zv_jn S (zv_pu S a) ≤ 3 ∧ 1 ≤ zv_fr S a ∧ zv_fr S a ≤ 6 ∧ 1 ≤ zv_st S a ∧ zv_st S a ≤ 2 ∧ zv_sk S a ≤ zv_fr S a ∧ zn (S 13 a + 1) ≤ 3 ∧ zn (S 14 a + 1) ≤ 5 := by
  obtain ⟨b1, b2, b3, b4, b5, b6, b7, b8, b9, b10, b11, b12, b13⟩ := h.2.1.2.2.1.2.2.1 a ha
  have hB := h.2.2.1
  have n1 := hB.1.1
  have n2 := hB.2.1.1
  have n3 := hB.2.2.1.1
  have jn1 := (h.2.1.1.2.2.1 _ b2).2.1
  have jn3 := hB.1.2 _ b2
  have fr6 := hB.2.2.1.2 a ha
  refine ⟨by omega, b2, by omega, jn1, jn3, b4, fr6, b7, b8, b12, ?_, ?_⟩
  · rcases b9 with e | e
    · rw [e]; decide
    · obtain ⟨w, hw, e2⟩ := zs_ix_of e (by omega)
      have z9 : zn (nI (w + 1)) = w + 1 := nI_clamp (n := w + 1) (by omega)
      rw [e2, nI_1, z9]; omega
  · rcases b10 with e | e
    · rw [e]; decide
    · obtain ⟨w, hw, e2⟩ := zs_ix_of e (by omega)
      have z9 : zn (nI (w + 1)) = w + 1 := nI_clamp (n := w + 1) (by omega)
      rw [e2, nI_1, z9]; omega
theorem ql_rd_h (h : ql_I n S sh mi) {a : Nat} (ha : a < zv_ns S) : mi 104 a = nI (ql_hw S a) := ql_Nh h a ha
theorem ql_hw_lt (h : ql_I n S sh mi) {a : Nat} (ha : a < zv_ns S) : ql_hw S a < 60000 := by
  obtain ⟨q1, q2, q3, q4, q5, q6, q7, q8, q9, q10, q11, q12⟩ := ql_shot h ha
  unfold ql_hw
  omega
theorem ql_hw_pu (h : ql_I n S sh mi) {a : Nat} (ha : a < zv_ns S) : ql_hw S a % 4 = zv_pu S a := by
  obtain ⟨q1, q2, q3, q4, q5, q6, q7, q8, q9, q10, q11, q12⟩ := ql_shot h ha
  unfold ql_hw
  omega
theorem ql_hw_fr (h : ql_I n S sh mi) {a : Nat} (ha : a < zv_ns S) : ql_hw S a / 4 % 8 = zv_fr S a := by
  obtain ⟨q1, q2, q3, q4, q5, q6, q7, q8, q9, q10, q11, q12⟩ := ql_shot h ha
  unfold ql_hw
  omega
theorem ql_hw_st (h : ql_I n S sh mi) {a : Nat} (ha : a < zv_ns S) : ql_hw S a / 32 % 4 = zv_st S a := by
  obtain ⟨q1, q2, q3, q4, q5, q6, q7, q8, q9, q10, q11, q12⟩ := ql_shot h ha
  unfold ql_hw
  omega
theorem ql_hw_vo (h : ql_I n S sh mi) {a : Nat} (ha : a < zv_ns S) : ql_hw S a / 128 % 8 = zn (S 13 a + 1) := by
  obtain ⟨q1, q2, q3, q4, q5, q6, q7, q8, q9, q10, q11, q12⟩ := ql_shot h ha
  unfold ql_hw
  omega
theorem ql_hw_an (h : ql_I n S sh mi) {a : Nat} (ha : a < zv_ns S) : ql_hw S a / 1024 % 8 = zn (S 14 a + 1) := by
  obtain ⟨q1, q2, q3, q4, q5, q6, q7, q8, q9, q10, q11, q12⟩ := ql_shot h ha
  unfold ql_hw
  omega
theorem ql_hw_sk (h : ql_I n S sh mi) {a : Nat} (ha : a < zv_ns S) : ql_hw S a / 8192 = zv_sk S a := by
  obtain ⟨q1, q2, q3, q4, q5, q6, q7, q8, q9, q10, q11, q12⟩ := ql_shot h ha
  unfold ql_hw
  omega
/-- voice and animator out of the word: one less -/
theorem ql_vo (h : ql_I n S sh mi) {a : Nat} (ha : a < zv_ns S) : nI (zn (S 13 a + 1)) - nI 1 = S 13 a := by
  have n2 := h.2.2.1.2.1.1
  obtain ⟨b1, b2, b3, b4, b5, b6, b7, b8, b9, -⟩ := h.2.1.2.2.1.2.2.1 a ha
  rcases b9 with e | e
  · rw [e]; decide
  · obtain ⟨w, hw, e2⟩ := zs_ix_of e (by omega)
    have z9 : zn (nI (w + 1)) = w + 1 := nI_clamp (n := w + 1) (by omega)
    rw [e2, nI_1, z9, pk_sub (by omega), Nat.add_sub_cancel]
theorem ql_an (h : ql_I n S sh mi) {a : Nat} (ha : a < zv_ns S) : nI (zn (S 14 a + 1)) - nI 1 = S 14 a := by
  obtain ⟨b1, b2, b3, b4, b5, b6, b7, b8, b9, b10, -⟩ := h.2.1.2.2.1.2.2.1 a ha
  rcases b10 with e | e
  · rw [e]; decide
  · obtain ⟨w, hw, e2⟩ := zs_ix_of e (by omega)
    have z9 : zn (nI (w + 1)) = w + 1 := nI_clamp (n := w + 1) (by omega)
    rw [e2, nI_1, z9, pk_sub (by omega), Nat.add_sub_cancel]
theorem ql_N_same (h : ql_N S sh mi) (hs : ∀ l, 100 ≤ l → l < 110 → s l = sh l ∧ i l = mi l) : ql_N S s i := by
  obtain ⟨h0, h1, h2, h3, h4, h5, h6, h7, h8, h9, h10⟩ := h
  unfold ql_N ql_S ql_p ql_j ql_m ql_v ql_h ql_k ql_c ql_o ql_e ql_g
  rw [(hs 100 (by decide) (by decide)).1, (hs 101 (by decide) (by decide)).1, (hs 102 (by decide) (by decide)).1, (hs 103 (by decide) (by decide)).1, (hs 104 (by decide) (by decide)).1, (hs 105 (by decide) (by decide)).1, (hs 106 (by decide) (by decide)).1, (hs 107 (by decide) (by decide)).1, (hs 108 (by decide) (by decide)).1, (hs 109 (by decide) (by decide)).1]
  rw [(hs 100 (by decide) (by decide)).2, (hs 101 (by decide) (by decide)).2, (hs 102 (by decide) (by decide)).2, (hs 103 (by decide) (by decide)).2, (hs 104 (by decide) (by decide)).2, (hs 105 (by decide) (by decide)).2, (hs 106 (by decide) (by decide)).2, (hs 107 (by decide) (by decide)).2, (hs 108 (by decide) (by decide)).2, (hs 109 (by decide) (by decide)).2]
  exact ⟨h0, h1, h2, h3, h4, h5, h6, h7, h8, h9, h10⟩
/-- behind a question -/
theorem ql_J_ask (h : ql_J n S sh mi mr) (hR : zR S s i m) (hS : zr_same zr_out sh mi mr s i m) : ql_J n S s i m :=
  ⟨⟨h.1.1, h.1.2.1, h.1.2.2.1, ql_N_same h.1.2.2.2 (fun l h1 h2 => ⟨(hS l (Or.inr ⟨by omega, by omega⟩)).1, (hS l (Or.inr ⟨by omega, by omega⟩)).2.1⟩)⟩, hR⟩
end ZL2
/-! bits -/
theorem ql_bit : ∀ x, x < 32 → ∀ a, a < 6 → (nI x >>> (nI a &&& 31)) &&& nI 1 = nI (x / 2 ^ a % 2) := by decide +kernel
theorem ql_bor : ∀ x, x < 32 → ∀ a, a < 5 → nI x ||| (nI 1 <<< (nI a &&& 31)) = nI (if x / 2 ^ a % 2 = 1 then x else x + 2 ^ a) := by decide +kernel
theorem ql_band : ∀ x, x < 32 → ∀ a, a < 5 → nI x &&& ((nI 1 <<< (nI a &&& 31)) ^^^ (-1)) = nI (if x / 2 ^ a % 2 = 1 then x - 2 ^ a else x) := by decide +kernel
