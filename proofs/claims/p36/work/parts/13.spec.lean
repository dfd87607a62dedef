/-! ===== the state of the film: rows of numbers, by the reference's fields ===== -/
abbrev zS : Type := Nat → Nat → Int32
abbrev zn (x : Int32) : Nat := x.toNatClampNeg
abbrev zv_np (S : zS) : Nat := zn (S 0 0)
abbrev zv_jn (S : zS) (p : Nat) : Nat := zn (S 1 p)
abbrev zv_nv (S : zS) : Nat := zn (S 5 0)
abbrev zv_sc (S : zS) (v : Nat) : Nat := zn (S 6 v)
abbrev zv_ns (S : zS) : Nat := zn (S 9 0)
abbrev zv_pu (S : zS) (i : Nat) : Nat := zn (S 10 i)
abbrev zv_fr (S : zS) (i : Nat) : Nat := zn (S 11 i)
abbrev zv_st (S : zS) (i : Nat) : Nat := zn (S 12 i)
abbrev zv_sk (S : zS) (i : Nat) : Nat := zn (S 15 i)
abbrev zv_nf (S : zS) : Nat := zn (S 28 0)
abbrev zv_fl (S : zS) (k : Nat) : Nat := zn (S 29 k)
abbrev zv_in (x : Int32) (a b : Int) : Prop := a ≤ x.toInt ∧ x.toInt ≤ b
/-- the state's own order -/
def zW_p (S : zS) : Prop := S 0 0 = nI (zv_np S) ∧ zv_np S ≤ 5 ∧ (∀ p, p < zv_np S → S 1 p = nI (zv_jn S p) ∧ 1 ≤ zv_jn S p ∧ zv_jn S p ≤ 6) ∧ (∀ a, zv_in (S 2 a) 0 359) ∧ (∀ a, 6 * zv_np S ≤ a → S 2 a = 0 ∧ S 3 a = 0) ∧ ∀ a, 10 * zv_np S ≤ a → S 4 a = 0
def zW_v (S : zS) : Prop := S 5 0 = nI (zv_nv S) ∧ zv_nv S ≤ 6 ∧ (∀ v, v ≤ 6 → S 6 v = nI (zv_sc S v) ∧ zv_sc S v ≤ 12) ∧ (∀ v, zv_nv S < v → v ≤ 6 → S 6 v = 0) ∧ ∀ v k, v ≤ 6 → k < zv_sc S v → zv_in (S 7 (12 * v + k)) 0 9 ∧ zv_in (S 8 (12 * v + k)) 1 24
def zW_s (S : zS) : Prop := S 9 0 = nI (zv_ns S) ∧ zv_ns S ≤ 8 ∧ (∀ i, i < zv_ns S → S 10 i = nI (zv_pu S i) ∧ zv_pu S i < zv_np S ∧ S 11 i = nI (zv_fr S i) ∧ 1 ≤ zv_fr S i ∧ zv_fr S i ≤ 48 ∧ S 12 i = nI (zv_st S i) ∧ 1 ≤ zv_st S i ∧ zv_st S i ≤ 2 ∧ (S 13 i = -1 ∨ zs_ix (S 13 i) (zv_nv S)) ∧ (S 14 i = -1 ∨ zs_ix (S 14 i) 5) ∧ S 15 i = nI (zv_sk S i) ∧ zv_sk S i ≤ zv_fr S i ∧ (0 < zv_sk S i → zs_ix (S 14 i) 5)) ∧
  (∀ i, zv_ns S ≤ i → S 15 i = 0 ∧ S 16 i = 0)
def zW_k (S : zS) : Prop := (∀ x, S 18 x = -1 ∨ zv_in (S 18 x) 0 359) ∧ (∀ x, 288 * zv_ns S ≤ x → S 18 x = -1) ∧ (∀ i j f, i < zv_ns S → j < 6 → zv_fr S i ≤ f → f < 48 → S 18 (48 * (6 * i + j) + f) = -1) ∧
  (∀ x, S 19 x = 100000 ∨ zv_in (S 19 x) (-999) 999) ∧ (∀ x, 48 * zv_ns S ≤ x → S 19 x = 100000) ∧ ∀ i f, i < zv_ns S → zv_fr S i ≤ f → f < 48 → S 19 (48 * i + f) = 100000
def zW_r (S : zS) : Prop := ∀ i f, i < zv_ns S → f < zv_sk S i → zv_in (S 24 (48 * i + f)) (-999) 999 ∧ zv_in (S 26 (48 * i + f)) 500 1000000000
def zW_f (S : zS) : Prop := S 28 0 = nI (zv_nf S) ∧ zv_nf S ≤ 8 ∧ (∀ k, k < zv_nf S → S 29 k = nI (zv_fl S k) ∧ zv_fl S k < zv_ns S) ∧ (∀ a b, a < zv_nf S → b < zv_nf S → zv_fl S a = zv_fl S b → a = b) ∧ ∀ a, S 17 a = 0 ∨ S 17 a = 1
def zW (S : zS) : Prop := zW_p S ∧ zW_v S ∧ zW_s S ∧ zW_k S ∧ zW_r S ∧ zW_f S
/-- sums of the first k -/
def zs_sum (f : Nat → Int32) : Nat → Int32
  | 0 => 0
  | k + 1 => zs_sum f k + f k
/-! what the sheet tells -/
def zp_deg (S : zS) (i j f : Nat) : Int32 := zs_val zs_mixR (fun x => S 18 (48 * (6 * i + j) + x)) (zs_up (fun x => ¬ S 18 (48 * (6 * i + j) + x) = -1) (zs_pf (zv_st S i) f + 1)) (zs_fst (fun x => ¬ S 18 (48 * (6 * i + j) + x) = -1) nI (48 - zs_pf (zv_st S i) f) (zs_pf (zv_st S i) f)) (nI (zs_pf (zv_st S i) f))
def zp_place (S : zS) (i f : Nat) : Int32 := zs_val zs_mixC (fun x => S 19 (48 * i + x)) (zs_up (fun x => ¬ S 19 (48 * i + x) = 100000) (f + 1)) (zs_fst (fun x => ¬ S 19 (48 * i + x) = 100000) nI (48 - f) f) (nI f)
def zp_mouth (S : zS) (i f : Nat) : Int32 := if S 13 i = -1 then -1 else zs_fst (fun k => nI (zs_pf (zv_st S i) f) < zs_sum (fun q => S 8 (12 * zn (S 13 i) + q)) (k + 1)) (fun k => S 7 (12 * zn (S 13 i) + k)) (zv_sc S (zn (S 13 i))) 0
def zp_last (S : zS) (i : Nat) : Int32 := if zv_sk S i = 0 then -1 else S 23 (48 * i + (zv_sk S i - 1))
def zp_want (S : zS) (i f : Nat) : Int32 := if zp_mouth S i f = zp_last S i then -1 else zp_mouth S i f
def zp_light (S : zS) : Int32 := if nI 500 < nI 1000 - S 21 0 / nI 3 then nI 1000 - S 21 0 / nI 3 else nI 500
abbrev zp_on (S : zS) (i : Nat) : Prop := 0 < zv_sk S i ∧ ¬ zv_fr S i ≤ zv_sk S i
abbrev zp_held (S : zS) (i f : Nat) : Prop := ¬ zs_pf (zv_st S i) f = f
/-! ===== the class's objects hold the state ===== -/
def zR_m (S : zS) (sh : zm_Sh) (mi : zm_Mi) (mr : zm_Mr) : Prop := sh 2 = some (0, 5) ∧ mr 2 0 = some 3 ∧ mr 2 2 = some 4 ∧ mr 2 4 = some (300 + 3 * zv_nv S) ∧ mr 2 5 = some 5 ∧ mr 2 7 = some 6 ∧ mr 2 8 = some 7 ∧ sh 3 = some (4, 5) ∧ sh 4 = some (7, 6) ∧ sh 5 = some (5, 8) ∧ sh 6 = some (2, 5) ∧ sh 7 = some (1, 8) ∧
  mi 2 1 = S 0 0 ∧ mi 2 3 = S 5 0 ∧ mi 2 6 = S 9 0 ∧ mi 2 9 = S 28 0 ∧ mi 2 10 = S 20 0 ∧ mi 2 11 = S 21 0 ∧ (∀ a, a < 5 → mi 6 a = S 17 a) ∧ ∀ k, k < zv_nf S → mi 7 k = S 29 k
def zR_p (S : zS) (sh : zm_Sh) (mi : zm_Mi) (mr : zm_Mr) (p : Nat) : Prop := mr 3 p = some (200 + 4 * p) ∧ zr_P sh mr (200 + 4 * p) (zv_jn S p) ∧ mi (200 + 4 * p) 0 = S 1 p ∧ (∀ j, j < zv_jn S p → mi (200 + 4 * p + 1) j = S 2 (6 * p + j)) ∧ (∀ j, j < zv_jn S p → mi (200 + 4 * p + 2) j = S 3 (6 * p + j)) ∧ ∀ s, s < 10 → mi (200 + 4 * p + 3) s = S 4 (10 * p + s)
def zR_v (S : zS) (sh : zm_Sh) (mi : zm_Mi) (mr : zm_Mr) (v : Nat) : Prop := zr_V sh mr (300 + 3 * v) ∧ mi (300 + 3 * v) 2 = S 6 v ∧ (∀ k, k < zv_sc S v → mi (300 + 3 * v + 1) k = S 7 (12 * v + k)) ∧ ∀ k, k < zv_sc S v → mi (300 + 3 * v + 2) k = zs_sum (fun q => S 8 (12 * v + q)) (k + 1)
def zR_k (S : zS) (mi : zm_Mi) (i : Nat) : Prop := (∀ j, j < zv_jn S (zv_pu S i) → mi (1000 + 100 * i + 20 + 3 * j) 0 = nI 1) ∧ (∀ j f, j < zv_jn S (zv_pu S i) → f < zv_fr S i → ((mi (1000 + 100 * i + 20 + 3 * j + 2) f = 0 ↔ S 18 (48 * (6 * i + j) + f) = -1) ∧ (¬ S 18 (48 * (6 * i + j) + f) = -1 → mi (1000 + 100 * i + 20 + 3 * j + 1) f = S 18 (48 * (6 * i + j) + f)))) ∧
  mi (1000 + 100 * i + 2) 0 = nI 0 ∧ ∀ f, f < zv_fr S i → ((mi (1000 + 100 * i + 2 + 2) f = 0 ↔ S 19 (48 * i + f) = 100000) ∧ (¬ S 19 (48 * i + f) = 100000 → mi (1000 + 100 * i + 2 + 1) f = S 19 (48 * i + f)))
def zR_r (S : zS) (mi : zm_Mi) (i : Nat) : Prop := ∀ f, f < zv_sk S i → mi (1000 + 100 * i + 7) f = S 23 (48 * i + f) ∧ mi (1000 + 100 * i + 8) f = S 25 (48 * i + f) ∧ mi (1000 + 100 * i + 9) f = S 26 (48 * i + f) ∧ mi (1000 + 100 * i + 10) f = S 27 (48 * i + f) ∧ mi (1000 + 100 * i + 11) f = S 24 (48 * i + f) ∧ ∀ j, j < zv_jn S (zv_pu S i) → mi (1000 + 100 * i + 40 + j) f = S 22 (48 * (6 * i + j) + f)
def zR_s (S : zS) (sh : zm_Sh) (mi : zm_Mi) (mr : zm_Mr) (i : Nat) : Prop := mr 5 i = some (1000 + 100 * i) ∧ zr_S sh mr (1000 + 100 * i) (200 + 4 * zv_pu S i) (zv_jn S (zv_pu S i)) (zv_fr S i) ∧ mi (1000 + 100 * i) 1 = S 11 i ∧ mi (1000 + 100 * i) 2 = S 12 i ∧ mi (1000 + 100 * i) 3 = S 13 i ∧ mi (1000 + 100 * i) 4 = S 14 i ∧ mi (1000 + 100 * i) 5 = S 16 i ∧ mi (1000 + 100 * i + 5) 6 = S 15 i ∧ zR_k S mi i ∧ zR_r S mi i
def zR_free (S : zS) (sh : zm_Sh) : Prop := (∀ l, 200 + 4 * zv_np S ≤ l → l < 300 → sh l = none) ∧ (∀ l, 300 + 3 * (zv_nv S + 1) ≤ l → l < 1000 → sh l = none) ∧ ∀ l, 1000 + 100 * zv_ns S ≤ l → sh l = none
def zR (S : zS) (sh : zm_Sh) (mi : zm_Mi) (mr : zm_Mr) : Prop := zR_m S sh mi mr ∧ (∀ p, p < zv_np S → zR_p S sh mi mr p) ∧ ((∀ v, v < zv_nv S → mr 4 v = some (300 + 3 * v)) ∧ ∀ v, v ≤ zv_nv S → zR_v S sh mi mr v) ∧ (∀ i, i < zv_ns S → zR_s S sh mi mr i) ∧ zR_free S sh
/-- the class's labels -/
def zr_cl (l : Nat) : Prop := (2 ≤ l ∧ l ≤ 7) ∨ 200 ≤ l
/-- the reference's -/
def zr_ml (l : Nat) : Prop := l = 1 ∨ (100 ≤ l ∧ l < 131)
def zr_same (P : Nat → Prop) (sh : zm_Sh) (mi : zm_Mi) (mr : zm_Mr) (sh' : zm_Sh) (mi' : zm_Mi) (mr' : zm_Mr) : Prop := ∀ l, P l → sh' l = sh l ∧ mi' l = mi l ∧ mr' l = mr l
theorem zr_same.rfl' {P : Nat → Prop} {sh : zm_Sh} {mi : zm_Mi} {mr : zm_Mr} : zr_same P sh mi mr sh mi mr := fun _ _ => ⟨rfl, rfl, rfl⟩
