/-! ===== the reference strikes: the states on the way ===== -/
theorem zu_comm {α : Type} {f : Nat → Nat → α} {r c r' c' : Nat} {x x' : α} (h : r ≠ r') : zm_u2 (zm_u2 f r c x) r' c' x' = zm_u2 (zm_u2 f r' c' x') r c x := by
  funext a b
  unfold zm_u2
  by_cases h1 : a = r ∧ b = c
  · rw [if_neg (fun q : a = r' ∧ b = c' => h (h1.1.symm.trans q.1)), if_pos h1, if_pos h1]
  · rw [if_neg h1, if_neg h1]
theorem zt_pj_comm {T : zS} {r c p i j f : Nat} {x d : Int32} (h2 : r ≠ 2) (h3 : r ≠ 3) (h22 : r ≠ 22) : zt_pj (zm_u2 T r c x) p i j f d = zm_u2 (zt_pj T p i j f d) r c x := by
  unfold zt_pj
  rw [show zm_u2 T r c x 3 = T 3 from zm_u2r h3.symm, show zm_u2 T r c x 2 = T 2 from zm_u2r h2.symm, zu_comm h3, zu_comm h2, zu_comm h22]
theorem zt_pose_comm {S : zS} {r c p i f : Nat} {x : Int32} (h2 : r ≠ 2) (h3 : r ≠ 3) (h12 : r ≠ 12) (h18 : r ≠ 18) (h22 : r ≠ 22) : ∀ j, zt_pose (zm_u2 S r c x) p i f j = zm_u2 (zt_pose S p i f j) r c x
  | 0 => rfl
  | j + 1 => by
    show zt_pj (zt_pose (zm_u2 S r c x) p i f j) p i j f (zp_deg (zm_u2 S r c x) i j f) = zm_u2 (zt_pj (zt_pose S p i f j) p i j f (zp_deg S i j f)) r c x
    rw [zt_pose_comm h2 h3 h12 h18 h22 j, zt_pj_comm h2 h3 h22, zp_deg_c (S := S) (zm_u2r h12.symm) (zm_u2r h18.symm)]
theorem zt_pj_w {S : zS} (hW : zW S) {p i j f : Nat} {d : Int32} (hp : p < zv_np S) (hj : j < 6) (hd : zv_in d 0 359) : zW (zt_pj S p i j f d) := by
  unfold zt_pj
  generalize S 3 (6 * p + j) + zs_abs (zs_sw (S 2 (6 * p + j)) d) = x
  have w1 : zW (zm_u2 S 3 (6 * p + j) x) := zW_set hW (by unfold zs_str; omega) (fun h => by omega) (fun _ => by omega) (fun h => by omega) (fun h => by omega) (fun h => by omega) (fun h => by omega) (by omega) (fun h => by omega)
  have hn1 : 6 * p + j < 6 * zv_np (zm_u2 S 3 (6 * p + j) x) := by
    show 6 * p + j < 6 * zn (zm_u2 S 3 (6 * p + j) x 0 0)
    rw [show zm_u2 S 3 (6 * p + j) x 0 = S 0 from zm_u2r (by decide)]
    have : 6 * p + j < 6 * zv_np S := by omega
    exact this
  have w2 : zW (zm_u2 (zm_u2 S 3 (6 * p + j) x) 2 (6 * p + j) d) := zW_set w1 (by unfold zs_str; omega) (fun h => ⟨hd, hn1⟩) (fun h => by omega) (fun h => by omega) (fun h => by omega) (fun h => by omega) (fun h => by omega) (by omega) (fun h => by omega)
  exact zW_set w2 (by unfold zs_str; omega) (fun h => by omega) (fun h => by omega) (fun h => by omega) (fun h => by omega) (fun h => by omega) (fun h => by omega) (by omega) (fun h => by omega)
theorem zt_pose_w {S : zS} (hW : zW S) {p i f : Nat} (hp : p < zv_np S) (hf : f < 48) : ∀ j, j ≤ 6 → zW (zt_pose S p i f j)
  | 0, _ => hW
  | j + 1, h => by
    have ih := zt_pose_w hW (i := i) hp hf j (by omega)
    refine zt_pj_w ih ?_ (by omega) (zp_deg_in hW i j f hf)
    show p < zn (zt_pose S p i f j 0 0)
    rw [zt_pose_r S p i f (by decide) (by decide) (by decide) j]
    exact hp
theorem zp_mouth_c {S T : zS} {i f : Nat} (h6 : T 6 = S 6) (h7 : T 7 = S 7) (h8 : T 8 = S 8) (h12 : T 12 = S 12) (h13 : T 13 = S 13) : zp_mouth T i f = zp_mouth S i f := by
  unfold zp_mouth zv_st zv_sc
  rw [h6, h7, h8, h12, h13]
theorem zp_place_c {S T : zS} {i f : Nat} (h19 : T 19 = S 19) : zp_place T i f = zp_place S i f := by
  unfold zp_place
  rw [h19]
theorem zp_light_c {S T : zS} (h21 : T 21 = S 21) : zp_light T = zp_light S := by
  unfold zp_light
  rw [h21]
theorem zp_wnt_c {S T : zS} {i : Nat} (h6 : T 6 = S 6) (h7 : T 7 = S 7) (h8 : T 8 = S 8) (h12 : T 12 = S 12) (h13 : T 13 = S 13) (h15 : T 15 = S 15) (h23 : T 23 = S 23) : zp_wnt T i = zp_wnt S i := by
  unfold zp_wnt zp_want zp_held zp_last
  rw [zp_mouth_c h6 h7 h8 h12 h13]
  unfold zv_sk zv_st
  rw [h12, h15, h23]
def zt_h2 (S : zS) (i f : Nat) : Nat → zS
  | 0 => S
  | j + 1 => zm_u2 (zt_h2 S i f j) 22 (48 * (6 * i + j) + f) (S 22 (48 * (6 * i + j) + (f - 1)))
theorem zt_h2_r (S : zS) (i f : Nat) {r : Nat} (h22 : r ≠ 22) : ∀ j, zt_h2 S i f j r = S r
  | 0 => rfl
  | j + 1 => (zm_u2r h22).trans (zt_h2_r S i f h22 j)
theorem zt_h2_22 (S : zS) (i f : Nat) {x : Nat} : ∀ j, (∀ q, q < j → x ≠ 48 * (6 * i + q) + f) → zt_h2 S i f j 22 x = S 22 x
  | 0, _ => rfl
  | j + 1, h => (zm_u2k (h j (by omega))).trans (zt_h2_22 S i f j (fun q hq => h q (by omega)))
theorem zt_h2_hj (S : zS) (i f : Nat) : ∀ j, zt_hj S i f j = zm_u2 (zt_h2 S i f j) 23 (48 * i + f) (S 23 (48 * i + (f - 1)))
  | 0 => rfl
  | j + 1 => by
    show zm_u2 (zt_hj S i f j) 22 (48 * (6 * i + j) + f) (S 22 (48 * (6 * i + j) + (f - 1))) = _
    rw [zt_h2_hj S i f j]
    exact zu_comm (by decide)
theorem zt_hj_w {S : zS} (hW : zW S) {i f : Nat} (hi : i < zv_ns S) (hf : f = zv_sk S i) (hk : f < zv_fr S i) : ∀ j, zW (zt_hj S i f j)
  | 0 => by subst hf; exact zW_nf hW hi hk (by omega)
  | j + 1 => zW_set (zt_hj_w hW hi hf hk j) (by unfold zs_str; omega) (fun h => by omega) (fun h => by omega) (fun h => by omega) (fun h => by omega) (fun h => by omega) (fun h => by omega) (by omega) (fun h => by omega)
theorem zt_want_w {S : zS} (hW : zW S) {i : Nat} (hi : i < zv_ns S) : zW (zt_want S i) := by
  unfold zt_want
  by_cases h : zp_want S i (zv_sk S i) = -1
  · rw [if_pos h]; exact hW
  · rw [if_neg h]
    have hm9 := zs_ix_zn ((zp_want_in hW hi (zv_sk S i)).resolve_left h) (by omega)
    have b2 := (hW.2.2.1.2.2.1 i hi).2.1
    exact zW_set hW (by unfold zs_str; omega) (fun h => by omega) (fun h => by omega) (fun _ => by omega) (fun h => by omega) (fun h => by omega) (fun h => by omega) (by omega) (fun h => by omega)
theorem zt_pz_w {S : zS} (hW : zW S) {i : Nat} (hi : i < zv_ns S) (hk : zv_sk S i < zv_fr S i) : zW (zt_pz S i) := by
  obtain ⟨b1, b2, b3, b4, b5, b6⟩ := hW.2.2.1.2.2.1 i hi
  have hj6 := (hW.1.2.2.1 _ b2).2.2
  have w := zW_nf (r := 23) (x := zp_mouth S i (zv_sk S i)) hW hi hk (by omega)
  refine zt_pose_w w ?_ (by omega) _ hj6
  show zv_pu S i < zn (zm_u2 S 23 (48 * i + zv_sk S i) (zp_mouth S i (zv_sk S i)) 0 0)
  rw [show zm_u2 S 23 (48 * i + zv_sk S i) (zp_mouth S i (zv_sk S i)) 0 = S 0 from zm_u2r (by decide)]
  exact b2
/-- what the reference's poses leave -/
theorem zt_pz_eq {S : zS} {i : Nat} (hh : ¬ zp_held S i (zv_sk S i)) : zt_pz (zt_want S i) i = zm_u2 (if zp_want S i (zv_sk S i) = -1 then zt_pose S (zv_pu S i) i (zv_sk S i) (zv_jn S (zv_pu S i)) else zm_u2 (zt_pose S (zv_pu S i) i (zv_sk S i) (zv_jn S (zv_pu S i))) 4 (10 * zv_pu S i + zn (zp_want S i (zv_sk S i))) (S 4 (10 * zv_pu S i + zn (zp_want S i (zv_sk S i))) - nI 1)) 23 (48 * i + zv_sk S i) (zp_mouth S i (zv_sk S i)) := by
  have E : ∀ r, r ≠ 4 → zt_want S i r = S r := fun r h => zt_want_r h
  have hm : zp_mouth (zt_want S i) i (zv_sk S i) = zp_mouth S i (zv_sk S i) := zp_mouth_c (E 6 (by decide)) (E 7 (by decide)) (E 8 (by decide)) (E 12 (by decide)) (E 13 (by decide))
  have hsk : zv_sk (zt_want S i) i = zv_sk S i := by unfold zv_sk; rw [E 15 (by decide)]
  have hpu : zv_pu (zt_want S i) i = zv_pu S i := by unfold zv_pu; rw [E 10 (by decide)]
  have hjn : zv_jn (zt_want S i) (zv_pu S i) = zv_jn S (zv_pu S i) := by unfold zv_jn; rw [E 1 (by decide)]
  unfold zt_pz
  rw [hsk, hpu, hjn, hm, zt_pose_comm (by decide) (by decide) (by decide) (by decide) (by decide)]
  unfold zt_want
  by_cases h : zp_want S i (zv_sk S i) = -1
  · rw [if_pos h, if_pos h]
  · rw [if_neg h, if_neg h, zt_pose_comm (by decide) (by decide) (by decide) (by decide) (by decide)]
