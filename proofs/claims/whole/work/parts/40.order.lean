/-! ===== the state's order behind every call: a shot, a frame struck ===== -/
theorem zW_shot {S : zS} (hW : zW S) (hn : zv_ns S < 8) {p n stp : Nat} {v : Int32} (hp : p < zv_np S) (hn1 : 1 ≤ n ∧ n ≤ 48) (hst : 1 ≤ stp ∧ stp ≤ 2) (hv : v = -1 ∨ zs_ix v (zv_nv S)) : zW (zt_shot S (nI p) (nI n) (nI stp) v) := by
  obtain ⟨⟨p0, p1, p2, p3, p4, p5⟩, hWv, ⟨s0, s1, s2, s3⟩, ⟨k1, k2, k3, k4, k5, k6⟩, hWr, ⟨f0, f1, f2, f3, f4⟩⟩ := hW
  have hns : zv_ns (zt_shot S (nI p) (nI n) (nI stp) v) = zv_ns S + 1 := by
    show zn (zm_u2 (zm_u2 (zm_u2 (zm_u2 (zm_u2 (zm_u2 S 10 (zv_ns S) (nI p)) 11 (zv_ns S) (nI n)) 12 (zv_ns S) (nI stp)) 13 (zv_ns S) v) 14 (zv_ns S) (-1)) 9 0 (nI (zv_ns S + 1)) 9 0) = _
    rw [zm_u2s]; exact nI_clamp (n := zv_ns S + 1) (by omega)
  have E : ∀ r, ¬ (9 ≤ r ∧ r ≤ 14) → zt_shot S (nI p) (nI n) (nI stp) v r = S r := fun r h => (zm_u2r (by omega)).trans ((zm_u2r (by omega)).trans ((zm_u2r (by omega)).trans ((zm_u2r (by omega)).trans ((zm_u2r (by omega)).trans (zm_u2r (by omega))))))
  have e9 : zt_shot S (nI p) (nI n) (nI stp) v 9 0 = nI (zv_ns S + 1) := zm_u2s
  have e10 : ∀ a, zt_shot S (nI p) (nI n) (nI stp) v 10 a = if a = zv_ns S then nI p else S 10 a := fun a => by
    unfold zt_shot
    rw [zm_u2l (by decide), zm_u2l (by decide), zm_u2l (by decide), zm_u2l (by decide), zm_u2l (by decide)]
    by_cases h : a = zv_ns S
    · rw [if_pos h, h, zm_u2s]
    · rw [if_neg h, zm_u2k h]
  have e11 : ∀ a, zt_shot S (nI p) (nI n) (nI stp) v 11 a = if a = zv_ns S then nI n else S 11 a := fun a => by
    unfold zt_shot
    rw [zm_u2l (by decide), zm_u2l (by decide), zm_u2l (by decide), zm_u2l (by decide)]
    by_cases h : a = zv_ns S
    · rw [if_pos h, h, zm_u2s]
    · rw [if_neg h, zm_u2k h, zm_u2l (by decide)]
  have e12 : ∀ a, zt_shot S (nI p) (nI n) (nI stp) v 12 a = if a = zv_ns S then nI stp else S 12 a := fun a => by
    unfold zt_shot
    rw [zm_u2l (by decide), zm_u2l (by decide), zm_u2l (by decide)]
    by_cases h : a = zv_ns S
    · rw [if_pos h, h, zm_u2s]
    · rw [if_neg h, zm_u2k h, zm_u2l (by decide), zm_u2l (by decide)]
  have e13 : ∀ a, zt_shot S (nI p) (nI n) (nI stp) v 13 a = if a = zv_ns S then v else S 13 a := fun a => by
    unfold zt_shot
    rw [zm_u2l (by decide), zm_u2l (by decide)]
    by_cases h : a = zv_ns S
    · rw [if_pos h, h, zm_u2s]
    · rw [if_neg h, zm_u2k h, zm_u2l (by decide), zm_u2l (by decide), zm_u2l (by decide)]
  have e14 : ∀ a, zt_shot S (nI p) (nI n) (nI stp) v 14 a = if a = zv_ns S then -1 else S 14 a := fun a => by
    unfold zt_shot
    rw [zm_u2l (by decide)]
    by_cases h : a = zv_ns S
    · rw [if_pos h, h, zm_u2s]
    · rw [if_neg h, zm_u2k h, zm_u2l (by decide), zm_u2l (by decide), zm_u2l (by decide), zm_u2l (by decide)]
  have hz10 : zn (nI p) = p := nI_clamp (n := p) (by omega)
  have hz11 : zn (nI n) = n := nI_clamp (n := n) (by omega)
  have hz12 : zn (nI stp) = stp := nI_clamp (n := stp) (by omega)
  generalize zt_shot S (nI p) (nI n) (nI stp) v = T at *
  have E0 := E 0 (by omega)
  have E1 := E 1 (by omega)
  have E2 := E 2 (by omega)
  have E3 := E 3 (by omega)
  have E4 := E 4 (by omega)
  have E5 := E 5 (by omega)
  have E6 := E 6 (by omega)
  have E7 := E 7 (by omega)
  have E8 := E 8 (by omega)
  have E15 := E 15 (by omega)
  have E16 := E 16 (by omega)
  have E17 := E 17 (by omega)
  have E18 := E 18 (by omega)
  have E19 := E 19 (by omega)
  have E24 := E 24 (by omega)
  have E26 := E 26 (by omega)
  have E28 := E 28 (by omega)
  have E29 := E 29 (by omega)
  have hfr : ∀ a, a ≠ zv_ns S → zv_fr T a = zv_fr S a := fun a h => by unfold zv_fr; rw [e11, if_neg h]
  have hfr2 : zv_fr T (zv_ns S) = n := by unfold zv_fr; rw [e11, if_pos rfl]; exact hz11
  have hsk : ∀ a, zv_sk T a = zv_sk S a := fun a => by unfold zv_sk; rw [E15]
  have hsk0 : zv_sk S (zv_ns S) = 0 := by unfold zv_sk; rw [(s3 (zv_ns S) (Nat.le_refl _)).1]; decide
  refine ⟨?_, ?_, ?_, ?_, ?_, ?_⟩
  · unfold zW_p zv_np zv_jn
    rw [E0, E1, E2, E3, E4]
    exact ⟨p0, p1, p2, p3, p4, p5⟩
  · unfold zW_v zv_nv zv_sc
    rw [E5, E6, E7, E8]
    exact hWv
  · unfold zW_s
    rw [hns, e9]
    refine ⟨rfl, by omega, fun a ha => ?_, fun a ha => ?_⟩
    · by_cases e : a = zv_ns S
      · have c15 : T 15 a = nI 0 := by rw [E15, e]; exact (s3 _ (Nat.le_refl _)).1
        have hs0 : zv_sk T a = 0 := by rw [hsk, e]; exact hsk0
        unfold zv_pu zv_st zv_np zv_nv
        rw [e10, e12, e13, e14, if_pos e, if_pos e, if_pos e, if_pos e, hz10, hz12, hs0, c15, E0, E5, e, hfr2, e11, if_pos rfl]
        exact ⟨rfl, hp, rfl, by omega, by omega, rfl, by omega, by omega, hv, Or.inl rfl, rfl, by omega, fun h => absurd h (by omega)⟩
      · obtain ⟨b1, b2, b3, b4, b5, b6, b7, b8, b9, b10, b11, b12, b13⟩ := s2 a (by omega)
        unfold zv_pu zv_st zv_np zv_nv
        rw [hfr a e, hsk, e10, e11, e12, e13, e14, if_neg e, if_neg e, if_neg e, if_neg e, if_neg e, E0, E5, E15]
        exact ⟨b1, b2, b3, b4, b5, b6, b7, b8, b9, b10, b11, b12, b13⟩
    · rw [E15, E16]; exact s3 a (by omega)
  · unfold zW_k
    rw [hns, E18, E19]
    refine ⟨k1, fun x hx => k2 x (by omega), fun a j f ha hj hf hf2 => ?_, k4, fun x hx => k5 x (by omega), fun a f ha hf hf2 => ?_⟩
    · by_cases e : a = zv_ns S
      · exact k2 _ (by omega)
      · rw [hfr a e] at hf; exact k3 a j f (by omega) hj hf hf2
    · by_cases e : a = zv_ns S
      · exact k5 _ (by omega)
      · rw [hfr a e] at hf; exact k6 a f (by omega) hf hf2
  · intro a f ha hf
    rw [hns] at ha
    rw [hsk] at hf
    rw [E24, E26]
    by_cases e : a = zv_ns S
    · rw [e, hsk0] at hf; omega
    · exact hWr a f (by omega) hf
  · unfold zW_f zv_nf zv_fl
    rw [hns, E17, E28, E29]
    exact ⟨f0, f1, fun k hk => ⟨(f2 k hk).1, by have h : zn (S 29 k) < zv_ns S := (f2 k hk).2; omega⟩, f3, f4⟩
theorem zW_keep {S : zS} (hW : zW S) {i : Nat} (hi : i < zv_ns S) (hk : zv_sk S i < zv_fr S i) (ha : zs_ix (S 14 i) 5) : zW (zt_keep S i) := by
  have hfr := (hW.2.2.1.2.2.1 i hi).2.2.2.2.1
  have hpl := zp_place_in hW i (zv_sk S i) (by omega)
  have hli := zp_light_in S
  unfold zt_keep zt_kp
  generalize zs_cam (fun k => zm_u2 S 24 (48 * i + zv_sk S i) (zp_place S i (zv_sk S i)) 24 (48 * i + k)) (zv_sk S i) (S 20 0) = cam
  generalize zp_place S i (zv_sk S i) = told at *
  generalize zp_light S = light at *
  have x16 : ∃ t, S 16 i = t := ⟨_, rfl⟩
  obtain ⟨tab, x16⟩ := x16
  rw [x16]
  have w1 := zW_nf (x := told) hW hi hk (r := 24) (by omega)
  have w2 := zW_nfc (S := S) (x := cam) w1 (zm_u2r (by decide)) (zm_u2r (by decide)) (zm_u2r (by decide)) hi hk (r := 25) (by omega)
  have w3 := zW_nfc (S := S) (x := light) w2 ((zm_u2r (by decide)).trans (zm_u2r (by decide))) ((zm_u2r (by decide)).trans (zm_u2r (by decide))) ((zm_u2r (by decide)).trans (zm_u2r (by decide))) hi hk (r := 26) (by omega)
  have w4 := zW_nfc (S := S) (x := tab) w3 ((zm_u2r (by decide)).trans ((zm_u2r (by decide)).trans (zm_u2r (by decide)))) ((zm_u2r (by decide)).trans ((zm_u2r (by decide)).trans (zm_u2r (by decide)))) ((zm_u2r (by decide)).trans ((zm_u2r (by decide)).trans (zm_u2r (by decide)))) hi hk (r := 27) (by omega)
  have E : ∀ q, ¬ (24 ≤ q ∧ q ≤ 27) → zm_u2 (zm_u2 (zm_u2 (zm_u2 S 24 (48 * i + zv_sk S i) told) 25 (48 * i + zv_sk S i) cam) 26 (48 * i + zv_sk S i) light) 27 (48 * i + zv_sk S i) tab q = S q := fun q hq => (zm_u2r (by omega)).trans ((zm_u2r (by omega)).trans ((zm_u2r (by omega)).trans (zm_u2r (by omega))))
  have E24 : zm_u2 (zm_u2 (zm_u2 (zm_u2 S 24 (48 * i + zv_sk S i) told) 25 (48 * i + zv_sk S i) cam) 26 (48 * i + zv_sk S i) light) 27 (48 * i + zv_sk S i) tab 24 (48 * i + zv_sk S i) = told := by rw [zm_u2l (by decide), zm_u2l (by decide), zm_u2l (by decide), zm_u2s]
  have E26 : zm_u2 (zm_u2 (zm_u2 (zm_u2 S 24 (48 * i + zv_sk S i) told) 25 (48 * i + zv_sk S i) cam) 26 (48 * i + zv_sk S i) light) 27 (48 * i + zv_sk S i) tab 26 (48 * i + zv_sk S i) = light := by rw [zm_u2l (by decide), zm_u2s]
  generalize zm_u2 (zm_u2 (zm_u2 (zm_u2 S 24 (48 * i + zv_sk S i) told) 25 (48 * i + zv_sk S i) cam) 26 (48 * i + zv_sk S i) light) 27 (48 * i + zv_sk S i) tab = T at *
  obtain ⟨q1, q2, q3, q4, q5, q6⟩ := zv_same (S := S) (T := T) (i := i) (E 1 (by omega)) (E 9 (by omega)) (E 10 (by omega)) (E 11 (by omega)) (E 14 (by omega)) (E 15 (by omega))
  have w5 := zW_count w4 (by rw [q1]; exact hi) (by rw [q2, q3]; exact hk) (by rw [q6]; exact ha) (by rw [q2, E24]; exact hpl) (by rw [q2, E26]; exact hli)
  rw [q2] at w5
  exact zW_set w5 (by unfold zs_str; omega) (fun h => by omega) (fun h => by omega) (fun h => by omega) (fun h => by omega) (fun h => by omega) (fun h => by omega) (by omega) (fun h => by omega)
theorem zW_strike {S : zS} (hW : zW S) {i : Nat} (hi : i < zv_ns S) (hb : zp_bar S i = 0) : zW (zt_strike S i) := by
  obtain ⟨-, hk, h14⟩ := zp_bar_0 (congrArg nI hb)
  have ha : zs_ix (S 14 i) 5 := (hW.2.2.1.2.2.1 i hi).2.2.2.2.2.2.2.2.2.1.resolve_left h14
  unfold zt_strike
  by_cases c : zp_held S i (zv_sk S i)
  · rw [if_pos c]
    have d : ∀ r, r = 1 ∨ (9 ≤ r ∧ r ≤ 15) → zt_hold S i r = S r := fun r h => zt_hold_r (by omega) (by omega)
    obtain ⟨q1, q2, q3, q4, q5, q6⟩ := zv_same (S := S) (T := zt_hold S i) (i := i) (d 1 (by omega)) (d 9 (by omega)) (d 10 (by omega)) (d 11 (by omega)) (d 14 (by omega)) (d 15 (by omega))
    exact zW_keep (S := zt_hold S i) (zt_hj_w hW hi rfl hk _) (by rw [q1]; exact hi) (by rw [q2, q3]; exact hk) (by rw [q6]; exact ha)
  · rw [if_neg c]
    have d : ∀ r, r = 1 ∨ (9 ≤ r ∧ r ≤ 15) → zt_pz (zt_want S i) i r = S r := fun r h => (zt_pz_r (by omega) (by omega) (by omega) (by omega)).trans (zt_want_r (by omega))
    obtain ⟨q1, q2, q3, q4, q5, q6⟩ := zv_same (S := S) (T := zt_pz (zt_want S i) i) (i := i) (d 1 (by omega)) (d 9 (by omega)) (d 10 (by omega)) (d 11 (by omega)) (d 14 (by omega)) (d 15 (by omega))
    exact zW_keep (zt_pz_w (zt_want_w hW hi) (by show i < zn (zt_want S i 9 0); rw [zt_want_r (by decide)]; exact hi) (by show zn (zt_want S i 15 i) < zn (zt_want S i 11 i); rw [zt_want_r (by decide), zt_want_r (by decide)]; exact hk)) (by rw [q1]; exact hi) (by rw [q2, q3]; exact hk) (by rw [q6]; exact ha)

theorem zs_ofrng {x : Int32} {a b : Nat} (h : nI a ≤ x ∧ x ≤ nI b) (ha : a < 2 ^ 31 := by decide) (hb : b < 2 ^ 31 := by decide) : zv_in x a b := by
  have h1 := zs_le.mp h.1
  have h2 := zs_le.mp h.2
  rw [nI_toInt ha] at h1
  rw [nI_toInt hb] at h2
  exact ⟨h1, h2⟩
theorem zs_ofrngn {x : Int32} {a b : Nat} (h : nI a ≤ x ∧ x ≤ nI b) (ha : a < 2 ^ 31) (hb : b < 2 ^ 31) : ∃ n, a ≤ n ∧ n ≤ b ∧ x = nI n := by
  obtain ⟨h1, h2⟩ := zs_ofrng h ha hb
  obtain ⟨n, hn, rfl⟩ := zs_ix_of (p := x) (n := b + 1) ⟨by omega, by omega⟩ (by omega)
  rw [nI_toInt (by omega)] at h1 h2
  exact ⟨n, by omega, by omega, rfl⟩
theorem U_bars {S : zS} (hW : zW S) (s : Int32) (hA : (zs_ix s (zv_ns S))) (hB : True) (hC : True) : zW S := hW
theorem U_struck {S : zS} (hW : zW S) (s : Int32) (hA : (zs_ix s (zv_ns S))) (hB : True) (hC : True) : zW S := hW
theorem U_light {S : zS} (hW : zW S)  (hA : True) (hB : True) (hC : True) : zW S := hW
theorem U_degree {S : zS} (hW : zW S) (s jx fx : Int32) (hA : (zs_ix s (zv_ns S)) ∧ (zs_ix jx (zv_jn S (zv_pu S (zn s)))) ∧ (zs_ix fx (zv_fr S (zn s)))) (hB : True) (hC : True) : zW S := hW
theorem U_mouth {S : zS} (hW : zW S) (s fx : Int32) (hA : (zs_ix s (zv_ns S)) ∧ (zs_ix fx (zv_fr S (zn s)))) (hB : True) (hC : True) : zW S := hW
theorem U_place {S : zS} (hW : zW S) (s fx : Int32) (hA : (zs_ix s (zv_ns S)) ∧ (zs_ix fx (zv_fr S (zn s)))) (hB : True) (hC : True) : zW S := hW
theorem U_mouths {S : zS} (hW : zW S) (px s n : Int32) (hA : (zs_ix px (zv_np S))) (hB : (nI 0 ≤ s ∧ s ≤ nI 9) ∧ (nI 1 ≤ n ∧ n ≤ nI 9)) (hC : (S 4 (10 * zn px + zn s) + n ≤ nI 9)) : zW ((zm_u2 S 4 (10 * zn px + zn s) (S 4 (10 * zn px + zn s) + n))) := by
  have n1 := hW.1.2.1
  have n2 := hW.2.1.2.1
  have n3 := hW.2.2.1.2.1
  have hp := (zs_ix_zn hA (by omega)).1
  have ht := (zs_ix_zn (zs_rng_of hB.1 (by omega)) (by omega)).1
  exact zW_set hW (by unfold zs_str; omega) (fun h => absurd h (by decide)) (fun h => absurd h (by decide)) (fun _ => by omega) (fun h => absurd h (by decide)) (fun h => absurd h (by decide)) (fun h => absurd h (by decide)) (by decide) (fun h => absurd h (by decide))
theorem U_left {S : zS} (hW : zW S) (px s : Int32) (hA : (zs_ix px (zv_np S))) (hB : (nI 0 ≤ s ∧ s ≤ nI 9)) (hC : True) : zW S := hW
theorem U_ofJoint {S : zS} (hW : zW S) (px jx x : Int32) (hA : (zs_ix px (zv_np S)) ∧ (zs_ix jx (zv_jn S (zn px)))) (hB : (nI 0 ≤ x ∧ x ≤ nI 1)) (hC : True) : zW S := hW
theorem U_mend {S : zS} (hW : zW S) (px jx : Int32) (hA : (zs_ix px (zv_np S)) ∧ (zs_ix jx (zv_jn S (zn px)))) (hB : True) (hC : True) : zW ((zm_u2 S 3 (6 * zn px + zn jx) (0))) := by
  have n1 := hW.1.2.1
  have n2 := hW.2.1.2.1
  have n3 := hW.2.2.1.2.1
  have hp := (zs_ix_zn hA.1 (by omega)).1
  have j6 := (hW.1.2.2.1 _ hp).2.2
  have hj := (zs_ix_zn hA.2 (by omega)).1
  exact zW_set hW (by unfold zs_str; omega) (fun h => absurd h (by decide)) (fun _ => by omega) (fun h => absurd h (by decide)) (fun h => absurd h (by decide)) (fun h => absurd h (by decide)) (fun h => absurd h (by decide)) (by decide) (fun h => absurd h (by decide))
theorem U_assign {S : zS} (hW : zW S) (s ax : Int32) (hA : (zs_ix s (zv_ns S)) ∧ (zs_ix ax 5)) (hB : True) (hC : (¬ zv_fr S (zn s) ≤ zv_sk S (zn s)) ∧ (0 < zv_sk S (zn s) → (¬ S 14 (zn s) = -1 ∧ ¬ S 17 (zn (S 14 (zn s))) = 0))) : zW ((zm_u2 S 14 (zn s) (ax))) := by
  have n1 := hW.1.2.1
  have n2 := hW.2.1.2.1
  have n3 := hW.2.2.1.2.1
  have hi := (zs_ix_zn hA.1 (by omega)).1
  exact zW_set hW (by unfold zs_str; omega) (fun h => absurd h (by decide)) (fun h => absurd h (by decide)) (fun h => absurd h (by decide)) (fun h => absurd h (by decide)) (fun _ => hA.2) (fun h => absurd h (by decide)) (by decide) (fun h => absurd h (by decide))
theorem U_dub {S : zS} (hW : zW S) (s v : Int32) (hA : (zs_ix s (zv_ns S)) ∧ (v = -1 ∨ zs_ix v (zv_nv S))) (hB : True) (hC : True) : zW ((zm_u2 S 13 (zn s) (v))) := by
  have n1 := hW.1.2.1
  have n2 := hW.2.1.2.1
  have n3 := hW.2.2.1.2.1
  exact zW_set hW (by unfold zs_str; omega) (fun h => absurd h (by decide)) (fun h => absurd h (by decide)) (fun h => absurd h (by decide)) (fun _ => hA.2) (fun h => absurd h (by decide)) (fun h => absurd h (by decide)) (by decide) (fun h => absurd h (by decide))
theorem U_play {S : zS} (hW : zW S) (u : Int32) (hA : True) (hB : (nI 0 ≤ u ∧ u ≤ nI 20)) (hC : True) : zW ((zm_u2 S 20 (0) (u))) := by
  have n1 := hW.1.2.1
  have n2 := hW.2.1.2.1
  have n3 := hW.2.2.1.2.1
  exact zW_set hW (by unfold zs_str; omega) (fun h => absurd h (by decide)) (fun h => absurd h (by decide)) (fun h => absurd h (by decide)) (fun h => absurd h (by decide)) (fun h => absurd h (by decide)) (fun h => absurd h (by decide)) (by decide) (fun h => absurd h (by decide))
theorem U_bump {S : zS} (hW : zW S) (s u : Int32) (hA : (zs_ix s (zv_ns S))) (hB : ((-99) ≤ u ∧ u ≤ nI 99)) (hC : (0 < zv_sk S (zn s))) : zW ((zm_u2 S 16 (zn s) (S 16 (zn s) + u))) := by
  have n1 := hW.1.2.1
  have n2 := hW.2.1.2.1
  have n3 := hW.2.2.1.2.1
  have hi := (zs_ix_zn hA (by omega)).1
  exact zW_set hW (by unfold zs_str; omega) (fun h => absurd h (by decide)) (fun h => absurd h (by decide)) (fun h => absurd h (by decide)) (fun h => absurd h (by decide)) (fun h => absurd h (by decide)) (fun _ => hi) (by decide) (fun h => absurd h (by decide))
theorem U_level {S : zS} (hW : zW S) (s : Int32) (hA : (zs_ix s (zv_ns S))) (hB : True) (hC : True) : zW ((zm_u2 S 16 (zn s) (0))) := by
  have n1 := hW.1.2.1
  have n2 := hW.2.1.2.1
  have n3 := hW.2.2.1.2.1
  have hi := (zs_ix_zn hA (by omega)).1
  exact zW_set hW (by unfold zs_str; omega) (fun h => absurd h (by decide)) (fun h => absurd h (by decide)) (fun h => absurd h (by decide)) (fun h => absurd h (by decide)) (fun h => absurd h (by decide)) (fun _ => hi) (by decide) (fun h => absurd h (by decide))
theorem U_lamp {S : zS} (hW : zW S)  (hA : True) (hB : True) (hC : True) : zW ((zm_u2 S 21 (0) (0))) := by
  have n1 := hW.1.2.1
  have n2 := hW.2.1.2.1
  have n3 := hW.2.2.1.2.1
  exact zW_set hW (by unfold zs_str; omega) (fun h => absurd h (by decide)) (fun h => absurd h (by decide)) (fun h => absurd h (by decide)) (fun h => absurd h (by decide)) (fun h => absurd h (by decide)) (fun h => absurd h (by decide)) (by decide) (fun h => absurd h (by decide))
theorem U_ill {S : zS} (hW : zW S) (ax x : Int32) (hx : x = 0 ∨ x = 1) (hA : (zs_ix ax 5)) (hB : True) (hC : True) : zW ((zm_u2 S 17 (zn ax) (x))) := by
  have n1 := hW.1.2.1
  have n2 := hW.2.1.2.1
  have n3 := hW.2.2.1.2.1
  exact zW_set hW (by unfold zs_str; omega) (fun h => absurd h (by decide)) (fun h => absurd h (by decide)) (fun h => absurd h (by decide)) (fun h => absurd h (by decide)) (fun h => absurd h (by decide)) (fun h => absurd h (by decide)) (by decide) (fun _ => hx)
theorem U_pose {S : zS} (hW : zW S) (s jx fx : Int32) (hA : (zs_ix s (zv_ns S)) ∧ (zs_ix jx (zv_jn S (zv_pu S (zn s)))) ∧ (zs_ix fx (zv_sk S (zn s)))) (hB : True) (hC : True) : zW S := hW
theorem U_ofFrame {S : zS} (hW : zW S) (s fx x : Int32) (hA : (zs_ix s (zv_ns S)) ∧ (zs_ix fx (zv_sk S (zn s)))) (hB : (nI 0 ≤ x ∧ x ≤ nI 3)) (hC : True) : zW S := hW
theorem U_key {S : zS} (hW : zW S) (s jx fx d : Int32) (hA : (zs_ix s (zv_ns S)) ∧ (zs_ix jx (zv_jn S (zv_pu S (zn s)))) ∧ (zs_ix fx (zv_fr S (zn s)))) (hB : (nI 0 ≤ d ∧ d ≤ nI 359)) (hC : (¬ fx < nI (zv_sk S (zn s))) ∧ (¬ zp_held S (zn s) (zn fx))) : zW (zm_u2 S 18 (48 * (6 * zn s + zn jx) + zn fx) d) := by
  have n1 := hW.1.2.1
  have n2 := hW.2.1.2.1
  have n3 := hW.2.2.1.2.1
  have hi := (zs_ix_zn hA.1 (by omega)).1
  have b12 := (hW.2.2.1.2.2.1 _ hi).2.1
  have j6 := (hW.1.2.2.1 _ b12).2.2
  have f48 := (hW.2.2.1.2.2.1 _ hi).2.2.2.2.1
  have hj := (zs_ix_zn hA.2.1 (by omega)).1
  have hf := (zs_ix_zn hA.2.2 (by omega)).1
  have h1 := zs_le.mp hB.1
  have h2 := zs_le.mp hB.2
  rw [nI_toInt (by omega)] at h1 h2
  exact zW_key hW hi hj hf ⟨by omega, by omega⟩
theorem U_camera {S : zS} (hW : zW S) (s fx x : Int32) (hA : (zs_ix s (zv_ns S)) ∧ (zs_ix fx (zv_fr S (zn s)))) (hB : ((-999) ≤ x ∧ x ≤ nI 999)) (hC : (¬ fx < nI (zv_sk S (zn s)))) : zW (zm_u2 S 19 (48 * zn s + zn fx) x) := by
  have n1 := hW.1.2.1
  have n2 := hW.2.1.2.1
  have n3 := hW.2.2.1.2.1
  have hi := (zs_ix_zn hA.1 (by omega)).1
  have b12 := (hW.2.2.1.2.2.1 _ hi).2.1
  have j6 := (hW.1.2.2.1 _ b12).2.2
  have f48 := (hW.2.2.1.2.2.1 _ hi).2.2.2.2.1
  have hf := (zs_ix_zn hA.2 (by omega)).1
  have h1 := zs_le.mp hB.1
  have h2 := zs_le.mp hB.2
  rw [show ((-999) : Int32).toInt = -999 from by decide] at h1
  rw [nI_toInt (by omega)] at h2
  exact zW_cam hW hi hf ⟨by omega, by omega⟩
theorem U_film {S : zS} (hW : zW S) (x : Int32) (hA : ((0 : Int32) ≤ x)) (hB : True) (hC : True) : zW S := hW
theorem U_wants {S : zS} (hW : zW S) (s x : Int32) (hA : (zs_ix s (zv_ns S))) (hB : (nI 0 ≤ x ∧ x ≤ nI 9)) (hC : True) : zW S := hW
theorem U_wears {S : zS} (hW : zW S) (s jx : Int32) (hA : (zs_ix s (zv_ns S)) ∧ (zs_ix jx (zv_jn S (zv_pu S (zn s))))) (hB : True) (hC : True) : zW S := hW
theorem U_faults {S : zS} (hW : zW S) (s fx : Int32) (hA : (zs_ix s (zv_ns S)) ∧ (zs_ix fx (zv_sk S (zn s)))) (hB : True) (hC : True) : zW S := hW
theorem U_anew {S : zS} (hW : zW S) (s fx : Int32) (hA : (zs_ix s (zv_ns S)) ∧ (zs_ix fx (zv_fr S (zn s)))) (hB : True) (hC : (fx < nI (zv_sk S (zn s))) ∧ (zp_cut S s = -1)) : zW (zm_u2 S 15 (zn s) (nI (zn fx))) := by
  have n1 := hW.1.2.1
  have n2 := hW.2.1.2.1
  have n3 := hW.2.2.1.2.1
  have hi := (zs_ix_zn hA.1 (by omega)).1
  have b12 := (hW.2.2.1.2.2.1 _ hi).2.1
  have j6 := (hW.1.2.2.1 _ b12).2.2
  have f48 := (hW.2.2.1.2.2.1 _ hi).2.2.2.2.1
  have k12 := (hW.2.2.1.2.2.1 _ hi).2.2.2.2.2.2.2.2.2.2.2.1
  obtain ⟨hf, ef⟩ := zs_ix_zn hA.2 (by omega)
  have h1 := hC.1
  rw [ef] at h1
  have h2 := zs_lt.mp h1
  rw [nI_toInt (by omega), nI_toInt (by omega)] at h2
  exact zW_less hW hi (by omega)
theorem U_cut {S : zS} (hW : zW S) (s : Int32) (hA : (zs_ix s (zv_ns S))) (hB : True) (hC : (zv_fr S (zn s) ≤ zv_sk S (zn s)) ∧ (zp_cut S s = -1)) : zW (zt_cut S (zn s)) := by
  have n1 := hW.1.2.1
  have n2 := hW.2.1.2.1
  have n3 := hW.2.2.1.2.1
  have hi := (zs_ix_zn hA (by omega)).1
  obtain ⟨c1, c2⟩ := zp_cut_none hW hi (by rw [← (zs_ix_zn hA (by omega)).2]; exact hC.2)
  exact zW_cut hW hi c1 c2
theorem U_cutOut {S : zS} (hW : zW S) (s : Int32) (hA : (zs_ix s (zv_ns S))) (hB : True) (hC : (¬ zp_cut S s = -1)) : zW (zt_out S (zn (zp_cut S s))) := by
  have n1 := hW.1.2.1
  have n2 := hW.2.1.2.1
  have n3 := hW.2.2.1.2.1
  obtain ⟨q, hq, eq⟩ := zp_cut_some hW hC
  have f8 := hW.2.2.2.2.2.2.1
  rw [eq, show zn (nI q) = q from nI_clamp (n := q) (by omega)]
  exact zW_out hW hq
theorem U_sound {S : zS} (hW : zW S) (x f : Int32) (hA : True) (hB : (nI 0 ≤ x ∧ x ≤ nI 9) ∧ (nI 1 ≤ f ∧ f ≤ nI 24)) (hC : (zv_sc S (zv_nv S) < 12)) : zW (zt_sound S x f) := by
  have n1 := hW.1.2.1
  have n2 := hW.2.1.2.1
  have n3 := hW.2.2.1.2.1
  exact zW_sound hW hB.1 hB.2 hC
theorem U_voice {S : zS} (hW : zW S)  (hA : True) (hB : True) (hC : (¬ zv_sc S (zv_nv S) = 0) ∧ (zv_nv S < 6)) : zW (zt_voice S) := by
  have n1 := hW.1.2.1
  have n2 := hW.2.1.2.1
  have n3 := hW.2.2.1.2.1
  exact zW_voice hW hC.2
theorem U_puppet {S : zS} (hW : zW S) (x : Int32) (hA : True) (hB : (nI 1 ≤ x ∧ x ≤ nI 6)) (hC : (zv_np S < 5)) : zW (zt_puppet S x) := by
  have n1 := hW.1.2.1
  have n2 := hW.2.1.2.1
  have n3 := hW.2.2.1.2.1
  obtain ⟨j, h1, h2, rfl⟩ := zs_ofrngn hB (by omega) (by omega)
  exact zW_puppet hW hC ⟨h1, h2⟩
theorem U_shot {S : zS} (hW : zW S) (px nx tx v : Int32) (hA : (zs_ix px (zv_np S)) ∧ (v = -1 ∨ zs_ix v (zv_nv S))) (hB : (nI 1 ≤ nx ∧ nx ≤ nI 48) ∧ (nI 1 ≤ tx ∧ tx ≤ nI 2)) (hC : (zv_ns S < 8)) : zW (zt_shot S px nx tx v) := by
  have n1 := hW.1.2.1
  have n2 := hW.2.1.2.1
  have n3 := hW.2.2.1.2.1
  obtain ⟨hp, ep⟩ := zs_ix_zn hA.1 (by omega)
  obtain ⟨n, h1, h2, rfl⟩ := zs_ofrngn hB.1 (by omega) (by omega)
  obtain ⟨t, h3, h4, rfl⟩ := zs_ofrngn hB.2 (by omega) (by omega)
  rw [ep]
  exact zW_shot hW hC hp ⟨h1, h2⟩ ⟨h3, h4⟩ hA.2
theorem U_strike {S : zS} (hW : zW S) (s : Int32) (hA : (zs_ix s (zv_ns S))) (hB : True) (hC : (zp_bar S (zn s) = 0)) : zW (zt_strike S (zn s)) := by
  have n1 := hW.1.2.1
  have n2 := hW.2.1.2.1
  have n3 := hW.2.2.1.2.1
  have hi := (zs_ix_zn hA (by omega)).1
  exact zW_strike hW hi hC
