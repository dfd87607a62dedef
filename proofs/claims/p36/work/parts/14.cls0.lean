/-! ===== the shot's methods, said of the state ===== -/
theorem zs_up_congr {g g' : Nat → Prop} [DecidablePred g] [DecidablePred g'] : ∀ q, (∀ i, i < q → (g i ↔ g' i)) → zs_up g q = zs_up g' q
  | 0, _ => rfl
  | q + 1, h => by
    have h0 := h q (by omega)
    unfold zs_up
    by_cases hg : g q
    · rw [if_pos hg, if_pos (h0.mp hg)]
    · rw [if_neg hg, if_neg (fun z => hg (h0.mpr z)), zs_up_congr q (fun i hi => h i (by omega))]
theorem zs_fst_congr {g g' : Nat → Prop} [DecidablePred g] [DecidablePred g'] {v v' : Nat → Int32} : ∀ k i, (∀ j, i ≤ j → j < i + k → (g j ↔ g' j)) → (∀ j, i ≤ j → j < i + k → g j → v j = v' j) → zs_fst g v k i = zs_fst g' v' k i
  | 0, _, _, _ => rfl
  | k + 1, i, h, hv => by
    have h0 := h i (by omega) (by omega)
    unfold zs_fst
    by_cases hg : g i
    · rw [if_pos hg, if_pos (h0.mp hg), hv i (by omega) (by omega) hg]
    · rw [if_neg hg, if_neg (fun z => hg (h0.mpr z))]
      exact zs_fst_congr k (i + 1) (fun j h1 h2 => h j (by omega) (by omega)) (fun j h1 h2 => hv j (by omega) (by omega))
theorem zs_fst_more {g : Nat → Prop} [DecidablePred g] {v : Nat → Int32} : ∀ k i m, (∀ j, i + k ≤ j → j < i + k + m → ¬ g j) → zs_fst g v (k + m) i = zs_fst g v k i
  | 0, i, 0, _ => rfl
  | 0, i, m + 1, h => by
    have h0 := h i (by omega) (by omega)
    rw [show 0 + (m + 1) = (0 + m) + 1 by omega]
    show (if g i then v i else zs_fst g v (0 + m) (i + 1)) = -1
    rw [if_neg h0]
    exact zs_fst_more 0 (i + 1) m (fun j h1 h2 => h j (by omega) (by omega))
  | k + 1, i, m, h => by
    rw [show k + 1 + m = (k + m) + 1 by omega]
    unfold zs_fst
    rw [zs_fst_more k (i + 1) m (fun j h1 h2 => h j (by omega) (by omega))]
theorem zs_val_eq {mix : Int32 → Int32 → Int32 → Int32 → Int32} {told val K : Nat → Int32} {E : Int32} {n f : Nat} (hn : n ≤ 48) (hf : f < n) (h : ∀ x, x < n → ((told x = 0 ↔ K x = E) ∧ (¬ K x = E → val x = K x))) (h48 : ∀ x, n ≤ x → x < 48 → K x = E) :
    zs_val mix val (zs_up (fun x => ¬ told x = 0) (f + 1)) (zs_fst (fun x => ¬ told x = 0) nI (n - f) f) (nI f) = zs_val mix K (zs_up (fun x => ¬ K x = E) (f + 1)) (zs_fst (fun x => ¬ K x = E) nI (48 - f) f) (nI f) := by
  have e1 : zs_up (fun x => ¬ told x = 0) (f + 1) = zs_up (fun x => ¬ K x = E) (f + 1) := zs_up_congr (f + 1) (fun i hi => by have := (h i (by omega)).1; exact not_congr this)
  have e2 : zs_fst (fun x => ¬ told x = 0) nI (n - f) f = zs_fst (fun x => ¬ K x = E) nI (48 - f) f := by
    rw [show 48 - f = (n - f) + (48 - n) by omega, zs_fst_more (g := fun x => ¬ K x = E) (n - f) f (48 - n) (fun j h1 h2 q => q (h48 j (by omega) (by omega)))]
    exact zs_fst_congr (n - f) f (fun j h1 h2 => not_congr (h j (by omega)).1) (fun _ _ _ _ => rfl)
  rw [e1, e2]
  have key : ∀ i, i < n → ¬ K i = E → val i = K i := fun i hi hk => (h i hi).2 hk
  rcases zs_up_cases (fun x => ¬ K x = E) (f + 1) with ⟨hu, -⟩ | ⟨i, hi, hg, hu, -⟩ <;> rcases zs_fst_cases (fun x => ¬ K x = E) nI (48 - f) f with ⟨hv, -⟩ | ⟨j, hj1, hj2, hgj, hv, -⟩
  · rw [hu, hv]; rfl
  · have hjn : j < n := Classical.byContradiction fun q => hgj (h48 j (by omega) (by omega))
    rw [hu, hv]
    unfold zs_val
    rw [nI_clamp (n := j) (by omega), key j hjn hgj, if_pos rfl, if_pos rfl]
  · rw [hu, hv]
    unfold zs_val
    rw [nI_clamp (n := i) (by omega), key i (by omega) hg]
    by_cases h1 : nI i = -1
    · rw [if_pos h1, if_pos h1]; rfl
    · rw [if_neg h1, if_neg h1, if_pos (by rw [zs_le, nI_toInt (by omega)]; show (-1 : Int) ≤ i; omega), if_pos (by rw [zs_le, nI_toInt (by omega)]; show (-1 : Int) ≤ i; omega)]
  · have hjn : j < n := Classical.byContradiction fun q => hgj (h48 j (by omega) (by omega))
    rw [hu, hv]
    unfold zs_val
    rw [nI_clamp (n := i) (by omega), nI_clamp (n := j) (by omega), key i (by omega) hg, key j hjn hgj]
theorem zR_sh {S : zS} {sh : zm_Sh} {mi : zm_Mi} {mr : zm_Mr} (hW : zW S) (hR : zR S sh mi mr) {i : Nat} (hi : i < zv_ns S) :
    zv_jn S (zv_pu S i) ≤ 6 ∧ zv_fr S i ≤ 48 ∧ zr_S sh mr (1000 + 100 * i) (200 + 4 * zv_pu S i) (zv_jn S (zv_pu S i)) (zv_fr S i) ∧ mi (1000 + 100 * i) 1 = nI (zv_fr S i) ∧ mi (1000 + 100 * i) 2 = nI (zv_st S i) ∧ mi (1000 + 100 * i + 5) 6 = nI (zv_sk S i) ∧ zv_st S i ≤ 2 ∧ zv_sk S i ≤ zv_fr S i := by
  obtain ⟨hWp, hWv, hWs, hWk, hWr, hWf⟩ := hW
  obtain ⟨hRm, hRp, hRv, hRs, hRf⟩ := hR
  obtain ⟨q1, q2, q3, q4, q5, q6, q7, q8, q9, q10⟩ := hRs i hi
  obtain ⟨a1, a2, a3, a4, a5, a6, a7, a8, a9, a10, a11, a12, a13⟩ := hWs.2.2.1 i hi
  exact ⟨(hWp.2.2.1 _ a2).2.2, a5, q2, q3.trans a3, q4.trans a6, q8.trans a11, a8, a12⟩
theorem K_posedFrame (S : zS) (sh : zm_Sh) (mi : zm_Mi) (mr : zm_Mr) (hW : zW S) (hR : zR S sh mi mr) (i : Nat) (hi : i < zv_ns S) (f : Nat) (hf : f < 1000) : zz_Con yX2_posedFrame (.code yX2_posedFrame cX2_posedFrame 2 (some Jvm.ClassFile.FieldType.int)) 0 0 0 [.ref (1000 + 100 * i), .int (nI f)] sh mi mr (zz_q (some (.int (nI (zs_pf (zv_st S i) f)))) sh mi mr) zz_none := by
  obtain ⟨a1, a2, a3, a4, a5, a6, a7, a8⟩ := zR_sh hW hR hi
  exact k_posedFrame sh mi mr (1000 + 100 * i) (200 + 4 * zv_pu S i) (zv_jn S (zv_pu S i)) (zv_fr S i) (zv_st S i) (zv_sk S i) a1 a2 a3 a4 a5 a6 a7 a8 f hf
theorem K_isHeld (S : zS) (sh : zm_Sh) (mi : zm_Mi) (mr : zm_Mr) (hW : zW S) (hR : zR S sh mi mr) (i : Nat) (hi : i < zv_ns S) (f : Nat) (hf : f < 1000) : zz_Con yX2_isHeld (.code yX2_isHeld cX2_isHeld 2 (some Jvm.ClassFile.FieldType.boolean)) 1 0 0 [.ref (1000 + 100 * i), .int (nI f)] sh mi mr (zz_q (some (.int (zz_bi (zp_held S i f)))) sh mi mr) zz_none := by
  obtain ⟨a1, a2, a3, a4, a5, a6, a7, a8⟩ := zR_sh hW hR hi
  exact k_isHeld sh mi mr (1000 + 100 * i) (200 + 4 * zv_pu S i) (zv_jn S (zv_pu S i)) (zv_fr S i) (zv_st S i) (zv_sk S i) a1 a2 a3 a4 a5 a6 a7 a8 f hf
theorem K_isStruck (S : zS) (sh : zm_Sh) (mi : zm_Mi) (mr : zm_Mr) (hW : zW S) (hR : zR S sh mi mr) (i : Nat) (hi : i < zv_ns S) (x : Int32) : zz_Con yX2_isStruck (.code yX2_isStruck cX2_isStruck 2 (some Jvm.ClassFile.FieldType.boolean)) 0 0 0 [.ref (1000 + 100 * i), .int x] sh mi mr (zz_q (some (.int (zz_bi (x < nI (zv_sk S i))))) sh mi mr) zz_none := by
  obtain ⟨a1, a2, a3, a4, a5, a6, a7, a8⟩ := zR_sh hW hR hi
  exact k_isStruck sh mi mr (1000 + 100 * i) (200 + 4 * zv_pu S i) (zv_jn S (zv_pu S i)) (zv_fr S i) (zv_st S i) (zv_sk S i) a1 a2 a3 a4 a5 a6 a7 a8 x
theorem K_hasBegun (S : zS) (sh : zm_Sh) (mi : zm_Mi) (mr : zm_Mr) (hW : zW S) (hR : zR S sh mi mr) (i : Nat) (hi : i < zv_ns S)  : zz_Con yX2_hasBegun (.code yX2_hasBegun cX2_hasBegun 1 (some Jvm.ClassFile.FieldType.boolean)) 0 0 0 [.ref (1000 + 100 * i)] sh mi mr (zz_q (some (.int (zz_bi (0 < zv_sk S i)))) sh mi mr) zz_none := by
  obtain ⟨a1, a2, a3, a4, a5, a6, a7, a8⟩ := zR_sh hW hR hi
  exact k_hasBegun sh mi mr (1000 + 100 * i) (200 + 4 * zv_pu S i) (zv_jn S (zv_pu S i)) (zv_fr S i) (zv_st S i) (zv_sk S i) a1 a2 a3 a4 a5 a6 a7 a8 
theorem K_isDone (S : zS) (sh : zm_Sh) (mi : zm_Mi) (mr : zm_Mr) (hW : zW S) (hR : zR S sh mi mr) (i : Nat) (hi : i < zv_ns S)  : zz_Con yX2_isDone (.code yX2_isDone cX2_isDone 1 (some Jvm.ClassFile.FieldType.boolean)) 0 0 0 [.ref (1000 + 100 * i)] sh mi mr (zz_q (some (.int (zz_bi (zv_fr S i ≤ zv_sk S i)))) sh mi mr) zz_none := by
  obtain ⟨a1, a2, a3, a4, a5, a6, a7, a8⟩ := zR_sh hW hR hi
  exact k_isDone sh mi mr (1000 + 100 * i) (200 + 4 * zv_pu S i) (zv_jn S (zv_pu S i)) (zv_fr S i) (zv_st S i) (zv_sk S i) a1 a2 a3 a4 a5 a6 a7 a8 
theorem K_isUnderWay (S : zS) (sh : zm_Sh) (mi : zm_Mi) (mr : zm_Mr) (hW : zW S) (hR : zR S sh mi mr) (i : Nat) (hi : i < zv_ns S)  : zz_Con yX2_isUnderWay (.code yX2_isUnderWay cX2_isUnderWay 1 (some Jvm.ClassFile.FieldType.boolean)) 1 0 0 [.ref (1000 + 100 * i)] sh mi mr (zz_q (some (.int (zz_bi (zp_on S i)))) sh mi mr) zz_none := by
  obtain ⟨a1, a2, a3, a4, a5, a6, a7, a8⟩ := zR_sh hW hR hi
  exact k_isUnderWay sh mi mr (1000 + 100 * i) (200 + 4 * zv_pu S i) (zv_jn S (zv_pu S i)) (zv_fr S i) (zv_st S i) (zv_sk S i) a1 a2 a3 a4 a5 a6 a7 a8 
theorem zp_deg_at {S : zS} {sh : zm_Sh} {mi : zm_Mi} {mr : zm_Mr} (hW : zW S) (hR : zR S sh mi mr) {i : Nat} (hi : i < zv_ns S) {j : Nat} (hj : j < zv_jn S (zv_pu S i)) {f : Nat} (hf : f < zv_fr S i) : zs_at zs_mixR mi (1000 + 100 * i + 20 + 3 * j) (zv_fr S i) (zs_pf (zv_st S i) f) = zp_deg S i j f := by
  obtain ⟨a1, a2, -⟩ := zR_sh hW hR hi
  have hk := (hR.2.2.2.1 i hi).2.2.2.2.2.2.2.2.1
  have hp := zs_pf_le (zv_st S i) f
  exact zs_val_eq (K := fun x => S 18 (48 * (6 * i + j) + x)) (E := -1) a2 (by omega) (fun x hx => hk.2.1 j x hj hx) (fun x h1 h2 => hW.2.2.2.1.2.2.1 i j x hi (by omega) h1 h2)
theorem zp_place_at {S : zS} {sh : zm_Sh} {mi : zm_Mi} {mr : zm_Mr} (hW : zW S) (hR : zR S sh mi mr) {i : Nat} (hi : i < zv_ns S) {f : Nat} (hf : f < zv_fr S i) : zs_at zs_mixC mi (1000 + 100 * i + 2) (zv_fr S i) f = zp_place S i f := by
  obtain ⟨a1, a2, -⟩ := zR_sh hW hR hi
  have hk := (hR.2.2.2.1 i hi).2.2.2.2.2.2.2.2.1
  exact zs_val_eq (K := fun x => S 19 (48 * i + x)) (E := 100000) a2 hf (fun x hx => hk.2.2.2 x hx) (fun x h1 h2 => hW.2.2.2.1.2.2.2.2.2 i x hi h1 h2)
theorem K_sheetDegree (S : zS) (sh : zm_Sh) (mi : zm_Mi) (mr : zm_Mr) (hW : zW S) (hR : zR S sh mi mr) (i : Nat) (hi : i < zv_ns S) (j : Nat) (hj : j < zv_jn S (zv_pu S i)) (f : Nat) (hf : f < zv_fr S i) : zz_Con yX2_sheetDegree (.code yX2_sheetDegree cX2_sheetDegree 3 (some Jvm.ClassFile.FieldType.int)) 4 0 0 [.ref (1000 + 100 * i), .int (nI j), .int (nI f)] sh mi mr (zz_q (some (.int (zp_deg S i j f))) sh mi mr) zz_none := by
  obtain ⟨a1, a2, a3, a4, a5, a6, a7, a8⟩ := zR_sh hW hR hi
  have hk := (hR.2.2.2.1 i hi).2.2.2.2.2.2.2.2.1
  have h := k_sheetDegree sh mi mr (1000 + 100 * i) (200 + 4 * zv_pu S i) (zv_jn S (zv_pu S i)) (zv_fr S i) (zv_st S i) (zv_sk S i) a1 a2 a3 a4 a5 a6 a7 a8 j hj (hk.1 j hj) f hf
  rw [zp_deg_at hW hR hi hj hf] at h
  exact h
theorem K_posedAsSheet (S : zS) (sh : zm_Sh) (mi : zm_Mi) (mr : zm_Mr) (hW : zW S) (hR : zR S sh mi mr) (i : Nat) (hi : i < zv_ns S) (f : Nat) (hf : f < zv_sk S i) : zz_Con yX2_posedAsSheet (.code yX2_posedAsSheet cX2_posedAsSheet 3 (some Jvm.ClassFile.FieldType.boolean)) 5 0 0 [.ref (1000 + 100 * i), .int (nI f)] sh mi mr (zz_q (some (.int (zz_bi (zs_any (fun j => ¬ S 22 (48 * (6 * i + j) + f) = zp_deg S i j f) (zv_jn S (zv_pu S i)) = false)))) sh mi mr) zz_none := by
  obtain ⟨a1, a2, a3, a4, a5, a6, a7, a8⟩ := zR_sh hW hR hi
  have hk := (hR.2.2.2.1 i hi).2.2.2.2.2.2.2.2.1
  have hr := (hR.2.2.2.1 i hi).2.2.2.2.2.2.2.2.2 f hf
  have h := k_posedAsSheet sh mi mr (1000 + 100 * i) (200 + 4 * zv_pu S i) (zv_jn S (zv_pu S i)) (zv_fr S i) (zv_st S i) (zv_sk S i) a1 a2 a3 a4 a5 a6 a7 a8 hk.1 f (by omega)
  have e : zs_any (fun j => ¬ mi (1000 + 100 * i + 40 + j) f = zs_at zs_mixR mi (1000 + 100 * i + 20 + 3 * j) (zv_fr S i) (zs_pf (zv_st S i) f)) (zv_jn S (zv_pu S i)) = zs_any (fun j => ¬ S 22 (48 * (6 * i + j) + f) = zp_deg S i j f) (zv_jn S (zv_pu S i)) := by
    rw [Bool.eq_iff_iff, zs_any_iff, zs_any_iff]
    constructor
    · rintro ⟨j, h1, h2⟩
      exact ⟨j, h1, by rw [← hr.2.2.2.2.2 j h1, ← zp_deg_at hW hR hi h1 (by omega)]; exact h2⟩
    · rintro ⟨j, h1, h2⟩
      refine ⟨j, h1, ?_⟩
      rw [hr.2.2.2.2.2 j h1, zp_deg_at hW hR hi h1 (by omega)]
      exact h2
  rw [e] at h
  exact h
theorem K_placeAt (S : zS) (sh : zm_Sh) (mi : zm_Mi) (mr : zm_Mr) (hW : zW S) (hR : zR S sh mi mr) (i : Nat) (hi : i < zv_ns S) (f : Nat) (hf : f < zv_fr S i) : zz_Con yX3_valueAt (.code yX3_valueAt cX3_valueAt 4 (some Jvm.ClassFile.FieldType.int)) 3 0 0 [.ref (1000 + 100 * i + 2), .int (nI f)] sh mi mr (zz_q (some (.int (zp_place S i f))) sh mi mr) zz_none := by
  obtain ⟨a1, a2, a3, a4, a5, a6, a7, a8⟩ := zR_sh hW hR hi
  have hk := (hR.2.2.2.1 i hi).2.2.2.2.2.2.2.2.1
  obtain ⟨-, -, -, -, -, -, -, -, q, -⟩ := a3
  have h := k_valueAtC sh mi mr (1000 + 100 * i + 2) (1000 + 100 * i + 2 + 1) (1000 + 100 * i + 2 + 2) (zv_fr S i) a2 q.1 q.2.1 q.2.2.1 q.2.2.2.1 q.2.2.2.2 hk.2.2.1 f hf
  rw [show zs_val zs_mixC (mi (1000 + 100 * i + 2 + 1)) _ _ _ = _ from zp_place_at hW hR hi hf] at h
  exact h
theorem K_lastMouth (S : zS) (sh : zm_Sh) (mi : zm_Mi) (mr : zm_Mr) (hW : zW S) (hR : zR S sh mi mr) (i : Nat) (hi : i < zv_ns S)  : zz_Con yX1_lastMouth (.code yX1_lastMouth cX1_lastMouth 1 (some Jvm.ClassFile.FieldType.int)) 0 0 0 [.ref (1000 + 100 * i + 5)] sh mi mr (zz_q (some (.int (zp_last S i))) sh mi mr) zz_none := by
  obtain ⟨a1, a2, a3, a4, a5, a6, a7, a8⟩ := zR_sh hW hR hi
  obtain ⟨-, -, -, -, -, -, -, -, -, r1, r2, r3, r4, r5, r6, r7, r8, r9, r10, r11, r12, r13, r14, r15⟩ := a3
  have h := k_lastMouth sh mi mr _ _ _ _ _ _ _ (zv_jn S (zv_pu S i)) (zv_fr S i) (zv_sk S i) a1 a2 r1 r2 r3 r4 r5 r6 r7 r8 r9 r10 r11 r12 r13 a6 a8
  have e : (if zv_sk S i = 0 then -1 else mi (1000 + 100 * i + 7) (zv_sk S i - 1)) = zp_last S i := by
    unfold zp_last
    by_cases h0 : zv_sk S i = 0
    · rw [if_pos h0, if_pos h0]
    · rw [if_neg h0, if_neg h0]
      exact ((hR.2.2.2.1 i hi).2.2.2.2.2.2.2.2.2 (zv_sk S i - 1) (by omega)).1
  rw [e] at h
  exact h
