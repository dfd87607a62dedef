/-! ===== the law's loop: the script read, a call of each side, the answers compared ===== -/
section ZL
variable {Γ : zz_C} {G : zz_G} {Q : State → Prop} {cells slots : Nat} {sh : zm_Sh} {mi : zm_Mi} {mr : zm_Mr} {pc : Nat} {ls : List (Nat × Value)} {st : List Value} {own : String} {cc : ByteArray} {d mc ms : Nat}
theorem zz_sld (X : zz_X Γ G own cc d mc ms) {l : Nat} (h10 : sh l = some (9, 0)) {i : Int32} (j : Nat) (hi : i = nI j) (hj : j < G.2.1.2.2.1) (hL : G.2.1.2.2.1 < 2 ^ 31) (hdg : decode cc pc = .ok (.iaload, 1)) (kk : zz Γ G Q cells slots sh mi mr (pc + 1) ls (.int (G.2.1.2.2.2 j) :: st)) : zz Γ G Q cells slots sh mi mr pc ls (.int i :: .ref l :: st) := by
  intro ad H locs la h
  subst hi
  have K := X.2.2.2.2.2.2.1
  obtain ⟨⟨hbl, hX⟩, hsz⟩ := K.2.2.2.2.2.2.2.2.2
  have e10 : ad l = G.2.1.2.1 := h.1.2.2 l h10
  have hc : (nI j).toNatClampNeg = j := nI_clamp (by omega)
  have k2 := kk ad H locs la (h.ws (zm_oc trivial (zm_ot (zm_ot h.oks))))
  rw [← hc] at k2
  show zz_W Γ H locs cells slots Q (F0 (zz_m Γ) pc la (.int (nI j) :: .ref (ad l) :: st.map (zm_cv ad)))
  rw [e10]
  exact va_sld X.1 X.2.1 hX (by omega) (Nat.not_le.mpr hbl) h.2.1 (vp_in_nI hj hL) hdg k2
theorem zz_slen (X : zz_X Γ G own cc d mc ms) {l : Nat} (h10 : sh l = some (9, 0)) (hdg : decode cc pc = .ok (.arraylength, 1)) (kk : zz Γ G Q cells slots sh mi mr (pc + 1) ls (.int (nI G.2.1.2.2.1) :: st)) : zz Γ G Q cells slots sh mi mr pc ls (.ref l :: st) := by
  intro ad H locs la h
  have K := X.2.2.2.2.2.2.1
  obtain ⟨⟨hbl, hX⟩, hsz⟩ := K.2.2.2.2.2.2.2.2.2
  have e10 : ad l = G.2.1.2.1 := h.1.2.2 l h10
  have k2 := kk ad H locs la (h.ws (zm_oc trivial (zm_ot h.oks)))
  show zz_W Γ H locs cells slots Q (F0 (zz_m Γ) pc la (.ref (ad l) :: st.map (zm_cv ad)))
  rw [e10]
  exact va_slen X.1 X.2.1 hX (by omega) (Nat.not_le.mpr hbl) h.2.1 hdg k2
end ZL
theorem lg_cmp_self (x : Int64) : lg_cmp x x = 0 := by
  unfold lg_cmp
  rw [if_neg (by rw [gt_iff_lt]; exact Int64.lt_irrefl), if_pos rfl]
theorem M_thrown (sh : zm_Sh) (mi : zm_Mi) (mr : zm_Mr) (h1 : sh 1 = some (0, 6)) : zz_Con yX6_thrown (.code yX6_thrown cX6_thrown 1 (some Jvm.ClassFile.FieldType.int)) 0 0 0 [.ref 1] sh mi mr (zz_q (some (.int (mi 1 30))) sh mi mr) zz_none := by
  refine zz_begin RX6 [(0, .ref 1)] (by decide) rfl rfl (Nat.le_of_ble_eq_true rfl) rfl ?_
  intro Γ D E ad hX hr hN hT
  refine zz_aload_n hX dX6_thrown_0 0 rfl rfl ?_
  refine zz_getI hX zf_F_X6_84.r h1 rfl rfl dX6_thrown_1 ?_
  exact zz_iret hX hr rfl (Nat.le_of_ble_eq_true rfl) (Nat.le_of_ble_eq_true rfl) dX6_thrown_4 ⟨rfl, rfl, rfl, rfl⟩
/-- both sides hold the state -/
def zl_I (S : zS) (sh : zm_Sh) (mi : zm_Mi) (mr : zm_Mr) : Prop := zW S ∧ zR S sh mi mr ∧ zM S sh mi mr ∧ sh 8 = some (3, 1) ∧ sh 10 = some (9, 0)
abbrev zl_ls (n : Nat) : List (Nat × Value) := [(0, .ref 10), (1, .ref 2), (2, .ref 1), (3, .ref 8), (4, .int (nI (5 * n)))]
def zl_N (Γ : zz_C) (G : zz_G) (Q : State → Prop) (n cells slots : Nat) : Prop := ∀ (S : zS) (sh : zm_Sh) (mi : zm_Mi) (mr : zm_Mr) (c s : Nat), zl_I S sh mi mr → c ≤ cells + 60 → s ≤ slots + 1460 → zz Γ G Q c s sh mi mr 2329 (zl_ls n) []
theorem zl_join {A B C : Prop} {kI kA kS a k b : Int32} {S S' : zS} {sh s9 s7 : zm_Sh} {mi i9 i7 : zm_Mi} {mr m9 m7 : zm_Mr} {P : Int32 → Prop} (hI : zl_I S sh mi mr) (hU : A → B → C → zW S') (hk : (A ∨ kI ≠ nI 0) ∧ (B ∨ kA ≠ nI 0) ∧ (C ∨ kS ≠ nI 0)) (hP : P a)
    (hw : (A ∧ B ∧ C ∧ k = nI 0 ∧ i9 8 0 = a ∧ zR S' s9 i9 m9) ∨ (¬ A ∧ k = kI ∧ zR S s9 i9 m9) ∨ (A ∧ ¬ B ∧ k = kA ∧ zR S s9 i9 m9) ∨ (A ∧ B ∧ ¬ C ∧ k = kS ∧ zR S s9 i9 m9)) (h8 : s9 8 = some (3, 1)) (hf : ∀ l, l < 2 ∨ (9 ≤ l ∧ l < 200) → s9 l = sh l ∧ i9 l = mi l ∧ m9 l = mr l)
    (hm : (A ∧ B ∧ C ∧ i7 1 30 = nI 0 ∧ b = a ∧ zM S' s7 i7 m7) ∨ (¬ A ∧ i7 1 30 = kI ∧ zM S s7 i7 m7) ∨ (A ∧ ¬ B ∧ i7 1 30 = kA ∧ zM S s7 i7 m7) ∨ (A ∧ B ∧ ¬ C ∧ i7 1 30 = kS ∧ zM S s7 i7 m7)) (hg : zr_same zr_mout s9 i9 m9 s7 i7 m7) : i7 1 30 = k ∧ (k = 0 → i7 8 0 = b ∧ P b) ∧ ∃ T, zl_I T s7 i7 m7 := by
  obtain ⟨hW, -, -, -, h10⟩ := hI
  have g8 := hg 8 ⟨by decide, by decide⟩
  have g10 := hg 10 ⟨by decide, by decide⟩
  have H8 : s7 8 = some (3, 1) := g8.1.trans h8
  have H10 : s7 10 = some (9, 0) := g10.1.trans ((hf 10 (Or.inr ⟨by decide, by decide⟩)).1.trans h10)
  have HR : ∀ T, zW T → zR T s9 i9 m9 → zR T s7 i7 m7 := fun T w r => zR_same w r (fun l hl => hg l (by unfold zr_cl at hl; unfold zr_mout; omega))
  have z0 : (0 : Int32) = nI 0 := nI_0.symm
  rcases hw with ⟨hA, hB, hC, e1, e2, r⟩ | ⟨hA, e1, r⟩ | ⟨hA, hB, e1, r⟩ | ⟨hA, hB, hC, e1, r⟩
  · rcases hm with ⟨-, -, -, f1, f2, q⟩ | ⟨x, -⟩ | ⟨-, x, -⟩ | ⟨-, -, x, -⟩
    · have w := hU hA hB hC
      exact ⟨f1.trans e1.symm, fun _ => ⟨by rw [f2, ← e2]; exact congrFun g8.2.1 0, by rw [f2]; exact hP⟩, S', w, HR S' w r, q, H8, H10⟩
    · exact absurd hA x
    · exact absurd hB x
    · exact absurd hC x
  · rcases hm with ⟨x, -⟩ | ⟨-, f1, q⟩ | ⟨x, -⟩ | ⟨x, -⟩
    · exact absurd x hA
    · exact ⟨f1.trans e1.symm, fun c => absurd (e1.symm.trans (c.trans z0)) (hk.1.resolve_left hA), S, hW, HR S hW r, q, H8, H10⟩
    · exact absurd x hA
    · exact absurd x hA
  · rcases hm with ⟨-, x, -⟩ | ⟨x, -⟩ | ⟨-, -, f1, q⟩ | ⟨-, x, -⟩
    · exact absurd x hB
    · exact absurd hA x
    · exact ⟨f1.trans e1.symm, fun c => absurd (e1.symm.trans (c.trans z0)) (hk.2.1.resolve_left hB), S, hW, HR S hW r, q, H8, H10⟩
    · exact absurd x hB
  · rcases hm with ⟨-, -, x, -⟩ | ⟨x, -⟩ | ⟨-, x, -⟩ | ⟨-, -, -, f1, q⟩
    · exact absurd x hC
    · exact absurd hA x
    · exact absurd hB x
    · exact ⟨f1.trans e1.symm, fun c => absurd (e1.symm.trans (c.trans z0)) (hk.2.2.resolve_left hC), S, hW, HR S hW r, q, H8, H10⟩
section ZLL
variable {Γ : zz_C} {G : zz_G} {Q : State → Prop} {cells slots : Nat} {mc ms : Nat}
theorem L_puppet (hX : zz_X Γ G RL cL_law 12 mc ms) (hml : G.2.2.1 = 7) (S : zS) (sh : zm_Sh) (mi : zm_Mi) (mr : zm_Mr) (n : Nat) (hl : 5 * n + 5 ≤ G.2.1.2.2.1) (hL : G.2.1.2.2.1 ≤ 2560) (hI : zl_I S sh mi mr) (hc : cells + 60 ≤ mc) (hs : slots + 1460 ≤ ms) (hN : zl_N Γ G Q n cells slots) : zz Γ G Q cells slots sh mi mr 184 (zl_ls n) [] := by
  obtain ⟨hW, hR, hM, h8, h10⟩ := id hI
  have h5 : 5 < G.2.2.1 := by rw [hml]; decide
  have h6 : 6 < G.2.2.1 := by rw [hml]; decide
  refine zz_aload_n hX dL_law_184 1 rfl rfl ?_
  refine zz_aload_n hX dL_law_185 0 rfl rfl ?_
  refine zz_iload hX dL_law_186 4 rfl ?_
  refine zz_iconst (v := nI 1) hX dL_law_188 rfl ?_
  refine zz_iadd (z := nI (5 * n + 1)) hX dL_law_189 (nI_add _ _) ?_
  refine zz_sld hX h10 (5 * n + 1) rfl (by omega) (by omega) dL_law_190 ?_
  refine zz_aload_n hX dL_law_191 3 rfl rfl ?_
  refine zz_callSH hX zf_M_L_118 (As := [.ref 2, .int (G.2.1.2.2.2 (5 * n + 1)), .ref 8]) (st := []) (W_puppet S sh mi mr hW hR h8 (G.2.1.2.2.2 (5 * n + 1)) ) rfl rfl (by decide) (by decide) (by omega) (by omega) dL_law_192 ?_ (fun _ _ _ _ h _ => h.elim)
  rintro v9 s9 i9 m9 ⟨k, rfl, hw, h89, hf⟩ -
  have hM9 : zM S s9 i9 m9 := zM_same hM (fun l hl => hf l (by omega))
  have h10b : s9 10 = some (9, 0) := (hf 10 (Or.inr ⟨by decide, by decide⟩)).1.trans h10
  refine zz_istore (ls' := [(0, .ref 10), (1, .ref 2), (2, .ref 1), (3, .ref 8), (4, .int (nI (5 * n))), (5, .int k)]) hX dL_law_195 h5 rfl ?_
  refine zz_aload_n hX dL_law_197 2 rfl rfl ?_
  refine zz_aload_n hX dL_law_198 0 rfl rfl ?_
  refine zz_iload hX dL_law_199 4 rfl ?_
  refine zz_iconst (v := nI 1) hX dL_law_201 rfl ?_
  refine zz_iadd (z := nI (5 * n + 1)) hX dL_law_202 (nI_add _ _) ?_
  refine zz_sld hX h10b (5 * n + 1) rfl (by omega) (by omega) dL_law_203 ?_
  refine zz_callV hX zf_M_L_123 (As := [.int (G.2.1.2.2.2 (5 * n + 1))]) (st := []) (MP_puppet S s9 i9 m9 hW hM9 (G.2.1.2.2.2 (5 * n + 1))  ) hM9.1 rfl rfl rfl (by decide) (by decide) (by omega) (by omega) dL_law_204 ?_ (fun _ _ _ _ h _ => h.elim)
  rintro v7 s7 i7 m7 ⟨b, rfl, hm, hg⟩ -
  obtain ⟨j1, j2, T, hT⟩ := zl_join (P := fun _ => True) hI (fun hA hB hC => U_puppet hW (G.2.1.2.2.2 (5 * n + 1))  hA hB hC) ⟨Or.inl trivial, Or.inr (by decide), Or.inr (by decide)⟩ trivial hw h89 hf hm hg
  have hM7 := hT.2.2.1.1
  have h87 := hT.2.2.2.1
  refine zz_istore (ls' := [(0, .ref 10), (1, .ref 2), (2, .ref 1), (3, .ref 8), (4, .int (nI (5 * n))), (5, .int k), (6, .int b)]) hX dL_law_207 h6 rfl ?_
  refine zz_aload_n hX dL_law_209 2 rfl rfl ?_
  refine zz_vI (x := i7 1 30) hX zf_M_L_124 (As := []) (st := []) (M_thrown s7 i7 m7 hM7) hM7 rfl rfl rfl (by decide) (by decide) (by omega) (by omega) dL_law_210 ?_
  refine zz_iload hX dL_law_213 5 rfl ?_
  refine zz_icmp_eq hX 220 dL_law_215 rfl (fun _ => ?_) (fun c => absurd j1 c)
  refine zz_iload hX dL_law_220 5 rfl ?_
  have fin : ∀ c s, c ≤ cells + 60 → s ≤ slots + 1460 → zz Γ G Q c s s7 i7 m7 237 [(0, .ref 10), (1, .ref 2), (2, .ref 1), (3, .ref 8), (4, .int (nI (5 * n))), (5, .int k), (6, .int b)] [] := fun c s hc hs => zz_goto hX 2329 dL_law_237 rfl (zz_pick [0, 1, 2, 3, 4] rfl (hN T s7 i7 m7 c s hT hc hs))
  refine zz_if_ne hX 237 dL_law_222 rfl (fun _ => fin _ _ (by omega) (by omega)) (fun c0k => ?_)
  obtain ⟨j3, j4⟩ := j2 c0k
  refine zz_aload_n hX dL_law_225 3 rfl rfl ?_
  refine zz_iconst (v := nI 0) hX dL_law_226 rfl ?_
  refine zz_lald hX h87 0 rfl (by decide) (by decide) dL_law_227 ?_
  refine zz_iload hX dL_law_228 6 rfl ?_
  refine zz_i2l hX dL_law_230 ?_
  refine zz_lcmp hX dL_law_231 ?_
  exact zz_if_eq hX 237 dL_law_232 rfl (fun _ => fin _ _ (by omega) (by omega)) (fun c => absurd (by rw [j3]; exact lg_cmp_self _) c)
theorem L_mouths (hX : zz_X Γ G RL cL_law 12 mc ms) (hml : G.2.2.1 = 7) (S : zS) (sh : zm_Sh) (mi : zm_Mi) (mr : zm_Mr) (n : Nat) (hl : 5 * n + 5 ≤ G.2.1.2.2.1) (hL : G.2.1.2.2.1 ≤ 2560) (hI : zl_I S sh mi mr) (hc : cells + 60 ≤ mc) (hs : slots + 1460 ≤ ms) (hN : zl_N Γ G Q n cells slots) : zz Γ G Q cells slots sh mi mr 240 (zl_ls n) [] := by
  obtain ⟨hW, hR, hM, h8, h10⟩ := id hI
  have h5 : 5 < G.2.2.1 := by rw [hml]; decide
  have h6 : 6 < G.2.2.1 := by rw [hml]; decide
  refine zz_aload_n hX dL_law_240 1 rfl rfl ?_
  refine zz_aload_n hX dL_law_241 0 rfl rfl ?_
  refine zz_iload hX dL_law_242 4 rfl ?_
  refine zz_iconst (v := nI 1) hX dL_law_244 rfl ?_
  refine zz_iadd (z := nI (5 * n + 1)) hX dL_law_245 (nI_add _ _) ?_
  refine zz_sld hX h10 (5 * n + 1) rfl (by omega) (by omega) dL_law_246 ?_
  refine zz_aload_n hX dL_law_247 0 rfl rfl ?_
  refine zz_iload hX dL_law_248 4 rfl ?_
  refine zz_iconst (v := nI 2) hX dL_law_250 rfl ?_
  refine zz_iadd (z := nI (5 * n + 2)) hX dL_law_251 (nI_add _ _) ?_
  refine zz_sld hX h10 (5 * n + 2) rfl (by omega) (by omega) dL_law_252 ?_
  refine zz_aload_n hX dL_law_253 0 rfl rfl ?_
  refine zz_iload hX dL_law_254 4 rfl ?_
  refine zz_iconst (v := nI 3) hX dL_law_256 rfl ?_
  refine zz_iadd (z := nI (5 * n + 3)) hX dL_law_257 (nI_add _ _) ?_
  refine zz_sld hX h10 (5 * n + 3) rfl (by omega) (by omega) dL_law_258 ?_
  refine zz_aload_n hX dL_law_259 3 rfl rfl ?_
  refine zz_callSH hX zf_M_L_127 (As := [.ref 2, .int (G.2.1.2.2.2 (5 * n + 1)), .int (G.2.1.2.2.2 (5 * n + 2)), .int (G.2.1.2.2.2 (5 * n + 3)), .ref 8]) (st := []) (W_mouths S sh mi mr hW hR h8 (G.2.1.2.2.2 (5 * n + 1)) (G.2.1.2.2.2 (5 * n + 2)) (G.2.1.2.2.2 (5 * n + 3)) ) rfl rfl (by decide) (by decide) (by omega) (by omega) dL_law_260 ?_ (fun _ _ _ _ h _ => h.elim)
  rintro v9 s9 i9 m9 ⟨k, rfl, hw, h89, hf⟩ -
  have hM9 : zM S s9 i9 m9 := zM_same hM (fun l hl => hf l (by omega))
  have h10b : s9 10 = some (9, 0) := (hf 10 (Or.inr ⟨by decide, by decide⟩)).1.trans h10
  refine zz_istore (ls' := [(0, .ref 10), (1, .ref 2), (2, .ref 1), (3, .ref 8), (4, .int (nI (5 * n))), (5, .int k)]) hX dL_law_263 h5 rfl ?_
  refine zz_aload_n hX dL_law_265 2 rfl rfl ?_
  refine zz_aload_n hX dL_law_266 0 rfl rfl ?_
  refine zz_iload hX dL_law_267 4 rfl ?_
  refine zz_iconst (v := nI 1) hX dL_law_269 rfl ?_
  refine zz_iadd (z := nI (5 * n + 1)) hX dL_law_270 (nI_add _ _) ?_
  refine zz_sld hX h10b (5 * n + 1) rfl (by omega) (by omega) dL_law_271 ?_
  refine zz_aload_n hX dL_law_272 0 rfl rfl ?_
  refine zz_iload hX dL_law_273 4 rfl ?_
  refine zz_iconst (v := nI 2) hX dL_law_275 rfl ?_
  refine zz_iadd (z := nI (5 * n + 2)) hX dL_law_276 (nI_add _ _) ?_
  refine zz_sld hX h10b (5 * n + 2) rfl (by omega) (by omega) dL_law_277 ?_
  refine zz_aload_n hX dL_law_278 0 rfl rfl ?_
  refine zz_iload hX dL_law_279 4 rfl ?_
  refine zz_iconst (v := nI 3) hX dL_law_281 rfl ?_
  refine zz_iadd (z := nI (5 * n + 3)) hX dL_law_282 (nI_add _ _) ?_
  refine zz_sld hX h10b (5 * n + 3) rfl (by omega) (by omega) dL_law_283 ?_
  refine zz_callV hX zf_M_L_130 (As := [.int (G.2.1.2.2.2 (5 * n + 1)), .int (G.2.1.2.2.2 (5 * n + 2)), .int (G.2.1.2.2.2 (5 * n + 3))]) (st := []) (MP_mouths S s9 i9 m9 hW hM9 (G.2.1.2.2.2 (5 * n + 1)) (G.2.1.2.2.2 (5 * n + 2)) (G.2.1.2.2.2 (5 * n + 3))  ) hM9.1 rfl rfl rfl (by decide) (by decide) (by omega) (by omega) dL_law_284 ?_ (fun _ _ _ _ h _ => h.elim)
  rintro v7 s7 i7 m7 ⟨b, rfl, hm, hg⟩ -
  obtain ⟨j1, j2, T, hT⟩ := zl_join (P := fun _ => True) hI (fun hA hB hC => U_mouths hW (G.2.1.2.2.2 (5 * n + 1)) (G.2.1.2.2.2 (5 * n + 2)) (G.2.1.2.2.2 (5 * n + 3))  hA hB hC) ⟨Or.inr (by decide), Or.inr (by decide), Or.inr (by decide)⟩ trivial hw h89 hf hm hg
  have hM7 := hT.2.2.1.1
  have h87 := hT.2.2.2.1
  refine zz_istore (ls' := [(0, .ref 10), (1, .ref 2), (2, .ref 1), (3, .ref 8), (4, .int (nI (5 * n))), (5, .int k), (6, .int b)]) hX dL_law_287 h6 rfl ?_
  refine zz_aload_n hX dL_law_289 2 rfl rfl ?_
  refine zz_vI (x := i7 1 30) hX zf_M_L_124 (As := []) (st := []) (M_thrown s7 i7 m7 hM7) hM7 rfl rfl rfl (by decide) (by decide) (by omega) (by omega) dL_law_290 ?_
  refine zz_iload hX dL_law_293 5 rfl ?_
  refine zz_icmp_eq hX 300 dL_law_295 rfl (fun _ => ?_) (fun c => absurd j1 c)
  refine zz_iload hX dL_law_300 5 rfl ?_
  have fin : ∀ c s, c ≤ cells + 60 → s ≤ slots + 1460 → zz Γ G Q c s s7 i7 m7 317 [(0, .ref 10), (1, .ref 2), (2, .ref 1), (3, .ref 8), (4, .int (nI (5 * n))), (5, .int k), (6, .int b)] [] := fun c s hc hs => zz_goto hX 2329 dL_law_317 rfl (zz_pick [0, 1, 2, 3, 4] rfl (hN T s7 i7 m7 c s hT hc hs))
  refine zz_if_ne hX 317 dL_law_302 rfl (fun _ => fin _ _ (by omega) (by omega)) (fun c0k => ?_)
  obtain ⟨j3, j4⟩ := j2 c0k
  refine zz_aload_n hX dL_law_305 3 rfl rfl ?_
  refine zz_iconst (v := nI 0) hX dL_law_306 rfl ?_
  refine zz_lald hX h87 0 rfl (by decide) (by decide) dL_law_307 ?_
  refine zz_iload hX dL_law_308 6 rfl ?_
  refine zz_i2l hX dL_law_310 ?_
  refine zz_lcmp hX dL_law_311 ?_
  exact zz_if_eq hX 317 dL_law_312 rfl (fun _ => fin _ _ (by omega) (by omega)) (fun c => absurd (by rw [j3]; exact lg_cmp_self _) c)
theorem L_sound (hX : zz_X Γ G RL cL_law 12 mc ms) (hml : G.2.2.1 = 7) (S : zS) (sh : zm_Sh) (mi : zm_Mi) (mr : zm_Mr) (n : Nat) (hl : 5 * n + 5 ≤ G.2.1.2.2.1) (hL : G.2.1.2.2.1 ≤ 2560) (hI : zl_I S sh mi mr) (hc : cells + 60 ≤ mc) (hs : slots + 1460 ≤ ms) (hN : zl_N Γ G Q n cells slots) : zz Γ G Q cells slots sh mi mr 320 (zl_ls n) [] := by
  obtain ⟨hW, hR, hM, h8, h10⟩ := id hI
  have h5 : 5 < G.2.2.1 := by rw [hml]; decide
  have h6 : 6 < G.2.2.1 := by rw [hml]; decide
  refine zz_aload_n hX dL_law_320 1 rfl rfl ?_
  refine zz_aload_n hX dL_law_321 0 rfl rfl ?_
  refine zz_iload hX dL_law_322 4 rfl ?_
  refine zz_iconst (v := nI 1) hX dL_law_324 rfl ?_
  refine zz_iadd (z := nI (5 * n + 1)) hX dL_law_325 (nI_add _ _) ?_
  refine zz_sld hX h10 (5 * n + 1) rfl (by omega) (by omega) dL_law_326 ?_
  refine zz_aload_n hX dL_law_327 0 rfl rfl ?_
  refine zz_iload hX dL_law_328 4 rfl ?_
  refine zz_iconst (v := nI 2) hX dL_law_330 rfl ?_
  refine zz_iadd (z := nI (5 * n + 2)) hX dL_law_331 (nI_add _ _) ?_
  refine zz_sld hX h10 (5 * n + 2) rfl (by omega) (by omega) dL_law_332 ?_
  refine zz_aload_n hX dL_law_333 3 rfl rfl ?_
  refine zz_callSH hX zf_M_L_131 (As := [.ref 2, .int (G.2.1.2.2.2 (5 * n + 1)), .int (G.2.1.2.2.2 (5 * n + 2)), .ref 8]) (st := []) (W_sound S sh mi mr hW hR h8 (G.2.1.2.2.2 (5 * n + 1)) (G.2.1.2.2.2 (5 * n + 2)) ) rfl rfl (by decide) (by decide) (by omega) (by omega) dL_law_334 ?_ (fun _ _ _ _ h _ => h.elim)
  rintro v9 s9 i9 m9 ⟨k, rfl, hw, h89, hf⟩ -
  have hM9 : zM S s9 i9 m9 := zM_same hM (fun l hl => hf l (by omega))
  have h10b : s9 10 = some (9, 0) := (hf 10 (Or.inr ⟨by decide, by decide⟩)).1.trans h10
  refine zz_istore (ls' := [(0, .ref 10), (1, .ref 2), (2, .ref 1), (3, .ref 8), (4, .int (nI (5 * n))), (5, .int k)]) hX dL_law_337 h5 rfl ?_
  refine zz_aload_n hX dL_law_339 2 rfl rfl ?_
  refine zz_aload_n hX dL_law_340 0 rfl rfl ?_
  refine zz_iload hX dL_law_341 4 rfl ?_
  refine zz_iconst (v := nI 1) hX dL_law_343 rfl ?_
  refine zz_iadd (z := nI (5 * n + 1)) hX dL_law_344 (nI_add _ _) ?_
  refine zz_sld hX h10b (5 * n + 1) rfl (by omega) (by omega) dL_law_345 ?_
  refine zz_aload_n hX dL_law_346 0 rfl rfl ?_
  refine zz_iload hX dL_law_347 4 rfl ?_
  refine zz_iconst (v := nI 2) hX dL_law_349 rfl ?_
  refine zz_iadd (z := nI (5 * n + 2)) hX dL_law_350 (nI_add _ _) ?_
  refine zz_sld hX h10b (5 * n + 2) rfl (by omega) (by omega) dL_law_351 ?_
  refine zz_callV hX zf_M_L_134 (As := [.int (G.2.1.2.2.2 (5 * n + 1)), .int (G.2.1.2.2.2 (5 * n + 2))]) (st := []) (MP_sound S s9 i9 m9 hW hM9 (G.2.1.2.2.2 (5 * n + 1)) (G.2.1.2.2.2 (5 * n + 2))  ) hM9.1 rfl rfl rfl (by decide) (by decide) (by omega) (by omega) dL_law_352 ?_ (fun _ _ _ _ h _ => h.elim)
  rintro v7 s7 i7 m7 ⟨b, rfl, hm, hg⟩ -
  obtain ⟨j1, j2, T, hT⟩ := zl_join (P := fun _ => True) hI (fun hA hB hC => U_sound hW (G.2.1.2.2.2 (5 * n + 1)) (G.2.1.2.2.2 (5 * n + 2))  hA hB hC) ⟨Or.inl trivial, Or.inr (by decide), Or.inr (by decide)⟩ trivial hw h89 hf hm hg
  have hM7 := hT.2.2.1.1
  have h87 := hT.2.2.2.1
  refine zz_istore (ls' := [(0, .ref 10), (1, .ref 2), (2, .ref 1), (3, .ref 8), (4, .int (nI (5 * n))), (5, .int k), (6, .int b)]) hX dL_law_355 h6 rfl ?_
  refine zz_aload_n hX dL_law_357 2 rfl rfl ?_
  refine zz_vI (x := i7 1 30) hX zf_M_L_124 (As := []) (st := []) (M_thrown s7 i7 m7 hM7) hM7 rfl rfl rfl (by decide) (by decide) (by omega) (by omega) dL_law_358 ?_
  refine zz_iload hX dL_law_361 5 rfl ?_
  refine zz_icmp_eq hX 368 dL_law_363 rfl (fun _ => ?_) (fun c => absurd j1 c)
  refine zz_iload hX dL_law_368 5 rfl ?_
  have fin : ∀ c s, c ≤ cells + 60 → s ≤ slots + 1460 → zz Γ G Q c s s7 i7 m7 385 [(0, .ref 10), (1, .ref 2), (2, .ref 1), (3, .ref 8), (4, .int (nI (5 * n))), (5, .int k), (6, .int b)] [] := fun c s hc hs => zz_goto hX 2329 dL_law_385 rfl (zz_pick [0, 1, 2, 3, 4] rfl (hN T s7 i7 m7 c s hT hc hs))
  refine zz_if_ne hX 385 dL_law_370 rfl (fun _ => fin _ _ (by omega) (by omega)) (fun c0k => ?_)
  obtain ⟨j3, j4⟩ := j2 c0k
  refine zz_aload_n hX dL_law_373 3 rfl rfl ?_
  refine zz_iconst (v := nI 0) hX dL_law_374 rfl ?_
  refine zz_lald hX h87 0 rfl (by decide) (by decide) dL_law_375 ?_
  refine zz_iload hX dL_law_376 6 rfl ?_
  refine zz_i2l hX dL_law_378 ?_
  refine zz_lcmp hX dL_law_379 ?_
  exact zz_if_eq hX 385 dL_law_380 rfl (fun _ => fin _ _ (by omega) (by omega)) (fun c => absurd (by rw [j3]; exact lg_cmp_self _) c)
theorem L_voice (hX : zz_X Γ G RL cL_law 12 mc ms) (hml : G.2.2.1 = 7) (S : zS) (sh : zm_Sh) (mi : zm_Mi) (mr : zm_Mr) (n : Nat) (hl : 5 * n + 5 ≤ G.2.1.2.2.1) (hL : G.2.1.2.2.1 ≤ 2560) (hI : zl_I S sh mi mr) (hc : cells + 60 ≤ mc) (hs : slots + 1460 ≤ ms) (hN : zl_N Γ G Q n cells slots) : zz Γ G Q cells slots sh mi mr 388 (zl_ls n) [] := by
  obtain ⟨hW, hR, hM, h8, h10⟩ := id hI
  have h5 : 5 < G.2.2.1 := by rw [hml]; decide
  have h6 : 6 < G.2.2.1 := by rw [hml]; decide
  refine zz_aload_n hX dL_law_388 1 rfl rfl ?_
  refine zz_aload_n hX dL_law_389 3 rfl rfl ?_
  refine zz_callSH hX zf_M_L_135 (As := [.ref 2, .ref 8]) (st := []) (W_voice S sh mi mr hW hR h8  ) rfl rfl (by decide) (by decide) (by omega) (by omega) dL_law_390 ?_ (fun _ _ _ _ h _ => h.elim)
  rintro v9 s9 i9 m9 ⟨k, rfl, hw, h89, hf⟩ -
  have hM9 : zM S s9 i9 m9 := zM_same hM (fun l hl => hf l (by omega))
  have h10b : s9 10 = some (9, 0) := (hf 10 (Or.inr ⟨by decide, by decide⟩)).1.trans h10
  refine zz_istore (ls' := [(0, .ref 10), (1, .ref 2), (2, .ref 1), (3, .ref 8), (4, .int (nI (5 * n))), (5, .int k)]) hX dL_law_393 h5 rfl ?_
  refine zz_aload_n hX dL_law_395 2 rfl rfl ?_
  refine zz_callV hX zf_M_L_138 (As := []) (st := []) (MP_voice S s9 i9 m9 hW hM9   ) hM9.1 rfl rfl rfl (by decide) (by decide) (by omega) (by omega) dL_law_396 ?_ (fun _ _ _ _ h _ => h.elim)
  rintro v7 s7 i7 m7 ⟨b, rfl, hm, hg⟩ -
  obtain ⟨j1, j2, T, hT⟩ := zl_join (P := fun _ => True) hI (fun hA hB hC => U_voice hW   hA hB hC) ⟨Or.inl trivial, Or.inl trivial, Or.inr (by decide)⟩ trivial hw h89 hf hm hg
  have hM7 := hT.2.2.1.1
  have h87 := hT.2.2.2.1
  refine zz_istore (ls' := [(0, .ref 10), (1, .ref 2), (2, .ref 1), (3, .ref 8), (4, .int (nI (5 * n))), (5, .int k), (6, .int b)]) hX dL_law_399 h6 rfl ?_
  refine zz_aload_n hX dL_law_401 2 rfl rfl ?_
  refine zz_vI (x := i7 1 30) hX zf_M_L_124 (As := []) (st := []) (M_thrown s7 i7 m7 hM7) hM7 rfl rfl rfl (by decide) (by decide) (by omega) (by omega) dL_law_402 ?_
  refine zz_iload hX dL_law_405 5 rfl ?_
  refine zz_icmp_eq hX 412 dL_law_407 rfl (fun _ => ?_) (fun c => absurd j1 c)
  refine zz_iload hX dL_law_412 5 rfl ?_
  have fin : ∀ c s, c ≤ cells + 60 → s ≤ slots + 1460 → zz Γ G Q c s s7 i7 m7 429 [(0, .ref 10), (1, .ref 2), (2, .ref 1), (3, .ref 8), (4, .int (nI (5 * n))), (5, .int k), (6, .int b)] [] := fun c s hc hs => zz_goto hX 2329 dL_law_429 rfl (zz_pick [0, 1, 2, 3, 4] rfl (hN T s7 i7 m7 c s hT hc hs))
  refine zz_if_ne hX 429 dL_law_414 rfl (fun _ => fin _ _ (by omega) (by omega)) (fun c0k => ?_)
  obtain ⟨j3, j4⟩ := j2 c0k
  refine zz_aload_n hX dL_law_417 3 rfl rfl ?_
  refine zz_iconst (v := nI 0) hX dL_law_418 rfl ?_
  refine zz_lald hX h87 0 rfl (by decide) (by decide) dL_law_419 ?_
  refine zz_iload hX dL_law_420 6 rfl ?_
  refine zz_i2l hX dL_law_422 ?_
  refine zz_lcmp hX dL_law_423 ?_
  exact zz_if_eq hX 429 dL_law_424 rfl (fun _ => fin _ _ (by omega) (by omega)) (fun c => absurd (by rw [j3]; exact lg_cmp_self _) c)
theorem L_shot (hX : zz_X Γ G RL cL_law 12 mc ms) (hml : G.2.2.1 = 7) (S : zS) (sh : zm_Sh) (mi : zm_Mi) (mr : zm_Mr) (n : Nat) (hl : 5 * n + 5 ≤ G.2.1.2.2.1) (hL : G.2.1.2.2.1 ≤ 2560) (hI : zl_I S sh mi mr) (hc : cells + 60 ≤ mc) (hs : slots + 1460 ≤ ms) (hN : zl_N Γ G Q n cells slots) : zz Γ G Q cells slots sh mi mr 432 (zl_ls n) [] := by
  obtain ⟨hW, hR, hM, h8, h10⟩ := id hI
  have h5 : 5 < G.2.2.1 := by rw [hml]; decide
  have h6 : 6 < G.2.2.1 := by rw [hml]; decide
  refine zz_aload_n hX dL_law_432 1 rfl rfl ?_
  refine zz_aload_n hX dL_law_433 0 rfl rfl ?_
  refine zz_iload hX dL_law_434 4 rfl ?_
  refine zz_iconst (v := nI 1) hX dL_law_436 rfl ?_
  refine zz_iadd (z := nI (5 * n + 1)) hX dL_law_437 (nI_add _ _) ?_
  refine zz_sld hX h10 (5 * n + 1) rfl (by omega) (by omega) dL_law_438 ?_
  refine zz_aload_n hX dL_law_439 0 rfl rfl ?_
  refine zz_iload hX dL_law_440 4 rfl ?_
  refine zz_iconst (v := nI 2) hX dL_law_442 rfl ?_
  refine zz_iadd (z := nI (5 * n + 2)) hX dL_law_443 (nI_add _ _) ?_
  refine zz_sld hX h10 (5 * n + 2) rfl (by omega) (by omega) dL_law_444 ?_
  refine zz_aload_n hX dL_law_445 0 rfl rfl ?_
  refine zz_iload hX dL_law_446 4 rfl ?_
  refine zz_iconst (v := nI 3) hX dL_law_448 rfl ?_
  refine zz_iadd (z := nI (5 * n + 3)) hX dL_law_449 (nI_add _ _) ?_
  refine zz_sld hX h10 (5 * n + 3) rfl (by omega) (by omega) dL_law_450 ?_
  refine zz_aload_n hX dL_law_451 0 rfl rfl ?_
  refine zz_iload hX dL_law_452 4 rfl ?_
  refine zz_iconst (v := nI 4) hX dL_law_454 rfl ?_
  refine zz_iadd (z := nI (5 * n + 4)) hX dL_law_455 (nI_add _ _) ?_
  refine zz_sld hX h10 (5 * n + 4) rfl (by omega) (by omega) dL_law_456 ?_
  refine zz_aload_n hX dL_law_457 3 rfl rfl ?_
  refine zz_callSH hX zf_M_L_139 (As := [.ref 2, .int (G.2.1.2.2.2 (5 * n + 1)), .int (G.2.1.2.2.2 (5 * n + 2)), .int (G.2.1.2.2.2 (5 * n + 3)), .int (G.2.1.2.2.2 (5 * n + 4)), .ref 8]) (st := []) (W_shot S sh mi mr hW hR h8 (G.2.1.2.2.2 (5 * n + 1)) (G.2.1.2.2.2 (5 * n + 2)) (G.2.1.2.2.2 (5 * n + 3)) (G.2.1.2.2.2 (5 * n + 4)) ) rfl rfl (by decide) (by decide) (by omega) (by omega) dL_law_458 ?_ (fun _ _ _ _ h _ => h.elim)
  rintro v9 s9 i9 m9 ⟨k, rfl, hw, h89, hf⟩ -
  have hM9 : zM S s9 i9 m9 := zM_same hM (fun l hl => hf l (by omega))
  have h10b : s9 10 = some (9, 0) := (hf 10 (Or.inr ⟨by decide, by decide⟩)).1.trans h10
  refine zz_istore (ls' := [(0, .ref 10), (1, .ref 2), (2, .ref 1), (3, .ref 8), (4, .int (nI (5 * n))), (5, .int k)]) hX dL_law_461 h5 rfl ?_
  refine zz_aload_n hX dL_law_463 2 rfl rfl ?_
  refine zz_aload_n hX dL_law_464 0 rfl rfl ?_
  refine zz_iload hX dL_law_465 4 rfl ?_
  refine zz_iconst (v := nI 1) hX dL_law_467 rfl ?_
  refine zz_iadd (z := nI (5 * n + 1)) hX dL_law_468 (nI_add _ _) ?_
  refine zz_sld hX h10b (5 * n + 1) rfl (by omega) (by omega) dL_law_469 ?_
  refine zz_aload_n hX dL_law_470 0 rfl rfl ?_
  refine zz_iload hX dL_law_471 4 rfl ?_
  refine zz_iconst (v := nI 2) hX dL_law_473 rfl ?_
  refine zz_iadd (z := nI (5 * n + 2)) hX dL_law_474 (nI_add _ _) ?_
  refine zz_sld hX h10b (5 * n + 2) rfl (by omega) (by omega) dL_law_475 ?_
  refine zz_aload_n hX dL_law_476 0 rfl rfl ?_
  refine zz_iload hX dL_law_477 4 rfl ?_
  refine zz_iconst (v := nI 3) hX dL_law_479 rfl ?_
  refine zz_iadd (z := nI (5 * n + 3)) hX dL_law_480 (nI_add _ _) ?_
  refine zz_sld hX h10b (5 * n + 3) rfl (by omega) (by omega) dL_law_481 ?_
  refine zz_aload_n hX dL_law_482 0 rfl rfl ?_
  refine zz_iload hX dL_law_483 4 rfl ?_
  refine zz_iconst (v := nI 4) hX dL_law_485 rfl ?_
  refine zz_iadd (z := nI (5 * n + 4)) hX dL_law_486 (nI_add _ _) ?_
  refine zz_sld hX h10b (5 * n + 4) rfl (by omega) (by omega) dL_law_487 ?_
  refine zz_callV hX zf_M_L_142 (As := [.int (G.2.1.2.2.2 (5 * n + 1)), .int (G.2.1.2.2.2 (5 * n + 2)), .int (G.2.1.2.2.2 (5 * n + 3)), .int (G.2.1.2.2.2 (5 * n + 4))]) (st := []) (MP_shot S s9 i9 m9 hW hM9 (G.2.1.2.2.2 (5 * n + 1)) (G.2.1.2.2.2 (5 * n + 2)) (G.2.1.2.2.2 (5 * n + 3)) (G.2.1.2.2.2 (5 * n + 4))  ) hM9.1 rfl rfl rfl (by decide) (by decide) (by omega) (by omega) dL_law_488 ?_ (fun _ _ _ _ h _ => h.elim)
  rintro v7 s7 i7 m7 ⟨b, rfl, hm, hg⟩ -
  obtain ⟨j1, j2, T, hT⟩ := zl_join (P := fun _ => True) hI (fun hA hB hC => U_shot hW (G.2.1.2.2.2 (5 * n + 1)) (G.2.1.2.2.2 (5 * n + 2)) (G.2.1.2.2.2 (5 * n + 3)) (G.2.1.2.2.2 (5 * n + 4))  hA hB hC) ⟨Or.inr (by decide), Or.inr (by decide), Or.inr (by decide)⟩ trivial hw h89 hf hm hg
  have hM7 := hT.2.2.1.1
  have h87 := hT.2.2.2.1
  refine zz_istore (ls' := [(0, .ref 10), (1, .ref 2), (2, .ref 1), (3, .ref 8), (4, .int (nI (5 * n))), (5, .int k), (6, .int b)]) hX dL_law_491 h6 rfl ?_
  refine zz_aload_n hX dL_law_493 2 rfl rfl ?_
  refine zz_vI (x := i7 1 30) hX zf_M_L_124 (As := []) (st := []) (M_thrown s7 i7 m7 hM7) hM7 rfl rfl rfl (by decide) (by decide) (by omega) (by omega) dL_law_494 ?_
  refine zz_iload hX dL_law_497 5 rfl ?_
  refine zz_icmp_eq hX 504 dL_law_499 rfl (fun _ => ?_) (fun c => absurd j1 c)
  refine zz_iload hX dL_law_504 5 rfl ?_
  have fin : ∀ c s, c ≤ cells + 60 → s ≤ slots + 1460 → zz Γ G Q c s s7 i7 m7 521 [(0, .ref 10), (1, .ref 2), (2, .ref 1), (3, .ref 8), (4, .int (nI (5 * n))), (5, .int k), (6, .int b)] [] := fun c s hc hs => zz_goto hX 2329 dL_law_521 rfl (zz_pick [0, 1, 2, 3, 4] rfl (hN T s7 i7 m7 c s hT hc hs))
  refine zz_if_ne hX 521 dL_law_506 rfl (fun _ => fin _ _ (by omega) (by omega)) (fun c0k => ?_)
  obtain ⟨j3, j4⟩ := j2 c0k
  refine zz_aload_n hX dL_law_509 3 rfl rfl ?_
  refine zz_iconst (v := nI 0) hX dL_law_510 rfl ?_
  refine zz_lald hX h87 0 rfl (by decide) (by decide) dL_law_511 ?_
  refine zz_iload hX dL_law_512 6 rfl ?_
  refine zz_i2l hX dL_law_514 ?_
  refine zz_lcmp hX dL_law_515 ?_
  exact zz_if_eq hX 521 dL_law_516 rfl (fun _ => fin _ _ (by omega) (by omega)) (fun c => absurd (by rw [j3]; exact lg_cmp_self _) c)
theorem L_assign (hX : zz_X Γ G RL cL_law 12 mc ms) (hml : G.2.2.1 = 7) (S : zS) (sh : zm_Sh) (mi : zm_Mi) (mr : zm_Mr) (n : Nat) (hl : 5 * n + 5 ≤ G.2.1.2.2.1) (hL : G.2.1.2.2.1 ≤ 2560) (hI : zl_I S sh mi mr) (hc : cells + 60 ≤ mc) (hs : slots + 1460 ≤ ms) (hN : zl_N Γ G Q n cells slots) : zz Γ G Q cells slots sh mi mr 524 (zl_ls n) [] := by
  obtain ⟨hW, hR, hM, h8, h10⟩ := id hI
  have h5 : 5 < G.2.2.1 := by rw [hml]; decide
  have h6 : 6 < G.2.2.1 := by rw [hml]; decide
  refine zz_aload_n hX dL_law_524 1 rfl rfl ?_
  refine zz_aload_n hX dL_law_525 0 rfl rfl ?_
  refine zz_iload hX dL_law_526 4 rfl ?_
  refine zz_iconst (v := nI 1) hX dL_law_528 rfl ?_
  refine zz_iadd (z := nI (5 * n + 1)) hX dL_law_529 (nI_add _ _) ?_
  refine zz_sld hX h10 (5 * n + 1) rfl (by omega) (by omega) dL_law_530 ?_
  refine zz_aload_n hX dL_law_531 0 rfl rfl ?_
  refine zz_iload hX dL_law_532 4 rfl ?_
  refine zz_iconst (v := nI 2) hX dL_law_534 rfl ?_
  refine zz_iadd (z := nI (5 * n + 2)) hX dL_law_535 (nI_add _ _) ?_
  refine zz_sld hX h10 (5 * n + 2) rfl (by omega) (by omega) dL_law_536 ?_
  refine zz_aload_n hX dL_law_537 3 rfl rfl ?_
  refine zz_callSH hX zf_M_L_143 (As := [.ref 2, .int (G.2.1.2.2.2 (5 * n + 1)), .int (G.2.1.2.2.2 (5 * n + 2)), .ref 8]) (st := []) (W_assign S sh mi mr hW hR h8 (G.2.1.2.2.2 (5 * n + 1)) (G.2.1.2.2.2 (5 * n + 2)) ) rfl rfl (by decide) (by decide) (by omega) (by omega) dL_law_538 ?_ (fun _ _ _ _ h _ => h.elim)
  rintro v9 s9 i9 m9 ⟨k, rfl, hw, h89, hf⟩ -
  have hM9 : zM S s9 i9 m9 := zM_same hM (fun l hl => hf l (by omega))
  have h10b : s9 10 = some (9, 0) := (hf 10 (Or.inr ⟨by decide, by decide⟩)).1.trans h10
  refine zz_istore (ls' := [(0, .ref 10), (1, .ref 2), (2, .ref 1), (3, .ref 8), (4, .int (nI (5 * n))), (5, .int k)]) hX dL_law_541 h5 rfl ?_
  refine zz_aload_n hX dL_law_543 2 rfl rfl ?_
  refine zz_aload_n hX dL_law_544 0 rfl rfl ?_
  refine zz_iload hX dL_law_545 4 rfl ?_
  refine zz_iconst (v := nI 1) hX dL_law_547 rfl ?_
  refine zz_iadd (z := nI (5 * n + 1)) hX dL_law_548 (nI_add _ _) ?_
  refine zz_sld hX h10b (5 * n + 1) rfl (by omega) (by omega) dL_law_549 ?_
  refine zz_aload_n hX dL_law_550 0 rfl rfl ?_
  refine zz_iload hX dL_law_551 4 rfl ?_
  refine zz_iconst (v := nI 2) hX dL_law_553 rfl ?_
  refine zz_iadd (z := nI (5 * n + 2)) hX dL_law_554 (nI_add _ _) ?_
  refine zz_sld hX h10b (5 * n + 2) rfl (by omega) (by omega) dL_law_555 ?_
  refine zz_callV hX zf_M_L_145 (As := [.int (G.2.1.2.2.2 (5 * n + 1)), .int (G.2.1.2.2.2 (5 * n + 2))]) (st := []) (MP_assign S s9 i9 m9 hW hM9 (G.2.1.2.2.2 (5 * n + 1)) (G.2.1.2.2.2 (5 * n + 2))  ) hM9.1 rfl rfl rfl (by decide) (by decide) (by omega) (by omega) dL_law_556 ?_ (fun _ _ _ _ h _ => h.elim)
  rintro v7 s7 i7 m7 ⟨b, rfl, hm, hg⟩ -
  obtain ⟨j1, j2, T, hT⟩ := zl_join (P := fun _ => True) hI (fun hA hB hC => U_assign hW (G.2.1.2.2.2 (5 * n + 1)) (G.2.1.2.2.2 (5 * n + 2))  hA hB hC) ⟨Or.inr (by decide), Or.inl trivial, Or.inr (by decide)⟩ trivial hw h89 hf hm hg
  have hM7 := hT.2.2.1.1
  have h87 := hT.2.2.2.1
  refine zz_istore (ls' := [(0, .ref 10), (1, .ref 2), (2, .ref 1), (3, .ref 8), (4, .int (nI (5 * n))), (5, .int k), (6, .int b)]) hX dL_law_559 h6 rfl ?_
  refine zz_aload_n hX dL_law_561 2 rfl rfl ?_
  refine zz_vI (x := i7 1 30) hX zf_M_L_124 (As := []) (st := []) (M_thrown s7 i7 m7 hM7) hM7 rfl rfl rfl (by decide) (by decide) (by omega) (by omega) dL_law_562 ?_
  refine zz_iload hX dL_law_565 5 rfl ?_
  refine zz_icmp_eq hX 572 dL_law_567 rfl (fun _ => ?_) (fun c => absurd j1 c)
  refine zz_iload hX dL_law_572 5 rfl ?_
  have fin : ∀ c s, c ≤ cells + 60 → s ≤ slots + 1460 → zz Γ G Q c s s7 i7 m7 589 [(0, .ref 10), (1, .ref 2), (2, .ref 1), (3, .ref 8), (4, .int (nI (5 * n))), (5, .int k), (6, .int b)] [] := fun c s hc hs => zz_goto hX 2329 dL_law_589 rfl (zz_pick [0, 1, 2, 3, 4] rfl (hN T s7 i7 m7 c s hT hc hs))
  refine zz_if_ne hX 589 dL_law_574 rfl (fun _ => fin _ _ (by omega) (by omega)) (fun c0k => ?_)
  obtain ⟨j3, j4⟩ := j2 c0k
  refine zz_aload_n hX dL_law_577 3 rfl rfl ?_
  refine zz_iconst (v := nI 0) hX dL_law_578 rfl ?_
  refine zz_lald hX h87 0 rfl (by decide) (by decide) dL_law_579 ?_
  refine zz_iload hX dL_law_580 6 rfl ?_
  refine zz_i2l hX dL_law_582 ?_
  refine zz_lcmp hX dL_law_583 ?_
  exact zz_if_eq hX 589 dL_law_584 rfl (fun _ => fin _ _ (by omega) (by omega)) (fun c => absurd (by rw [j3]; exact lg_cmp_self _) c)
theorem L_ill (hX : zz_X Γ G RL cL_law 12 mc ms) (hml : G.2.2.1 = 7) (S : zS) (sh : zm_Sh) (mi : zm_Mi) (mr : zm_Mr) (n : Nat) (hl : 5 * n + 5 ≤ G.2.1.2.2.1) (hL : G.2.1.2.2.1 ≤ 2560) (hI : zl_I S sh mi mr) (hc : cells + 60 ≤ mc) (hs : slots + 1460 ≤ ms) (hN : zl_N Γ G Q n cells slots) : zz Γ G Q cells slots sh mi mr 592 (zl_ls n) [] := by
  obtain ⟨hW, hR, hM, h8, h10⟩ := id hI
  have h5 : 5 < G.2.2.1 := by rw [hml]; decide
  have h6 : 6 < G.2.2.1 := by rw [hml]; decide
  by_cases c0 : (G.2.1.2.2.2 (5 * n + 2)) = 0
  · skip
    refine zz_aload_n hX dL_law_592 1 rfl rfl ?_
    refine zz_aload_n hX dL_law_593 0 rfl rfl ?_
    refine zz_iload hX dL_law_594 4 rfl ?_
    refine zz_iconst (v := nI 1) hX dL_law_596 rfl ?_
    refine zz_iadd (z := nI (5 * n + 1)) hX dL_law_597 (nI_add _ _) ?_
    refine zz_sld hX h10 (5 * n + 1) rfl (by omega) (by omega) dL_law_598 ?_
    refine zz_aload_n hX dL_law_599 0 rfl rfl ?_
    refine zz_iload hX dL_law_600 4 rfl ?_
    refine zz_iconst (v := nI 2) hX dL_law_602 rfl ?_
    refine zz_iadd (z := nI (5 * n + 2)) hX dL_law_603 (nI_add _ _) ?_
    refine zz_sld hX h10 (5 * n + 2) rfl (by omega) (by omega) dL_law_604 ?_
    refine zz_if_eq hX 612 dL_law_605 rfl (fun _ => ?_) (fun c => absurd c0 c)
    refine zz_iconst (v := 0) hX dL_law_612 rfl ?_
    refine zz_aload_n hX dL_law_613 3 rfl rfl ?_
    refine zz_callSH hX zf_M_L_146 (As := [.ref 2, .int (G.2.1.2.2.2 (5 * n + 1)), .int 0, .ref 8]) (st := []) (W_ill S sh mi mr hW hR h8 (G.2.1.2.2.2 (5 * n + 1)) 0 (Or.inl rfl)) rfl rfl (by decide) (by decide) (by omega) (by omega) dL_law_614 ?_ (fun _ _ _ _ h _ => h.elim)
    rintro v9 s9 i9 m9 ⟨k, rfl, hw, h89, hf⟩ -
    have hM9 : zM S s9 i9 m9 := zM_same hM (fun l hl => hf l (by omega))
    have h10b : s9 10 = some (9, 0) := (hf 10 (Or.inr ⟨by decide, by decide⟩)).1.trans h10
    refine zz_istore (ls' := [(0, .ref 10), (1, .ref 2), (2, .ref 1), (3, .ref 8), (4, .int (nI (5 * n))), (5, .int k)]) hX dL_law_617 h5 rfl ?_
    refine zz_aload_n hX dL_law_619 2 rfl rfl ?_
    refine zz_aload_n hX dL_law_620 0 rfl rfl ?_
    refine zz_iload hX dL_law_621 4 rfl ?_
    refine zz_iconst (v := nI 1) hX dL_law_623 rfl ?_
    refine zz_iadd (z := nI (5 * n + 1)) hX dL_law_624 (nI_add _ _) ?_
    refine zz_sld hX h10b (5 * n + 1) rfl (by omega) (by omega) dL_law_625 ?_
    refine zz_aload_n hX dL_law_626 0 rfl rfl ?_
    refine zz_iload hX dL_law_627 4 rfl ?_
    refine zz_iconst (v := nI 2) hX dL_law_629 rfl ?_
    refine zz_iadd (z := nI (5 * n + 2)) hX dL_law_630 (nI_add _ _) ?_
    refine zz_sld hX h10b (5 * n + 2) rfl (by omega) (by omega) dL_law_631 ?_
    refine zz_if_eq hX 639 dL_law_632 rfl (fun _ => ?_) (fun c => absurd c0 c)
    refine zz_iconst (v := 0) hX dL_law_639 rfl ?_
    refine zz_callV hX zf_M_L_149 (As := [.int (G.2.1.2.2.2 (5 * n + 1)), .int 0]) (st := []) (MP_ill S s9 i9 m9 hW hM9 (G.2.1.2.2.2 (5 * n + 1)) 0 (Or.inl rfl) (Or.inl rfl)) hM9.1 rfl rfl rfl (by decide) (by decide) (by omega) (by omega) dL_law_640 ?_ (fun _ _ _ _ h _ => h.elim)
    rintro v7 s7 i7 m7 ⟨b, rfl, hm, hg⟩ -
    obtain ⟨j1, j2, T, hT⟩ := zl_join (P := fun z => z = 0 ∨ z = 1) hI (fun hA hB hC => U_ill hW (G.2.1.2.2.2 (5 * n + 1)) 0 (Or.inl rfl) hA hB hC) ⟨Or.inr (by decide), Or.inl trivial, Or.inl trivial⟩ (hW.2.2.2.2.2.2.2.2.2 _) hw h89 hf hm hg
    have hM7 := hT.2.2.1.1
    have h87 := hT.2.2.2.1
    refine zz_istore (ls' := [(0, .ref 10), (1, .ref 2), (2, .ref 1), (3, .ref 8), (4, .int (nI (5 * n))), (5, .int k), (6, .int b)]) hX dL_law_643 h6 rfl ?_
    refine zz_aload_n hX dL_law_645 2 rfl rfl ?_
    refine zz_vI (x := i7 1 30) hX zf_M_L_124 (As := []) (st := []) (M_thrown s7 i7 m7 hM7) hM7 rfl rfl rfl (by decide) (by decide) (by omega) (by omega) dL_law_646 ?_
    refine zz_iload hX dL_law_649 5 rfl ?_
    refine zz_icmp_eq hX 656 dL_law_651 rfl (fun _ => ?_) (fun c => absurd j1 c)
    refine zz_iload hX dL_law_656 5 rfl ?_
    have fin : ∀ c s, c ≤ cells + 60 → s ≤ slots + 1460 → zz Γ G Q c s s7 i7 m7 680 [(0, .ref 10), (1, .ref 2), (2, .ref 1), (3, .ref 8), (4, .int (nI (5 * n))), (5, .int k), (6, .int b)] [] := fun c s hc hs => zz_goto hX 2329 dL_law_680 rfl (zz_pick [0, 1, 2, 3, 4] rfl (hN T s7 i7 m7 c s hT hc hs))
    refine zz_if_ne hX 680 dL_law_658 rfl (fun _ => fin _ _ (by omega) (by omega)) (fun c0k => ?_)
    obtain ⟨j3, j4⟩ := j2 c0k
    refine zz_aload_n hX dL_law_661 3 rfl rfl ?_
    refine zz_iconst (v := nI 0) hX dL_law_662 rfl ?_
    refine zz_lald hX h87 0 rfl (by decide) (by decide) dL_law_663 ?_
    refine zz_iload hX dL_law_664 6 rfl ?_
    refine zz_if_eq hX 673 dL_law_666 rfl (fun cb => ?_) (fun cb => ?_)
    · refine zz_lconst (v := 0) hX dL_law_673 rfl ?_
      refine zz_lcmp hX dL_law_674 ?_
      exact zz_if_eq hX 680 dL_law_675 rfl (fun _ => fin _ _ (by omega) (by omega)) (fun c => absurd (by rw [j3, cb]; exact lg_cmp_self _) c)
    · refine zz_lconst (v := 1) hX dL_law_669 rfl ?_
      refine zz_goto hX 674 dL_law_670 rfl ?_
      refine zz_lcmp hX dL_law_674 ?_
      exact zz_if_eq hX 680 dL_law_675 rfl (fun _ => fin _ _ (by omega) (by omega)) (fun c => absurd (by rw [j3, j4.resolve_left cb]; exact lg_cmp_self _) c)
  · skip
    refine zz_aload_n hX dL_law_592 1 rfl rfl ?_
    refine zz_aload_n hX dL_law_593 0 rfl rfl ?_
    refine zz_iload hX dL_law_594 4 rfl ?_
    refine zz_iconst (v := nI 1) hX dL_law_596 rfl ?_
    refine zz_iadd (z := nI (5 * n + 1)) hX dL_law_597 (nI_add _ _) ?_
    refine zz_sld hX h10 (5 * n + 1) rfl (by omega) (by omega) dL_law_598 ?_
    refine zz_aload_n hX dL_law_599 0 rfl rfl ?_
    refine zz_iload hX dL_law_600 4 rfl ?_
    refine zz_iconst (v := nI 2) hX dL_law_602 rfl ?_
    refine zz_iadd (z := nI (5 * n + 2)) hX dL_law_603 (nI_add _ _) ?_
    refine zz_sld hX h10 (5 * n + 2) rfl (by omega) (by omega) dL_law_604 ?_
    refine zz_if_eq hX 612 dL_law_605 rfl (fun c => absurd c c0) (fun _ => ?_)
    refine zz_iconst (v := 1) hX dL_law_608 rfl ?_
    refine zz_goto hX 613 dL_law_609 rfl ?_
    refine zz_aload_n hX dL_law_613 3 rfl rfl ?_
    refine zz_callSH hX zf_M_L_146 (As := [.ref 2, .int (G.2.1.2.2.2 (5 * n + 1)), .int 1, .ref 8]) (st := []) (W_ill S sh mi mr hW hR h8 (G.2.1.2.2.2 (5 * n + 1)) 1 (Or.inr rfl)) rfl rfl (by decide) (by decide) (by omega) (by omega) dL_law_614 ?_ (fun _ _ _ _ h _ => h.elim)
    rintro v9 s9 i9 m9 ⟨k, rfl, hw, h89, hf⟩ -
    have hM9 : zM S s9 i9 m9 := zM_same hM (fun l hl => hf l (by omega))
    have h10b : s9 10 = some (9, 0) := (hf 10 (Or.inr ⟨by decide, by decide⟩)).1.trans h10
    refine zz_istore (ls' := [(0, .ref 10), (1, .ref 2), (2, .ref 1), (3, .ref 8), (4, .int (nI (5 * n))), (5, .int k)]) hX dL_law_617 h5 rfl ?_
    refine zz_aload_n hX dL_law_619 2 rfl rfl ?_
    refine zz_aload_n hX dL_law_620 0 rfl rfl ?_
    refine zz_iload hX dL_law_621 4 rfl ?_
    refine zz_iconst (v := nI 1) hX dL_law_623 rfl ?_
    refine zz_iadd (z := nI (5 * n + 1)) hX dL_law_624 (nI_add _ _) ?_
    refine zz_sld hX h10b (5 * n + 1) rfl (by omega) (by omega) dL_law_625 ?_
    refine zz_aload_n hX dL_law_626 0 rfl rfl ?_
    refine zz_iload hX dL_law_627 4 rfl ?_
    refine zz_iconst (v := nI 2) hX dL_law_629 rfl ?_
    refine zz_iadd (z := nI (5 * n + 2)) hX dL_law_630 (nI_add _ _) ?_
    refine zz_sld hX h10b (5 * n + 2) rfl (by omega) (by omega) dL_law_631 ?_
    refine zz_if_eq hX 639 dL_law_632 rfl (fun c => absurd c c0) (fun _ => ?_)
    refine zz_iconst (v := 1) hX dL_law_635 rfl ?_
    refine zz_goto hX 640 dL_law_636 rfl ?_
    refine zz_callV hX zf_M_L_149 (As := [.int (G.2.1.2.2.2 (5 * n + 1)), .int 1]) (st := []) (MP_ill S s9 i9 m9 hW hM9 (G.2.1.2.2.2 (5 * n + 1)) 1 (Or.inr rfl) (Or.inr rfl)) hM9.1 rfl rfl rfl (by decide) (by decide) (by omega) (by omega) dL_law_640 ?_ (fun _ _ _ _ h _ => h.elim)
    rintro v7 s7 i7 m7 ⟨b, rfl, hm, hg⟩ -
    obtain ⟨j1, j2, T, hT⟩ := zl_join (P := fun z => z = 0 ∨ z = 1) hI (fun hA hB hC => U_ill hW (G.2.1.2.2.2 (5 * n + 1)) 1 (Or.inr rfl) hA hB hC) ⟨Or.inr (by decide), Or.inl trivial, Or.inl trivial⟩ (hW.2.2.2.2.2.2.2.2.2 _) hw h89 hf hm hg
    have hM7 := hT.2.2.1.1
    have h87 := hT.2.2.2.1
    refine zz_istore (ls' := [(0, .ref 10), (1, .ref 2), (2, .ref 1), (3, .ref 8), (4, .int (nI (5 * n))), (5, .int k), (6, .int b)]) hX dL_law_643 h6 rfl ?_
    refine zz_aload_n hX dL_law_645 2 rfl rfl ?_
    refine zz_vI (x := i7 1 30) hX zf_M_L_124 (As := []) (st := []) (M_thrown s7 i7 m7 hM7) hM7 rfl rfl rfl (by decide) (by decide) (by omega) (by omega) dL_law_646 ?_
    refine zz_iload hX dL_law_649 5 rfl ?_
    refine zz_icmp_eq hX 656 dL_law_651 rfl (fun _ => ?_) (fun c => absurd j1 c)
    refine zz_iload hX dL_law_656 5 rfl ?_
    have fin : ∀ c s, c ≤ cells + 60 → s ≤ slots + 1460 → zz Γ G Q c s s7 i7 m7 680 [(0, .ref 10), (1, .ref 2), (2, .ref 1), (3, .ref 8), (4, .int (nI (5 * n))), (5, .int k), (6, .int b)] [] := fun c s hc hs => zz_goto hX 2329 dL_law_680 rfl (zz_pick [0, 1, 2, 3, 4] rfl (hN T s7 i7 m7 c s hT hc hs))
    refine zz_if_ne hX 680 dL_law_658 rfl (fun _ => fin _ _ (by omega) (by omega)) (fun c0k => ?_)
    obtain ⟨j3, j4⟩ := j2 c0k
    refine zz_aload_n hX dL_law_661 3 rfl rfl ?_
    refine zz_iconst (v := nI 0) hX dL_law_662 rfl ?_
    refine zz_lald hX h87 0 rfl (by decide) (by decide) dL_law_663 ?_
    refine zz_iload hX dL_law_664 6 rfl ?_
    refine zz_if_eq hX 673 dL_law_666 rfl (fun cb => ?_) (fun cb => ?_)
    · refine zz_lconst (v := 0) hX dL_law_673 rfl ?_
      refine zz_lcmp hX dL_law_674 ?_
      exact zz_if_eq hX 680 dL_law_675 rfl (fun _ => fin _ _ (by omega) (by omega)) (fun c => absurd (by rw [j3, cb]; exact lg_cmp_self _) c)
    · refine zz_lconst (v := 1) hX dL_law_669 rfl ?_
      refine zz_goto hX 674 dL_law_670 rfl ?_
      refine zz_lcmp hX dL_law_674 ?_
      exact zz_if_eq hX 680 dL_law_675 rfl (fun _ => fin _ _ (by omega) (by omega)) (fun c => absurd (by rw [j3, j4.resolve_left cb]; exact lg_cmp_self _) c)
theorem L_dub (hX : zz_X Γ G RL cL_law 12 mc ms) (hml : G.2.2.1 = 7) (S : zS) (sh : zm_Sh) (mi : zm_Mi) (mr : zm_Mr) (n : Nat) (hl : 5 * n + 5 ≤ G.2.1.2.2.1) (hL : G.2.1.2.2.1 ≤ 2560) (hI : zl_I S sh mi mr) (hc : cells + 60 ≤ mc) (hs : slots + 1460 ≤ ms) (hN : zl_N Γ G Q n cells slots) : zz Γ G Q cells slots sh mi mr 683 (zl_ls n) [] := by
  obtain ⟨hW, hR, hM, h8, h10⟩ := id hI
  have h5 : 5 < G.2.2.1 := by rw [hml]; decide
  have h6 : 6 < G.2.2.1 := by rw [hml]; decide
  refine zz_aload_n hX dL_law_683 1 rfl rfl ?_
  refine zz_aload_n hX dL_law_684 0 rfl rfl ?_
  refine zz_iload hX dL_law_685 4 rfl ?_
  refine zz_iconst (v := nI 1) hX dL_law_687 rfl ?_
  refine zz_iadd (z := nI (5 * n + 1)) hX dL_law_688 (nI_add _ _) ?_
  refine zz_sld hX h10 (5 * n + 1) rfl (by omega) (by omega) dL_law_689 ?_
  refine zz_aload_n hX dL_law_690 0 rfl rfl ?_
  refine zz_iload hX dL_law_691 4 rfl ?_
  refine zz_iconst (v := nI 2) hX dL_law_693 rfl ?_
  refine zz_iadd (z := nI (5 * n + 2)) hX dL_law_694 (nI_add _ _) ?_
  refine zz_sld hX h10 (5 * n + 2) rfl (by omega) (by omega) dL_law_695 ?_
  refine zz_aload_n hX dL_law_696 3 rfl rfl ?_
  refine zz_callSH hX zf_M_L_150 (As := [.ref 2, .int (G.2.1.2.2.2 (5 * n + 1)), .int (G.2.1.2.2.2 (5 * n + 2)), .ref 8]) (st := []) (W_dub S sh mi mr hW hR h8 (G.2.1.2.2.2 (5 * n + 1)) (G.2.1.2.2.2 (5 * n + 2)) ) rfl rfl (by decide) (by decide) (by omega) (by omega) dL_law_697 ?_ (fun _ _ _ _ h _ => h.elim)
  rintro v9 s9 i9 m9 ⟨k, rfl, hw, h89, hf⟩ -
  have hM9 : zM S s9 i9 m9 := zM_same hM (fun l hl => hf l (by omega))
  have h10b : s9 10 = some (9, 0) := (hf 10 (Or.inr ⟨by decide, by decide⟩)).1.trans h10
  refine zz_istore (ls' := [(0, .ref 10), (1, .ref 2), (2, .ref 1), (3, .ref 8), (4, .int (nI (5 * n))), (5, .int k)]) hX dL_law_700 h5 rfl ?_
  refine zz_aload_n hX dL_law_702 2 rfl rfl ?_
  refine zz_aload_n hX dL_law_703 0 rfl rfl ?_
  refine zz_iload hX dL_law_704 4 rfl ?_
  refine zz_iconst (v := nI 1) hX dL_law_706 rfl ?_
  refine zz_iadd (z := nI (5 * n + 1)) hX dL_law_707 (nI_add _ _) ?_
  refine zz_sld hX h10b (5 * n + 1) rfl (by omega) (by omega) dL_law_708 ?_
  refine zz_aload_n hX dL_law_709 0 rfl rfl ?_
  refine zz_iload hX dL_law_710 4 rfl ?_
  refine zz_iconst (v := nI 2) hX dL_law_712 rfl ?_
  refine zz_iadd (z := nI (5 * n + 2)) hX dL_law_713 (nI_add _ _) ?_
  refine zz_sld hX h10b (5 * n + 2) rfl (by omega) (by omega) dL_law_714 ?_
  refine zz_callV hX zf_M_L_152 (As := [.int (G.2.1.2.2.2 (5 * n + 1)), .int (G.2.1.2.2.2 (5 * n + 2))]) (st := []) (MP_dub S s9 i9 m9 hW hM9 (G.2.1.2.2.2 (5 * n + 1)) (G.2.1.2.2.2 (5 * n + 2))  ) hM9.1 rfl rfl rfl (by decide) (by decide) (by omega) (by omega) dL_law_715 ?_ (fun _ _ _ _ h _ => h.elim)
  rintro v7 s7 i7 m7 ⟨b, rfl, hm, hg⟩ -
  obtain ⟨j1, j2, T, hT⟩ := zl_join (P := fun _ => True) hI (fun hA hB hC => U_dub hW (G.2.1.2.2.2 (5 * n + 1)) (G.2.1.2.2.2 (5 * n + 2))  hA hB hC) ⟨Or.inr (by decide), Or.inl trivial, Or.inl trivial⟩ trivial hw h89 hf hm hg
  have hM7 := hT.2.2.1.1
  have h87 := hT.2.2.2.1
  refine zz_istore (ls' := [(0, .ref 10), (1, .ref 2), (2, .ref 1), (3, .ref 8), (4, .int (nI (5 * n))), (5, .int k), (6, .int b)]) hX dL_law_718 h6 rfl ?_
  refine zz_aload_n hX dL_law_720 2 rfl rfl ?_
  refine zz_vI (x := i7 1 30) hX zf_M_L_124 (As := []) (st := []) (M_thrown s7 i7 m7 hM7) hM7 rfl rfl rfl (by decide) (by decide) (by omega) (by omega) dL_law_721 ?_
  refine zz_iload hX dL_law_724 5 rfl ?_
  refine zz_icmp_eq hX 731 dL_law_726 rfl (fun _ => ?_) (fun c => absurd j1 c)
  refine zz_iload hX dL_law_731 5 rfl ?_
  have fin : ∀ c s, c ≤ cells + 60 → s ≤ slots + 1460 → zz Γ G Q c s s7 i7 m7 748 [(0, .ref 10), (1, .ref 2), (2, .ref 1), (3, .ref 8), (4, .int (nI (5 * n))), (5, .int k), (6, .int b)] [] := fun c s hc hs => zz_goto hX 2329 dL_law_748 rfl (zz_pick [0, 1, 2, 3, 4] rfl (hN T s7 i7 m7 c s hT hc hs))
  refine zz_if_ne hX 748 dL_law_733 rfl (fun _ => fin _ _ (by omega) (by omega)) (fun c0k => ?_)
  obtain ⟨j3, j4⟩ := j2 c0k
  refine zz_aload_n hX dL_law_736 3 rfl rfl ?_
  refine zz_iconst (v := nI 0) hX dL_law_737 rfl ?_
  refine zz_lald hX h87 0 rfl (by decide) (by decide) dL_law_738 ?_
  refine zz_iload hX dL_law_739 6 rfl ?_
  refine zz_i2l hX dL_law_741 ?_
  refine zz_lcmp hX dL_law_742 ?_
  exact zz_if_eq hX 748 dL_law_743 rfl (fun _ => fin _ _ (by omega) (by omega)) (fun c => absurd (by rw [j3]; exact lg_cmp_self _) c)
theorem L_key (hX : zz_X Γ G RL cL_law 12 mc ms) (hml : G.2.2.1 = 7) (S : zS) (sh : zm_Sh) (mi : zm_Mi) (mr : zm_Mr) (n : Nat) (hl : 5 * n + 5 ≤ G.2.1.2.2.1) (hL : G.2.1.2.2.1 ≤ 2560) (hI : zl_I S sh mi mr) (hc : cells + 60 ≤ mc) (hs : slots + 1460 ≤ ms) (hN : zl_N Γ G Q n cells slots) : zz Γ G Q cells slots sh mi mr 751 (zl_ls n) [] := by
  obtain ⟨hW, hR, hM, h8, h10⟩ := id hI
  have h5 : 5 < G.2.2.1 := by rw [hml]; decide
  have h6 : 6 < G.2.2.1 := by rw [hml]; decide
  refine zz_aload_n hX dL_law_751 1 rfl rfl ?_
  refine zz_aload_n hX dL_law_752 0 rfl rfl ?_
  refine zz_iload hX dL_law_753 4 rfl ?_
  refine zz_iconst (v := nI 1) hX dL_law_755 rfl ?_
  refine zz_iadd (z := nI (5 * n + 1)) hX dL_law_756 (nI_add _ _) ?_
  refine zz_sld hX h10 (5 * n + 1) rfl (by omega) (by omega) dL_law_757 ?_
  refine zz_aload_n hX dL_law_758 0 rfl rfl ?_
  refine zz_iload hX dL_law_759 4 rfl ?_
  refine zz_iconst (v := nI 2) hX dL_law_761 rfl ?_
  refine zz_iadd (z := nI (5 * n + 2)) hX dL_law_762 (nI_add _ _) ?_
  refine zz_sld hX h10 (5 * n + 2) rfl (by omega) (by omega) dL_law_763 ?_
  refine zz_aload_n hX dL_law_764 0 rfl rfl ?_
  refine zz_iload hX dL_law_765 4 rfl ?_
  refine zz_iconst (v := nI 3) hX dL_law_767 rfl ?_
  refine zz_iadd (z := nI (5 * n + 3)) hX dL_law_768 (nI_add _ _) ?_
  refine zz_sld hX h10 (5 * n + 3) rfl (by omega) (by omega) dL_law_769 ?_
  refine zz_aload_n hX dL_law_770 0 rfl rfl ?_
  refine zz_iload hX dL_law_771 4 rfl ?_
  refine zz_iconst (v := nI 4) hX dL_law_773 rfl ?_
  refine zz_iadd (z := nI (5 * n + 4)) hX dL_law_774 (nI_add _ _) ?_
  refine zz_sld hX h10 (5 * n + 4) rfl (by omega) (by omega) dL_law_775 ?_
  refine zz_aload_n hX dL_law_776 3 rfl rfl ?_
  refine zz_callSH hX zf_M_L_153 (As := [.ref 2, .int (G.2.1.2.2.2 (5 * n + 1)), .int (G.2.1.2.2.2 (5 * n + 2)), .int (G.2.1.2.2.2 (5 * n + 3)), .int (G.2.1.2.2.2 (5 * n + 4)), .ref 8]) (st := []) (W_key S sh mi mr hW hR h8 (G.2.1.2.2.2 (5 * n + 1)) (G.2.1.2.2.2 (5 * n + 2)) (G.2.1.2.2.2 (5 * n + 3)) (G.2.1.2.2.2 (5 * n + 4)) ) rfl rfl (by decide) (by decide) (by omega) (by omega) dL_law_777 ?_ (fun _ _ _ _ h _ => h.elim)
  rintro v9 s9 i9 m9 ⟨k, rfl, hw, h89, hf⟩ -
  have hM9 : zM S s9 i9 m9 := zM_same hM (fun l hl => hf l (by omega))
  have h10b : s9 10 = some (9, 0) := (hf 10 (Or.inr ⟨by decide, by decide⟩)).1.trans h10
  refine zz_istore (ls' := [(0, .ref 10), (1, .ref 2), (2, .ref 1), (3, .ref 8), (4, .int (nI (5 * n))), (5, .int k)]) hX dL_law_780 h5 rfl ?_
  refine zz_aload_n hX dL_law_782 2 rfl rfl ?_
  refine zz_aload_n hX dL_law_783 0 rfl rfl ?_
  refine zz_iload hX dL_law_784 4 rfl ?_
  refine zz_iconst (v := nI 1) hX dL_law_786 rfl ?_
  refine zz_iadd (z := nI (5 * n + 1)) hX dL_law_787 (nI_add _ _) ?_
  refine zz_sld hX h10b (5 * n + 1) rfl (by omega) (by omega) dL_law_788 ?_
  refine zz_aload_n hX dL_law_789 0 rfl rfl ?_
  refine zz_iload hX dL_law_790 4 rfl ?_
  refine zz_iconst (v := nI 2) hX dL_law_792 rfl ?_
  refine zz_iadd (z := nI (5 * n + 2)) hX dL_law_793 (nI_add _ _) ?_
  refine zz_sld hX h10b (5 * n + 2) rfl (by omega) (by omega) dL_law_794 ?_
  refine zz_aload_n hX dL_law_795 0 rfl rfl ?_
  refine zz_iload hX dL_law_796 4 rfl ?_
  refine zz_iconst (v := nI 3) hX dL_law_798 rfl ?_
  refine zz_iadd (z := nI (5 * n + 3)) hX dL_law_799 (nI_add _ _) ?_
  refine zz_sld hX h10b (5 * n + 3) rfl (by omega) (by omega) dL_law_800 ?_
  refine zz_aload_n hX dL_law_801 0 rfl rfl ?_
  refine zz_iload hX dL_law_802 4 rfl ?_
  refine zz_iconst (v := nI 4) hX dL_law_804 rfl ?_
  refine zz_iadd (z := nI (5 * n + 4)) hX dL_law_805 (nI_add _ _) ?_
  refine zz_sld hX h10b (5 * n + 4) rfl (by omega) (by omega) dL_law_806 ?_
  refine zz_callV hX zf_M_L_155 (As := [.int (G.2.1.2.2.2 (5 * n + 1)), .int (G.2.1.2.2.2 (5 * n + 2)), .int (G.2.1.2.2.2 (5 * n + 3)), .int (G.2.1.2.2.2 (5 * n + 4))]) (st := []) (MP_key S s9 i9 m9 hW hM9 (G.2.1.2.2.2 (5 * n + 1)) (G.2.1.2.2.2 (5 * n + 2)) (G.2.1.2.2.2 (5 * n + 3)) (G.2.1.2.2.2 (5 * n + 4))  ) hM9.1 rfl rfl rfl (by decide) (by decide) (by omega) (by omega) dL_law_807 ?_ (fun _ _ _ _ h _ => h.elim)
  rintro v7 s7 i7 m7 ⟨b, rfl, hm, hg⟩ -
  obtain ⟨j1, j2, T, hT⟩ := zl_join (P := fun _ => True) hI (fun hA hB hC => U_key hW (G.2.1.2.2.2 (5 * n + 1)) (G.2.1.2.2.2 (5 * n + 2)) (G.2.1.2.2.2 (5 * n + 3)) (G.2.1.2.2.2 (5 * n + 4))  hA hB hC) ⟨Or.inr (by decide), Or.inr (by decide), Or.inr (by decide)⟩ trivial hw h89 hf hm hg
  have hM7 := hT.2.2.1.1
  have h87 := hT.2.2.2.1
  refine zz_istore (ls' := [(0, .ref 10), (1, .ref 2), (2, .ref 1), (3, .ref 8), (4, .int (nI (5 * n))), (5, .int k), (6, .int b)]) hX dL_law_810 h6 rfl ?_
  refine zz_aload_n hX dL_law_812 2 rfl rfl ?_
  refine zz_vI (x := i7 1 30) hX zf_M_L_124 (As := []) (st := []) (M_thrown s7 i7 m7 hM7) hM7 rfl rfl rfl (by decide) (by decide) (by omega) (by omega) dL_law_813 ?_
  refine zz_iload hX dL_law_816 5 rfl ?_
  refine zz_icmp_eq hX 823 dL_law_818 rfl (fun _ => ?_) (fun c => absurd j1 c)
  refine zz_iload hX dL_law_823 5 rfl ?_
  have fin : ∀ c s, c ≤ cells + 60 → s ≤ slots + 1460 → zz Γ G Q c s s7 i7 m7 840 [(0, .ref 10), (1, .ref 2), (2, .ref 1), (3, .ref 8), (4, .int (nI (5 * n))), (5, .int k), (6, .int b)] [] := fun c s hc hs => zz_goto hX 2329 dL_law_840 rfl (zz_pick [0, 1, 2, 3, 4] rfl (hN T s7 i7 m7 c s hT hc hs))
  refine zz_if_ne hX 840 dL_law_825 rfl (fun _ => fin _ _ (by omega) (by omega)) (fun c0k => ?_)
  obtain ⟨j3, j4⟩ := j2 c0k
  refine zz_aload_n hX dL_law_828 3 rfl rfl ?_
  refine zz_iconst (v := nI 0) hX dL_law_829 rfl ?_
  refine zz_lald hX h87 0 rfl (by decide) (by decide) dL_law_830 ?_
  refine zz_iload hX dL_law_831 6 rfl ?_
  refine zz_i2l hX dL_law_833 ?_
  refine zz_lcmp hX dL_law_834 ?_
  exact zz_if_eq hX 840 dL_law_835 rfl (fun _ => fin _ _ (by omega) (by omega)) (fun c => absurd (by rw [j3]; exact lg_cmp_self _) c)
theorem L_camera (hX : zz_X Γ G RL cL_law 12 mc ms) (hml : G.2.2.1 = 7) (S : zS) (sh : zm_Sh) (mi : zm_Mi) (mr : zm_Mr) (n : Nat) (hl : 5 * n + 5 ≤ G.2.1.2.2.1) (hL : G.2.1.2.2.1 ≤ 2560) (hI : zl_I S sh mi mr) (hc : cells + 60 ≤ mc) (hs : slots + 1460 ≤ ms) (hN : zl_N Γ G Q n cells slots) : zz Γ G Q cells slots sh mi mr 843 (zl_ls n) [] := by
  obtain ⟨hW, hR, hM, h8, h10⟩ := id hI
  have h5 : 5 < G.2.2.1 := by rw [hml]; decide
  have h6 : 6 < G.2.2.1 := by rw [hml]; decide
  refine zz_aload_n hX dL_law_843 1 rfl rfl ?_
  refine zz_aload_n hX dL_law_844 0 rfl rfl ?_
  refine zz_iload hX dL_law_845 4 rfl ?_
  refine zz_iconst (v := nI 1) hX dL_law_847 rfl ?_
  refine zz_iadd (z := nI (5 * n + 1)) hX dL_law_848 (nI_add _ _) ?_
  refine zz_sld hX h10 (5 * n + 1) rfl (by omega) (by omega) dL_law_849 ?_
  refine zz_aload_n hX dL_law_850 0 rfl rfl ?_
  refine zz_iload hX dL_law_851 4 rfl ?_
  refine zz_iconst (v := nI 2) hX dL_law_853 rfl ?_
  refine zz_iadd (z := nI (5 * n + 2)) hX dL_law_854 (nI_add _ _) ?_
  refine zz_sld hX h10 (5 * n + 2) rfl (by omega) (by omega) dL_law_855 ?_
  refine zz_aload_n hX dL_law_856 0 rfl rfl ?_
  refine zz_iload hX dL_law_857 4 rfl ?_
  refine zz_iconst (v := nI 3) hX dL_law_859 rfl ?_
  refine zz_iadd (z := nI (5 * n + 3)) hX dL_law_860 (nI_add _ _) ?_
  refine zz_sld hX h10 (5 * n + 3) rfl (by omega) (by omega) dL_law_861 ?_
  refine zz_aload_n hX dL_law_862 3 rfl rfl ?_
  refine zz_callSH hX zf_M_L_156 (As := [.ref 2, .int (G.2.1.2.2.2 (5 * n + 1)), .int (G.2.1.2.2.2 (5 * n + 2)), .int (G.2.1.2.2.2 (5 * n + 3)), .ref 8]) (st := []) (W_camera S sh mi mr hW hR h8 (G.2.1.2.2.2 (5 * n + 1)) (G.2.1.2.2.2 (5 * n + 2)) (G.2.1.2.2.2 (5 * n + 3)) ) rfl rfl (by decide) (by decide) (by omega) (by omega) dL_law_863 ?_ (fun _ _ _ _ h _ => h.elim)
  rintro v9 s9 i9 m9 ⟨k, rfl, hw, h89, hf⟩ -
  have hM9 : zM S s9 i9 m9 := zM_same hM (fun l hl => hf l (by omega))
  have h10b : s9 10 = some (9, 0) := (hf 10 (Or.inr ⟨by decide, by decide⟩)).1.trans h10
  refine zz_istore (ls' := [(0, .ref 10), (1, .ref 2), (2, .ref 1), (3, .ref 8), (4, .int (nI (5 * n))), (5, .int k)]) hX dL_law_866 h5 rfl ?_
  refine zz_aload_n hX dL_law_868 2 rfl rfl ?_
  refine zz_aload_n hX dL_law_869 0 rfl rfl ?_
  refine zz_iload hX dL_law_870 4 rfl ?_
  refine zz_iconst (v := nI 1) hX dL_law_872 rfl ?_
  refine zz_iadd (z := nI (5 * n + 1)) hX dL_law_873 (nI_add _ _) ?_
  refine zz_sld hX h10b (5 * n + 1) rfl (by omega) (by omega) dL_law_874 ?_
  refine zz_aload_n hX dL_law_875 0 rfl rfl ?_
  refine zz_iload hX dL_law_876 4 rfl ?_
  refine zz_iconst (v := nI 2) hX dL_law_878 rfl ?_
  refine zz_iadd (z := nI (5 * n + 2)) hX dL_law_879 (nI_add _ _) ?_
  refine zz_sld hX h10b (5 * n + 2) rfl (by omega) (by omega) dL_law_880 ?_
  refine zz_aload_n hX dL_law_881 0 rfl rfl ?_
  refine zz_iload hX dL_law_882 4 rfl ?_
  refine zz_iconst (v := nI 3) hX dL_law_884 rfl ?_
  refine zz_iadd (z := nI (5 * n + 3)) hX dL_law_885 (nI_add _ _) ?_
  refine zz_sld hX h10b (5 * n + 3) rfl (by omega) (by omega) dL_law_886 ?_
  refine zz_callV hX zf_M_L_158 (As := [.int (G.2.1.2.2.2 (5 * n + 1)), .int (G.2.1.2.2.2 (5 * n + 2)), .int (G.2.1.2.2.2 (5 * n + 3))]) (st := []) (MP_camera S s9 i9 m9 hW hM9 (G.2.1.2.2.2 (5 * n + 1)) (G.2.1.2.2.2 (5 * n + 2)) (G.2.1.2.2.2 (5 * n + 3))  ) hM9.1 rfl rfl rfl (by decide) (by decide) (by omega) (by omega) dL_law_887 ?_ (fun _ _ _ _ h _ => h.elim)
  rintro v7 s7 i7 m7 ⟨b, rfl, hm, hg⟩ -
  obtain ⟨j1, j2, T, hT⟩ := zl_join (P := fun _ => True) hI (fun hA hB hC => U_camera hW (G.2.1.2.2.2 (5 * n + 1)) (G.2.1.2.2.2 (5 * n + 2)) (G.2.1.2.2.2 (5 * n + 3))  hA hB hC) ⟨Or.inr (by decide), Or.inr (by decide), Or.inr (by decide)⟩ trivial hw h89 hf hm hg
  have hM7 := hT.2.2.1.1
  have h87 := hT.2.2.2.1
  refine zz_istore (ls' := [(0, .ref 10), (1, .ref 2), (2, .ref 1), (3, .ref 8), (4, .int (nI (5 * n))), (5, .int k), (6, .int b)]) hX dL_law_890 h6 rfl ?_
  refine zz_aload_n hX dL_law_892 2 rfl rfl ?_
  refine zz_vI (x := i7 1 30) hX zf_M_L_124 (As := []) (st := []) (M_thrown s7 i7 m7 hM7) hM7 rfl rfl rfl (by decide) (by decide) (by omega) (by omega) dL_law_893 ?_
  refine zz_iload hX dL_law_896 5 rfl ?_
  refine zz_icmp_eq hX 903 dL_law_898 rfl (fun _ => ?_) (fun c => absurd j1 c)
  refine zz_iload hX dL_law_903 5 rfl ?_
  have fin : ∀ c s, c ≤ cells + 60 → s ≤ slots + 1460 → zz Γ G Q c s s7 i7 m7 920 [(0, .ref 10), (1, .ref 2), (2, .ref 1), (3, .ref 8), (4, .int (nI (5 * n))), (5, .int k), (6, .int b)] [] := fun c s hc hs => zz_goto hX 2329 dL_law_920 rfl (zz_pick [0, 1, 2, 3, 4] rfl (hN T s7 i7 m7 c s hT hc hs))
  refine zz_if_ne hX 920 dL_law_905 rfl (fun _ => fin _ _ (by omega) (by omega)) (fun c0k => ?_)
  obtain ⟨j3, j4⟩ := j2 c0k
  refine zz_aload_n hX dL_law_908 3 rfl rfl ?_
  refine zz_iconst (v := nI 0) hX dL_law_909 rfl ?_
  refine zz_lald hX h87 0 rfl (by decide) (by decide) dL_law_910 ?_
  refine zz_iload hX dL_law_911 6 rfl ?_
  refine zz_i2l hX dL_law_913 ?_
  refine zz_lcmp hX dL_law_914 ?_
  exact zz_if_eq hX 920 dL_law_915 rfl (fun _ => fin _ _ (by omega) (by omega)) (fun c => absurd (by rw [j3]; exact lg_cmp_self _) c)
theorem L_play (hX : zz_X Γ G RL cL_law 12 mc ms) (hml : G.2.2.1 = 7) (S : zS) (sh : zm_Sh) (mi : zm_Mi) (mr : zm_Mr) (n : Nat) (hl : 5 * n + 5 ≤ G.2.1.2.2.1) (hL : G.2.1.2.2.1 ≤ 2560) (hI : zl_I S sh mi mr) (hc : cells + 60 ≤ mc) (hs : slots + 1460 ≤ ms) (hN : zl_N Γ G Q n cells slots) : zz Γ G Q cells slots sh mi mr 923 (zl_ls n) [] := by
  obtain ⟨hW, hR, hM, h8, h10⟩ := id hI
  have h5 : 5 < G.2.2.1 := by rw [hml]; decide
  have h6 : 6 < G.2.2.1 := by rw [hml]; decide
  refine zz_aload_n hX dL_law_923 1 rfl rfl ?_
  refine zz_aload_n hX dL_law_924 0 rfl rfl ?_
  refine zz_iload hX dL_law_925 4 rfl ?_
  refine zz_iconst (v := nI 1) hX dL_law_927 rfl ?_
  refine zz_iadd (z := nI (5 * n + 1)) hX dL_law_928 (nI_add _ _) ?_
  refine zz_sld hX h10 (5 * n + 1) rfl (by omega) (by omega) dL_law_929 ?_
  refine zz_aload_n hX dL_law_930 3 rfl rfl ?_
  refine zz_callSH hX zf_M_L_159 (As := [.ref 2, .int (G.2.1.2.2.2 (5 * n + 1)), .ref 8]) (st := []) (W_play S sh mi mr hW hR h8 (G.2.1.2.2.2 (5 * n + 1)) ) rfl rfl (by decide) (by decide) (by omega) (by omega) dL_law_931 ?_ (fun _ _ _ _ h _ => h.elim)
  rintro v9 s9 i9 m9 ⟨k, rfl, hw, h89, hf⟩ -
  have hM9 : zM S s9 i9 m9 := zM_same hM (fun l hl => hf l (by omega))
  have h10b : s9 10 = some (9, 0) := (hf 10 (Or.inr ⟨by decide, by decide⟩)).1.trans h10
  refine zz_istore (ls' := [(0, .ref 10), (1, .ref 2), (2, .ref 1), (3, .ref 8), (4, .int (nI (5 * n))), (5, .int k)]) hX dL_law_934 h5 rfl ?_
  refine zz_aload_n hX dL_law_936 2 rfl rfl ?_
  refine zz_aload_n hX dL_law_937 0 rfl rfl ?_
  refine zz_iload hX dL_law_938 4 rfl ?_
  refine zz_iconst (v := nI 1) hX dL_law_940 rfl ?_
  refine zz_iadd (z := nI (5 * n + 1)) hX dL_law_941 (nI_add _ _) ?_
  refine zz_sld hX h10b (5 * n + 1) rfl (by omega) (by omega) dL_law_942 ?_
  refine zz_callV hX zf_M_L_161 (As := [.int (G.2.1.2.2.2 (5 * n + 1))]) (st := []) (MP_play S s9 i9 m9 hW hM9 (G.2.1.2.2.2 (5 * n + 1))  ) hM9.1 rfl rfl rfl (by decide) (by decide) (by omega) (by omega) dL_law_943 ?_ (fun _ _ _ _ h _ => h.elim)
  rintro v7 s7 i7 m7 ⟨b, rfl, hm, hg⟩ -
  obtain ⟨j1, j2, T, hT⟩ := zl_join (P := fun _ => True) hI (fun hA hB hC => U_play hW (G.2.1.2.2.2 (5 * n + 1))  hA hB hC) ⟨Or.inl trivial, Or.inr (by decide), Or.inl trivial⟩ trivial hw h89 hf hm hg
  have hM7 := hT.2.2.1.1
  have h87 := hT.2.2.2.1
  refine zz_istore (ls' := [(0, .ref 10), (1, .ref 2), (2, .ref 1), (3, .ref 8), (4, .int (nI (5 * n))), (5, .int k), (6, .int b)]) hX dL_law_946 h6 rfl ?_
  refine zz_aload_n hX dL_law_948 2 rfl rfl ?_
  refine zz_vI (x := i7 1 30) hX zf_M_L_124 (As := []) (st := []) (M_thrown s7 i7 m7 hM7) hM7 rfl rfl rfl (by decide) (by decide) (by omega) (by omega) dL_law_949 ?_
  refine zz_iload hX dL_law_952 5 rfl ?_
  refine zz_icmp_eq hX 959 dL_law_954 rfl (fun _ => ?_) (fun c => absurd j1 c)
  refine zz_iload hX dL_law_959 5 rfl ?_
  have fin : ∀ c s, c ≤ cells + 60 → s ≤ slots + 1460 → zz Γ G Q c s s7 i7 m7 976 [(0, .ref 10), (1, .ref 2), (2, .ref 1), (3, .ref 8), (4, .int (nI (5 * n))), (5, .int k), (6, .int b)] [] := fun c s hc hs => zz_goto hX 2329 dL_law_976 rfl (zz_pick [0, 1, 2, 3, 4] rfl (hN T s7 i7 m7 c s hT hc hs))
  refine zz_if_ne hX 976 dL_law_961 rfl (fun _ => fin _ _ (by omega) (by omega)) (fun c0k => ?_)
  obtain ⟨j3, j4⟩ := j2 c0k
  refine zz_aload_n hX dL_law_964 3 rfl rfl ?_
  refine zz_iconst (v := nI 0) hX dL_law_965 rfl ?_
  refine zz_lald hX h87 0 rfl (by decide) (by decide) dL_law_966 ?_
  refine zz_iload hX dL_law_967 6 rfl ?_
  refine zz_i2l hX dL_law_969 ?_
  refine zz_lcmp hX dL_law_970 ?_
  exact zz_if_eq hX 976 dL_law_971 rfl (fun _ => fin _ _ (by omega) (by omega)) (fun c => absurd (by rw [j3]; exact lg_cmp_self _) c)
theorem L_strike (hX : zz_X Γ G RL cL_law 12 mc ms) (hml : G.2.2.1 = 7) (S : zS) (sh : zm_Sh) (mi : zm_Mi) (mr : zm_Mr) (n : Nat) (hl : 5 * n + 5 ≤ G.2.1.2.2.1) (hL : G.2.1.2.2.1 ≤ 2560) (hI : zl_I S sh mi mr) (hc : cells + 60 ≤ mc) (hs : slots + 1460 ≤ ms) (hN : zl_N Γ G Q n cells slots) : zz Γ G Q cells slots sh mi mr 979 (zl_ls n) [] := by
  obtain ⟨hW, hR, hM, h8, h10⟩ := id hI
  have h5 : 5 < G.2.2.1 := by rw [hml]; decide
  have h6 : 6 < G.2.2.1 := by rw [hml]; decide
  refine zz_aload_n hX dL_law_979 1 rfl rfl ?_
  refine zz_aload_n hX dL_law_980 0 rfl rfl ?_
  refine zz_iload hX dL_law_981 4 rfl ?_
  refine zz_iconst (v := nI 1) hX dL_law_983 rfl ?_
  refine zz_iadd (z := nI (5 * n + 1)) hX dL_law_984 (nI_add _ _) ?_
  refine zz_sld hX h10 (5 * n + 1) rfl (by omega) (by omega) dL_law_985 ?_
  refine zz_aload_n hX dL_law_986 3 rfl rfl ?_
  refine zz_callSH hX zf_M_L_162 (As := [.ref 2, .int (G.2.1.2.2.2 (5 * n + 1)), .ref 8]) (st := []) (W_strike S sh mi mr hW hR h8 (G.2.1.2.2.2 (5 * n + 1)) ) rfl rfl (by decide) (by decide) (by omega) (by omega) dL_law_987 ?_ (fun _ _ _ _ h _ => h.elim)
  rintro v9 s9 i9 m9 ⟨k, rfl, hw, h89, hf⟩ -
  have hM9 : zM S s9 i9 m9 := zM_same hM (fun l hl => hf l (by omega))
  have h10b : s9 10 = some (9, 0) := (hf 10 (Or.inr ⟨by decide, by decide⟩)).1.trans h10
  refine zz_istore (ls' := [(0, .ref 10), (1, .ref 2), (2, .ref 1), (3, .ref 8), (4, .int (nI (5 * n))), (5, .int k)]) hX dL_law_990 h5 rfl ?_
  refine zz_aload_n hX dL_law_992 2 rfl rfl ?_
  refine zz_aload_n hX dL_law_993 0 rfl rfl ?_
  refine zz_iload hX dL_law_994 4 rfl ?_
  refine zz_iconst (v := nI 1) hX dL_law_996 rfl ?_
  refine zz_iadd (z := nI (5 * n + 1)) hX dL_law_997 (nI_add _ _) ?_
  refine zz_sld hX h10b (5 * n + 1) rfl (by omega) (by omega) dL_law_998 ?_
  refine zz_callV hX zf_M_L_164 (As := [.int (G.2.1.2.2.2 (5 * n + 1))]) (st := []) (MP_strike S s9 i9 m9 hW hM9 (G.2.1.2.2.2 (5 * n + 1))  ) hM9.1 rfl rfl rfl (by decide) (by decide) (by omega) (by omega) dL_law_999 ?_ (fun _ _ _ _ h _ => h.elim)
  rintro v7 s7 i7 m7 ⟨b, rfl, hm, hg⟩ -
  obtain ⟨j1, j2, T, hT⟩ := zl_join (P := fun _ => True) hI (fun hA hB hC => U_strike hW (G.2.1.2.2.2 (5 * n + 1))  hA hB hC) ⟨Or.inr (by decide), Or.inl trivial, Or.inr (by decide)⟩ trivial hw h89 hf hm hg
  have hM7 := hT.2.2.1.1
  have h87 := hT.2.2.2.1
  refine zz_istore (ls' := [(0, .ref 10), (1, .ref 2), (2, .ref 1), (3, .ref 8), (4, .int (nI (5 * n))), (5, .int k), (6, .int b)]) hX dL_law_1002 h6 rfl ?_
  refine zz_aload_n hX dL_law_1004 2 rfl rfl ?_
  refine zz_vI (x := i7 1 30) hX zf_M_L_124 (As := []) (st := []) (M_thrown s7 i7 m7 hM7) hM7 rfl rfl rfl (by decide) (by decide) (by omega) (by omega) dL_law_1005 ?_
  refine zz_iload hX dL_law_1008 5 rfl ?_
  refine zz_icmp_eq hX 1015 dL_law_1010 rfl (fun _ => ?_) (fun c => absurd j1 c)
  refine zz_iload hX dL_law_1015 5 rfl ?_
  have fin : ∀ c s, c ≤ cells + 60 → s ≤ slots + 1460 → zz Γ G Q c s s7 i7 m7 1032 [(0, .ref 10), (1, .ref 2), (2, .ref 1), (3, .ref 8), (4, .int (nI (5 * n))), (5, .int k), (6, .int b)] [] := fun c s hc hs => zz_goto hX 2329 dL_law_1032 rfl (zz_pick [0, 1, 2, 3, 4] rfl (hN T s7 i7 m7 c s hT hc hs))
  refine zz_if_ne hX 1032 dL_law_1017 rfl (fun _ => fin _ _ (by omega) (by omega)) (fun c0k => ?_)
  obtain ⟨j3, j4⟩ := j2 c0k
  refine zz_aload_n hX dL_law_1020 3 rfl rfl ?_
  refine zz_iconst (v := nI 0) hX dL_law_1021 rfl ?_
  refine zz_lald hX h87 0 rfl (by decide) (by decide) dL_law_1022 ?_
  refine zz_iload hX dL_law_1023 6 rfl ?_
  refine zz_i2l hX dL_law_1025 ?_
  refine zz_lcmp hX dL_law_1026 ?_
  exact zz_if_eq hX 1032 dL_law_1027 rfl (fun _ => fin _ _ (by omega) (by omega)) (fun c => absurd (by rw [j3]; exact lg_cmp_self _) c)
theorem L_bump (hX : zz_X Γ G RL cL_law 12 mc ms) (hml : G.2.2.1 = 7) (S : zS) (sh : zm_Sh) (mi : zm_Mi) (mr : zm_Mr) (n : Nat) (hl : 5 * n + 5 ≤ G.2.1.2.2.1) (hL : G.2.1.2.2.1 ≤ 2560) (hI : zl_I S sh mi mr) (hc : cells + 60 ≤ mc) (hs : slots + 1460 ≤ ms) (hN : zl_N Γ G Q n cells slots) : zz Γ G Q cells slots sh mi mr 1035 (zl_ls n) [] := by
  obtain ⟨hW, hR, hM, h8, h10⟩ := id hI
  have h5 : 5 < G.2.2.1 := by rw [hml]; decide
  have h6 : 6 < G.2.2.1 := by rw [hml]; decide
  refine zz_aload_n hX dL_law_1035 1 rfl rfl ?_
  refine zz_aload_n hX dL_law_1036 0 rfl rfl ?_
  refine zz_iload hX dL_law_1037 4 rfl ?_
  refine zz_iconst (v := nI 1) hX dL_law_1039 rfl ?_
  refine zz_iadd (z := nI (5 * n + 1)) hX dL_law_1040 (nI_add _ _) ?_
  refine zz_sld hX h10 (5 * n + 1) rfl (by omega) (by omega) dL_law_1041 ?_
  refine zz_aload_n hX dL_law_1042 0 rfl rfl ?_
  refine zz_iload hX dL_law_1043 4 rfl ?_
  refine zz_iconst (v := nI 2) hX dL_law_1045 rfl ?_
  refine zz_iadd (z := nI (5 * n + 2)) hX dL_law_1046 (nI_add _ _) ?_
  refine zz_sld hX h10 (5 * n + 2) rfl (by omega) (by omega) dL_law_1047 ?_
  refine zz_aload_n hX dL_law_1048 3 rfl rfl ?_
  refine zz_callSH hX zf_M_L_165 (As := [.ref 2, .int (G.2.1.2.2.2 (5 * n + 1)), .int (G.2.1.2.2.2 (5 * n + 2)), .ref 8]) (st := []) (W_bump S sh mi mr hW hR h8 (G.2.1.2.2.2 (5 * n + 1)) (G.2.1.2.2.2 (5 * n + 2)) ) rfl rfl (by decide) (by decide) (by omega) (by omega) dL_law_1049 ?_ (fun _ _ _ _ h _ => h.elim)
  rintro v9 s9 i9 m9 ⟨k, rfl, hw, h89, hf⟩ -
  have hM9 : zM S s9 i9 m9 := zM_same hM (fun l hl => hf l (by omega))
  have h10b : s9 10 = some (9, 0) := (hf 10 (Or.inr ⟨by decide, by decide⟩)).1.trans h10
  refine zz_istore (ls' := [(0, .ref 10), (1, .ref 2), (2, .ref 1), (3, .ref 8), (4, .int (nI (5 * n))), (5, .int k)]) hX dL_law_1052 h5 rfl ?_
  refine zz_aload_n hX dL_law_1054 2 rfl rfl ?_
  refine zz_aload_n hX dL_law_1055 0 rfl rfl ?_
  refine zz_iload hX dL_law_1056 4 rfl ?_
  refine zz_iconst (v := nI 1) hX dL_law_1058 rfl ?_
  refine zz_iadd (z := nI (5 * n + 1)) hX dL_law_1059 (nI_add _ _) ?_
  refine zz_sld hX h10b (5 * n + 1) rfl (by omega) (by omega) dL_law_1060 ?_
  refine zz_aload_n hX dL_law_1061 0 rfl rfl ?_
  refine zz_iload hX dL_law_1062 4 rfl ?_
  refine zz_iconst (v := nI 2) hX dL_law_1064 rfl ?_
  refine zz_iadd (z := nI (5 * n + 2)) hX dL_law_1065 (nI_add _ _) ?_
  refine zz_sld hX h10b (5 * n + 2) rfl (by omega) (by omega) dL_law_1066 ?_
  refine zz_callV hX zf_M_L_167 (As := [.int (G.2.1.2.2.2 (5 * n + 1)), .int (G.2.1.2.2.2 (5 * n + 2))]) (st := []) (MP_bump S s9 i9 m9 hW hM9 (G.2.1.2.2.2 (5 * n + 1)) (G.2.1.2.2.2 (5 * n + 2))  ) hM9.1 rfl rfl rfl (by decide) (by decide) (by omega) (by omega) dL_law_1067 ?_ (fun _ _ _ _ h _ => h.elim)
  rintro v7 s7 i7 m7 ⟨b, rfl, hm, hg⟩ -
  obtain ⟨j1, j2, T, hT⟩ := zl_join (P := fun _ => True) hI (fun hA hB hC => U_bump hW (G.2.1.2.2.2 (5 * n + 1)) (G.2.1.2.2.2 (5 * n + 2))  hA hB hC) ⟨Or.inr (by decide), Or.inr (by decide), Or.inr (by decide)⟩ trivial hw h89 hf hm hg
  have hM7 := hT.2.2.1.1
  have h87 := hT.2.2.2.1
  refine zz_istore (ls' := [(0, .ref 10), (1, .ref 2), (2, .ref 1), (3, .ref 8), (4, .int (nI (5 * n))), (5, .int k), (6, .int b)]) hX dL_law_1070 h6 rfl ?_
  refine zz_aload_n hX dL_law_1072 2 rfl rfl ?_
  refine zz_vI (x := i7 1 30) hX zf_M_L_124 (As := []) (st := []) (M_thrown s7 i7 m7 hM7) hM7 rfl rfl rfl (by decide) (by decide) (by omega) (by omega) dL_law_1073 ?_
  refine zz_iload hX dL_law_1076 5 rfl ?_
  refine zz_icmp_eq hX 1083 dL_law_1078 rfl (fun _ => ?_) (fun c => absurd j1 c)
  refine zz_iload hX dL_law_1083 5 rfl ?_
  have fin : ∀ c s, c ≤ cells + 60 → s ≤ slots + 1460 → zz Γ G Q c s s7 i7 m7 1100 [(0, .ref 10), (1, .ref 2), (2, .ref 1), (3, .ref 8), (4, .int (nI (5 * n))), (5, .int k), (6, .int b)] [] := fun c s hc hs => zz_goto hX 2329 dL_law_1100 rfl (zz_pick [0, 1, 2, 3, 4] rfl (hN T s7 i7 m7 c s hT hc hs))
  refine zz_if_ne hX 1100 dL_law_1085 rfl (fun _ => fin _ _ (by omega) (by omega)) (fun c0k => ?_)
  obtain ⟨j3, j4⟩ := j2 c0k
  refine zz_aload_n hX dL_law_1088 3 rfl rfl ?_
  refine zz_iconst (v := nI 0) hX dL_law_1089 rfl ?_
  refine zz_lald hX h87 0 rfl (by decide) (by decide) dL_law_1090 ?_
  refine zz_iload hX dL_law_1091 6 rfl ?_
  refine zz_i2l hX dL_law_1093 ?_
  refine zz_lcmp hX dL_law_1094 ?_
  exact zz_if_eq hX 1100 dL_law_1095 rfl (fun _ => fin _ _ (by omega) (by omega)) (fun c => absurd (by rw [j3]; exact lg_cmp_self _) c)
theorem L_level (hX : zz_X Γ G RL cL_law 12 mc ms) (hml : G.2.2.1 = 7) (S : zS) (sh : zm_Sh) (mi : zm_Mi) (mr : zm_Mr) (n : Nat) (hl : 5 * n + 5 ≤ G.2.1.2.2.1) (hL : G.2.1.2.2.1 ≤ 2560) (hI : zl_I S sh mi mr) (hc : cells + 60 ≤ mc) (hs : slots + 1460 ≤ ms) (hN : zl_N Γ G Q n cells slots) : zz Γ G Q cells slots sh mi mr 1103 (zl_ls n) [] := by
  obtain ⟨hW, hR, hM, h8, h10⟩ := id hI
  have h5 : 5 < G.2.2.1 := by rw [hml]; decide
  have h6 : 6 < G.2.2.1 := by rw [hml]; decide
  refine zz_aload_n hX dL_law_1103 1 rfl rfl ?_
  refine zz_aload_n hX dL_law_1104 0 rfl rfl ?_
  refine zz_iload hX dL_law_1105 4 rfl ?_
  refine zz_iconst (v := nI 1) hX dL_law_1107 rfl ?_
  refine zz_iadd (z := nI (5 * n + 1)) hX dL_law_1108 (nI_add _ _) ?_
  refine zz_sld hX h10 (5 * n + 1) rfl (by omega) (by omega) dL_law_1109 ?_
  refine zz_aload_n hX dL_law_1110 3 rfl rfl ?_
  refine zz_callSH hX zf_M_L_168 (As := [.ref 2, .int (G.2.1.2.2.2 (5 * n + 1)), .ref 8]) (st := []) (W_level S sh mi mr hW hR h8 (G.2.1.2.2.2 (5 * n + 1)) ) rfl rfl (by decide) (by decide) (by omega) (by omega) dL_law_1111 ?_ (fun _ _ _ _ h _ => h.elim)
  rintro v9 s9 i9 m9 ⟨k, rfl, hw, h89, hf⟩ -
  have hM9 : zM S s9 i9 m9 := zM_same hM (fun l hl => hf l (by omega))
  have h10b : s9 10 = some (9, 0) := (hf 10 (Or.inr ⟨by decide, by decide⟩)).1.trans h10
  refine zz_istore (ls' := [(0, .ref 10), (1, .ref 2), (2, .ref 1), (3, .ref 8), (4, .int (nI (5 * n))), (5, .int k)]) hX dL_law_1114 h5 rfl ?_
  refine zz_aload_n hX dL_law_1116 2 rfl rfl ?_
  refine zz_aload_n hX dL_law_1117 0 rfl rfl ?_
  refine zz_iload hX dL_law_1118 4 rfl ?_
  refine zz_iconst (v := nI 1) hX dL_law_1120 rfl ?_
  refine zz_iadd (z := nI (5 * n + 1)) hX dL_law_1121 (nI_add _ _) ?_
  refine zz_sld hX h10b (5 * n + 1) rfl (by omega) (by omega) dL_law_1122 ?_
  refine zz_callV hX zf_M_L_170 (As := [.int (G.2.1.2.2.2 (5 * n + 1))]) (st := []) (MP_level S s9 i9 m9 hW hM9 (G.2.1.2.2.2 (5 * n + 1))  ) hM9.1 rfl rfl rfl (by decide) (by decide) (by omega) (by omega) dL_law_1123 ?_ (fun _ _ _ _ h _ => h.elim)
  rintro v7 s7 i7 m7 ⟨b, rfl, hm, hg⟩ -
  obtain ⟨j1, j2, T, hT⟩ := zl_join (P := fun _ => True) hI (fun hA hB hC => U_level hW (G.2.1.2.2.2 (5 * n + 1))  hA hB hC) ⟨Or.inr (by decide), Or.inl trivial, Or.inl trivial⟩ trivial hw h89 hf hm hg
  have hM7 := hT.2.2.1.1
  have h87 := hT.2.2.2.1
  refine zz_istore (ls' := [(0, .ref 10), (1, .ref 2), (2, .ref 1), (3, .ref 8), (4, .int (nI (5 * n))), (5, .int k), (6, .int b)]) hX dL_law_1126 h6 rfl ?_
  refine zz_aload_n hX dL_law_1128 2 rfl rfl ?_
  refine zz_vI (x := i7 1 30) hX zf_M_L_124 (As := []) (st := []) (M_thrown s7 i7 m7 hM7) hM7 rfl rfl rfl (by decide) (by decide) (by omega) (by omega) dL_law_1129 ?_
  refine zz_iload hX dL_law_1132 5 rfl ?_
  refine zz_icmp_eq hX 1139 dL_law_1134 rfl (fun _ => ?_) (fun c => absurd j1 c)
  refine zz_iload hX dL_law_1139 5 rfl ?_
  have fin : ∀ c s, c ≤ cells + 60 → s ≤ slots + 1460 → zz Γ G Q c s s7 i7 m7 1156 [(0, .ref 10), (1, .ref 2), (2, .ref 1), (3, .ref 8), (4, .int (nI (5 * n))), (5, .int k), (6, .int b)] [] := fun c s hc hs => zz_goto hX 2329 dL_law_1156 rfl (zz_pick [0, 1, 2, 3, 4] rfl (hN T s7 i7 m7 c s hT hc hs))
  refine zz_if_ne hX 1156 dL_law_1141 rfl (fun _ => fin _ _ (by omega) (by omega)) (fun c0k => ?_)
  obtain ⟨j3, j4⟩ := j2 c0k
  refine zz_aload_n hX dL_law_1144 3 rfl rfl ?_
  refine zz_iconst (v := nI 0) hX dL_law_1145 rfl ?_
  refine zz_lald hX h87 0 rfl (by decide) (by decide) dL_law_1146 ?_
  refine zz_iload hX dL_law_1147 6 rfl ?_
  refine zz_i2l hX dL_law_1149 ?_
  refine zz_lcmp hX dL_law_1150 ?_
  exact zz_if_eq hX 1156 dL_law_1151 rfl (fun _ => fin _ _ (by omega) (by omega)) (fun c => absurd (by rw [j3]; exact lg_cmp_self _) c)
theorem L_anew (hX : zz_X Γ G RL cL_law 12 mc ms) (hml : G.2.2.1 = 7) (S : zS) (sh : zm_Sh) (mi : zm_Mi) (mr : zm_Mr) (n : Nat) (hl : 5 * n + 5 ≤ G.2.1.2.2.1) (hL : G.2.1.2.2.1 ≤ 2560) (hI : zl_I S sh mi mr) (hc : cells + 60 ≤ mc) (hs : slots + 1460 ≤ ms) (hN : zl_N Γ G Q n cells slots) : zz Γ G Q cells slots sh mi mr 1159 (zl_ls n) [] := by
  obtain ⟨hW, hR, hM, h8, h10⟩ := id hI
  have h5 : 5 < G.2.2.1 := by rw [hml]; decide
  have h6 : 6 < G.2.2.1 := by rw [hml]; decide
  refine zz_aload_n hX dL_law_1159 1 rfl rfl ?_
  refine zz_aload_n hX dL_law_1160 0 rfl rfl ?_
  refine zz_iload hX dL_law_1161 4 rfl ?_
  refine zz_iconst (v := nI 1) hX dL_law_1163 rfl ?_
  refine zz_iadd (z := nI (5 * n + 1)) hX dL_law_1164 (nI_add _ _) ?_
  refine zz_sld hX h10 (5 * n + 1) rfl (by omega) (by omega) dL_law_1165 ?_
  refine zz_aload_n hX dL_law_1166 0 rfl rfl ?_
  refine zz_iload hX dL_law_1167 4 rfl ?_
  refine zz_iconst (v := nI 2) hX dL_law_1169 rfl ?_
  refine zz_iadd (z := nI (5 * n + 2)) hX dL_law_1170 (nI_add _ _) ?_
  refine zz_sld hX h10 (5 * n + 2) rfl (by omega) (by omega) dL_law_1171 ?_
  refine zz_aload_n hX dL_law_1172 3 rfl rfl ?_
  refine zz_callSH hX zf_M_L_171 (As := [.ref 2, .int (G.2.1.2.2.2 (5 * n + 1)), .int (G.2.1.2.2.2 (5 * n + 2)), .ref 8]) (st := []) (W_anew S sh mi mr hW hR h8 (G.2.1.2.2.2 (5 * n + 1)) (G.2.1.2.2.2 (5 * n + 2)) ) rfl rfl (by decide) (by decide) (by omega) (by omega) dL_law_1173 ?_ (fun _ _ _ _ h _ => h.elim)
  rintro v9 s9 i9 m9 ⟨k, rfl, hw, h89, hf⟩ -
  have hM9 : zM S s9 i9 m9 := zM_same hM (fun l hl => hf l (by omega))
  have h10b : s9 10 = some (9, 0) := (hf 10 (Or.inr ⟨by decide, by decide⟩)).1.trans h10
  refine zz_istore (ls' := [(0, .ref 10), (1, .ref 2), (2, .ref 1), (3, .ref 8), (4, .int (nI (5 * n))), (5, .int k)]) hX dL_law_1176 h5 rfl ?_
  refine zz_aload_n hX dL_law_1178 2 rfl rfl ?_
  refine zz_aload_n hX dL_law_1179 0 rfl rfl ?_
  refine zz_iload hX dL_law_1180 4 rfl ?_
  refine zz_iconst (v := nI 1) hX dL_law_1182 rfl ?_
  refine zz_iadd (z := nI (5 * n + 1)) hX dL_law_1183 (nI_add _ _) ?_
  refine zz_sld hX h10b (5 * n + 1) rfl (by omega) (by omega) dL_law_1184 ?_
  refine zz_aload_n hX dL_law_1185 0 rfl rfl ?_
  refine zz_iload hX dL_law_1186 4 rfl ?_
  refine zz_iconst (v := nI 2) hX dL_law_1188 rfl ?_
  refine zz_iadd (z := nI (5 * n + 2)) hX dL_law_1189 (nI_add _ _) ?_
  refine zz_sld hX h10b (5 * n + 2) rfl (by omega) (by omega) dL_law_1190 ?_
  refine zz_callV hX zf_M_L_173 (As := [.int (G.2.1.2.2.2 (5 * n + 1)), .int (G.2.1.2.2.2 (5 * n + 2))]) (st := []) (MP_anew S s9 i9 m9 hW hM9 (G.2.1.2.2.2 (5 * n + 1)) (G.2.1.2.2.2 (5 * n + 2))  ) hM9.1 rfl rfl rfl (by decide) (by decide) (by omega) (by omega) dL_law_1191 ?_ (fun _ _ _ _ h _ => h.elim)
  rintro v7 s7 i7 m7 ⟨b, rfl, hm, hg⟩ -
  obtain ⟨j1, j2, T, hT⟩ := zl_join (P := fun _ => True) hI (fun hA hB hC => U_anew hW (G.2.1.2.2.2 (5 * n + 1)) (G.2.1.2.2.2 (5 * n + 2))  hA hB hC) ⟨Or.inr (by decide), Or.inl trivial, Or.inr (by decide)⟩ trivial hw h89 hf hm hg
  have hM7 := hT.2.2.1.1
  have h87 := hT.2.2.2.1
  refine zz_istore (ls' := [(0, .ref 10), (1, .ref 2), (2, .ref 1), (3, .ref 8), (4, .int (nI (5 * n))), (5, .int k), (6, .int b)]) hX dL_law_1194 h6 rfl ?_
  refine zz_aload_n hX dL_law_1196 2 rfl rfl ?_
  refine zz_vI (x := i7 1 30) hX zf_M_L_124 (As := []) (st := []) (M_thrown s7 i7 m7 hM7) hM7 rfl rfl rfl (by decide) (by decide) (by omega) (by omega) dL_law_1197 ?_
  refine zz_iload hX dL_law_1200 5 rfl ?_
  refine zz_icmp_eq hX 1207 dL_law_1202 rfl (fun _ => ?_) (fun c => absurd j1 c)
  refine zz_iload hX dL_law_1207 5 rfl ?_
  have fin : ∀ c s, c ≤ cells + 60 → s ≤ slots + 1460 → zz Γ G Q c s s7 i7 m7 1224 [(0, .ref 10), (1, .ref 2), (2, .ref 1), (3, .ref 8), (4, .int (nI (5 * n))), (5, .int k), (6, .int b)] [] := fun c s hc hs => zz_goto hX 2329 dL_law_1224 rfl (zz_pick [0, 1, 2, 3, 4] rfl (hN T s7 i7 m7 c s hT hc hs))
  refine zz_if_ne hX 1224 dL_law_1209 rfl (fun _ => fin _ _ (by omega) (by omega)) (fun c0k => ?_)
  obtain ⟨j3, j4⟩ := j2 c0k
  refine zz_aload_n hX dL_law_1212 3 rfl rfl ?_
  refine zz_iconst (v := nI 0) hX dL_law_1213 rfl ?_
  refine zz_lald hX h87 0 rfl (by decide) (by decide) dL_law_1214 ?_
  refine zz_iload hX dL_law_1215 6 rfl ?_
  refine zz_i2l hX dL_law_1217 ?_
  refine zz_lcmp hX dL_law_1218 ?_
  exact zz_if_eq hX 1224 dL_law_1219 rfl (fun _ => fin _ _ (by omega) (by omega)) (fun c => absurd (by rw [j3]; exact lg_cmp_self _) c)
theorem L_mend (hX : zz_X Γ G RL cL_law 12 mc ms) (hml : G.2.2.1 = 7) (S : zS) (sh : zm_Sh) (mi : zm_Mi) (mr : zm_Mr) (n : Nat) (hl : 5 * n + 5 ≤ G.2.1.2.2.1) (hL : G.2.1.2.2.1 ≤ 2560) (hI : zl_I S sh mi mr) (hc : cells + 60 ≤ mc) (hs : slots + 1460 ≤ ms) (hN : zl_N Γ G Q n cells slots) : zz Γ G Q cells slots sh mi mr 1227 (zl_ls n) [] := by
  obtain ⟨hW, hR, hM, h8, h10⟩ := id hI
  have h5 : 5 < G.2.2.1 := by rw [hml]; decide
  have h6 : 6 < G.2.2.1 := by rw [hml]; decide
  refine zz_aload_n hX dL_law_1227 1 rfl rfl ?_
  refine zz_aload_n hX dL_law_1228 0 rfl rfl ?_
  refine zz_iload hX dL_law_1229 4 rfl ?_
  refine zz_iconst (v := nI 1) hX dL_law_1231 rfl ?_
  refine zz_iadd (z := nI (5 * n + 1)) hX dL_law_1232 (nI_add _ _) ?_
  refine zz_sld hX h10 (5 * n + 1) rfl (by omega) (by omega) dL_law_1233 ?_
  refine zz_aload_n hX dL_law_1234 0 rfl rfl ?_
  refine zz_iload hX dL_law_1235 4 rfl ?_
  refine zz_iconst (v := nI 2) hX dL_law_1237 rfl ?_
  refine zz_iadd (z := nI (5 * n + 2)) hX dL_law_1238 (nI_add _ _) ?_
  refine zz_sld hX h10 (5 * n + 2) rfl (by omega) (by omega) dL_law_1239 ?_
  refine zz_aload_n hX dL_law_1240 3 rfl rfl ?_
  refine zz_callSH hX zf_M_L_174 (As := [.ref 2, .int (G.2.1.2.2.2 (5 * n + 1)), .int (G.2.1.2.2.2 (5 * n + 2)), .ref 8]) (st := []) (W_mend S sh mi mr hW hR h8 (G.2.1.2.2.2 (5 * n + 1)) (G.2.1.2.2.2 (5 * n + 2)) ) rfl rfl (by decide) (by decide) (by omega) (by omega) dL_law_1241 ?_ (fun _ _ _ _ h _ => h.elim)
  rintro v9 s9 i9 m9 ⟨k, rfl, hw, h89, hf⟩ -
  have hM9 : zM S s9 i9 m9 := zM_same hM (fun l hl => hf l (by omega))
  have h10b : s9 10 = some (9, 0) := (hf 10 (Or.inr ⟨by decide, by decide⟩)).1.trans h10
  refine zz_istore (ls' := [(0, .ref 10), (1, .ref 2), (2, .ref 1), (3, .ref 8), (4, .int (nI (5 * n))), (5, .int k)]) hX dL_law_1244 h5 rfl ?_
  refine zz_aload_n hX dL_law_1246 2 rfl rfl ?_
  refine zz_aload_n hX dL_law_1247 0 rfl rfl ?_
  refine zz_iload hX dL_law_1248 4 rfl ?_
  refine zz_iconst (v := nI 1) hX dL_law_1250 rfl ?_
  refine zz_iadd (z := nI (5 * n + 1)) hX dL_law_1251 (nI_add _ _) ?_
  refine zz_sld hX h10b (5 * n + 1) rfl (by omega) (by omega) dL_law_1252 ?_
  refine zz_aload_n hX dL_law_1253 0 rfl rfl ?_
  refine zz_iload hX dL_law_1254 4 rfl ?_
  refine zz_iconst (v := nI 2) hX dL_law_1256 rfl ?_
  refine zz_iadd (z := nI (5 * n + 2)) hX dL_law_1257 (nI_add _ _) ?_
  refine zz_sld hX h10b (5 * n + 2) rfl (by omega) (by omega) dL_law_1258 ?_
  refine zz_callV hX zf_M_L_176 (As := [.int (G.2.1.2.2.2 (5 * n + 1)), .int (G.2.1.2.2.2 (5 * n + 2))]) (st := []) (MP_mend S s9 i9 m9 hW hM9 (G.2.1.2.2.2 (5 * n + 1)) (G.2.1.2.2.2 (5 * n + 2))  ) hM9.1 rfl rfl rfl (by decide) (by decide) (by omega) (by omega) dL_law_1259 ?_ (fun _ _ _ _ h _ => h.elim)
  rintro v7 s7 i7 m7 ⟨b, rfl, hm, hg⟩ -
  obtain ⟨j1, j2, T, hT⟩ := zl_join (P := fun _ => True) hI (fun hA hB hC => U_mend hW (G.2.1.2.2.2 (5 * n + 1)) (G.2.1.2.2.2 (5 * n + 2))  hA hB hC) ⟨Or.inr (by decide), Or.inl trivial, Or.inl trivial⟩ trivial hw h89 hf hm hg
  have hM7 := hT.2.2.1.1
  have h87 := hT.2.2.2.1
  refine zz_istore (ls' := [(0, .ref 10), (1, .ref 2), (2, .ref 1), (3, .ref 8), (4, .int (nI (5 * n))), (5, .int k), (6, .int b)]) hX dL_law_1262 h6 rfl ?_
  refine zz_aload_n hX dL_law_1264 2 rfl rfl ?_
  refine zz_vI (x := i7 1 30) hX zf_M_L_124 (As := []) (st := []) (M_thrown s7 i7 m7 hM7) hM7 rfl rfl rfl (by decide) (by decide) (by omega) (by omega) dL_law_1265 ?_
  refine zz_iload hX dL_law_1268 5 rfl ?_
  refine zz_icmp_eq hX 1275 dL_law_1270 rfl (fun _ => ?_) (fun c => absurd j1 c)
  refine zz_iload hX dL_law_1275 5 rfl ?_
  have fin : ∀ c s, c ≤ cells + 60 → s ≤ slots + 1460 → zz Γ G Q c s s7 i7 m7 1292 [(0, .ref 10), (1, .ref 2), (2, .ref 1), (3, .ref 8), (4, .int (nI (5 * n))), (5, .int k), (6, .int b)] [] := fun c s hc hs => zz_goto hX 2329 dL_law_1292 rfl (zz_pick [0, 1, 2, 3, 4] rfl (hN T s7 i7 m7 c s hT hc hs))
  refine zz_if_ne hX 1292 dL_law_1277 rfl (fun _ => fin _ _ (by omega) (by omega)) (fun c0k => ?_)
  obtain ⟨j3, j4⟩ := j2 c0k
  refine zz_aload_n hX dL_law_1280 3 rfl rfl ?_
  refine zz_iconst (v := nI 0) hX dL_law_1281 rfl ?_
  refine zz_lald hX h87 0 rfl (by decide) (by decide) dL_law_1282 ?_
  refine zz_iload hX dL_law_1283 6 rfl ?_
  refine zz_i2l hX dL_law_1285 ?_
  refine zz_lcmp hX dL_law_1286 ?_
  exact zz_if_eq hX 1292 dL_law_1287 rfl (fun _ => fin _ _ (by omega) (by omega)) (fun c => absurd (by rw [j3]; exact lg_cmp_self _) c)
theorem L_lamp (hX : zz_X Γ G RL cL_law 12 mc ms) (hml : G.2.2.1 = 7) (S : zS) (sh : zm_Sh) (mi : zm_Mi) (mr : zm_Mr) (n : Nat) (hl : 5 * n + 5 ≤ G.2.1.2.2.1) (hL : G.2.1.2.2.1 ≤ 2560) (hI : zl_I S sh mi mr) (hc : cells + 60 ≤ mc) (hs : slots + 1460 ≤ ms) (hN : zl_N Γ G Q n cells slots) : zz Γ G Q cells slots sh mi mr 1295 (zl_ls n) [] := by
  obtain ⟨hW, hR, hM, h8, h10⟩ := id hI
  refine zz_aload_n hX dL_law_1295 1 rfl rfl ?_
  refine zz_callV hX zf_M_L_177 (As := []) (st := []) (P_lamp S sh mi mr hW hR) hR.1.1 rfl rfl rfl (by decide) (by decide) (by omega) (by omega) dL_law_1296 ?_ ?_
  rotate_left
  · rintro e9 s9 i9 m9 ⟨hq, -⟩ -
    rcases hq with ⟨-, q1⟩ | ⟨-, -, q2⟩ | ⟨-, -, -, q3⟩
    · exact absurd trivial q1
    · exact absurd trivial q2
    · exact absurd trivial q3
  rintro v9 s9 i9 m9 ⟨-, rfl, hR9, hS9⟩ -
  have hW9 : zW _ := U_lamp hW trivial trivial trivial
  have hM9 : zM S s9 i9 m9 := zM_same hM (fun l hl => hS9 l (by unfold zr_out; omega))
  refine zz_aload_n hX dL_law_1299 2 rfl rfl ?_
  refine zz_callV hX zf_M_L_180 (As := []) (st := [.int (zp_light S)]) (MP_lamp S s9 i9 m9 hW hM9) hM9.1 rfl rfl rfl (by decide) (Nat.le_of_ble_eq_true rfl) (by omega) (by omega) dL_law_1300 ?_ (fun _ _ _ _ h _ => h.elim)
  rintro v7 s7 i7 m7 ⟨b, rfl, hm, hg⟩ -
  rcases hm with ⟨-, -, -, f1, f2, q⟩ | ⟨x, -⟩ | ⟨-, x, -⟩ | ⟨-, -, x, -⟩
  rotate_left
  · exact absurd trivial x
  · exact absurd trivial x
  · exact absurd trivial x
  refine zz_icmp_eq hX 2329 dL_law_1303 rfl (fun _ => ?_) (fun c => absurd f2.symm c)
  refine hN _ _ _ _ _ _ ⟨hW9, zR_same hW9 hR9 (fun l hl => hg l (by unfold zr_cl at hl; unfold zr_mout; omega)), q, ?_, ?_⟩ (by omega) (by omega)
  · exact (hg 8 ⟨by decide, by decide⟩).1.trans ((hS9 8 (Or.inr ⟨by decide, by decide⟩)).1.trans h8)
  · exact (hg 10 ⟨by decide, by decide⟩).1.trans ((hS9 10 (Or.inr ⟨by decide, by decide⟩)).1.trans h10)
theorem L_cut (hX : zz_X Γ G RL cL_law 12 mc ms) (hml : G.2.2.1 = 7) (S : zS) (sh : zm_Sh) (mi : zm_Mi) (mr : zm_Mr) (n : Nat) (hl : 5 * n + 5 ≤ G.2.1.2.2.1) (hL : G.2.1.2.2.1 ≤ 2560) (hI : zl_I S sh mi mr) (hc : cells + 60 ≤ mc) (hs : slots + 1460 ≤ ms) (hN : zl_N Γ G Q n cells slots) : zz Γ G Q cells slots sh mi mr 1308 (zl_ls n) [] := by
  obtain ⟨hW, hR, hM, h8, h10⟩ := id hI
  have h5 : 5 < G.2.2.1 := by rw [hml]; decide
  have h6 : 6 < G.2.2.1 := by rw [hml]; decide
  refine zz_aload_n hX dL_law_1308 1 rfl rfl ?_
  refine zz_aload_n hX dL_law_1309 0 rfl rfl ?_
  refine zz_iload hX dL_law_1310 4 rfl ?_
  refine zz_iconst (v := nI 1) hX dL_law_1312 rfl ?_
  refine zz_iadd (z := nI (5 * n + 1)) hX dL_law_1313 (nI_add _ _) ?_
  refine zz_sld hX h10 (5 * n + 1) rfl (by omega) (by omega) dL_law_1314 ?_
  refine zz_aload_n hX dL_law_1315 3 rfl rfl ?_
  refine zz_callSH hX zf_M_L_181 (As := [.ref 2, .int (G.2.1.2.2.2 (5 * n + 1)), .ref 8]) (st := []) (W_cut S sh mi mr hW hR h8 (G.2.1.2.2.2 (5 * n + 1)) ) rfl rfl (by decide) (by decide) (by omega) (by omega) dL_law_1316 ?_ (fun _ _ _ _ h _ => h.elim)
  rintro v9 s9 i9 m9 ⟨k, rfl, hw, h89, hf⟩ -
  have hM9 : zM S s9 i9 m9 := zM_same hM (fun l hl => hf l (by omega))
  have h10b : s9 10 = some (9, 0) := (hf 10 (Or.inr ⟨by decide, by decide⟩)).1.trans h10
  refine zz_istore (ls' := [(0, .ref 10), (1, .ref 2), (2, .ref 1), (3, .ref 8), (4, .int (nI (5 * n))), (5, .int k)]) hX dL_law_1319 h5 rfl ?_
  refine zz_aload_n hX dL_law_1321 2 rfl rfl ?_
  refine zz_aload_n hX dL_law_1322 0 rfl rfl ?_
  refine zz_iload hX dL_law_1323 4 rfl ?_
  refine zz_iconst (v := nI 1) hX dL_law_1325 rfl ?_
  refine zz_iadd (z := nI (5 * n + 1)) hX dL_law_1326 (nI_add _ _) ?_
  refine zz_sld hX h10b (5 * n + 1) rfl (by omega) (by omega) dL_law_1327 ?_
  refine zz_callV hX zf_M_L_183 (As := [.int (G.2.1.2.2.2 (5 * n + 1))]) (st := []) (MP_cut S s9 i9 m9 hW hM9 (G.2.1.2.2.2 (5 * n + 1))  ) hM9.1 rfl rfl rfl (by decide) (by decide) (by omega) (by omega) dL_law_1328 ?_ (fun _ _ _ _ h _ => h.elim)
  rintro v7 s7 i7 m7 ⟨b, rfl, hm, hg⟩ -
  obtain ⟨j1, j2, T, hT⟩ := zl_join (P := fun _ => True) hI (fun hA hB hC => U_cut hW (G.2.1.2.2.2 (5 * n + 1))  hA hB hC) ⟨Or.inr (by decide), Or.inl trivial, Or.inr (by decide)⟩ trivial hw h89 hf hm hg
  have hM7 := hT.2.2.1.1
  have h87 := hT.2.2.2.1
  refine zz_istore (ls' := [(0, .ref 10), (1, .ref 2), (2, .ref 1), (3, .ref 8), (4, .int (nI (5 * n))), (5, .int k), (6, .int b)]) hX dL_law_1331 h6 rfl ?_
  refine zz_aload_n hX dL_law_1333 2 rfl rfl ?_
  refine zz_vI (x := i7 1 30) hX zf_M_L_124 (As := []) (st := []) (M_thrown s7 i7 m7 hM7) hM7 rfl rfl rfl (by decide) (by decide) (by omega) (by omega) dL_law_1334 ?_
  refine zz_iload hX dL_law_1337 5 rfl ?_
  refine zz_icmp_eq hX 1344 dL_law_1339 rfl (fun _ => ?_) (fun c => absurd j1 c)
  refine zz_iload hX dL_law_1344 5 rfl ?_
  have fin : ∀ c s, c ≤ cells + 60 → s ≤ slots + 1460 → zz Γ G Q c s s7 i7 m7 1361 [(0, .ref 10), (1, .ref 2), (2, .ref 1), (3, .ref 8), (4, .int (nI (5 * n))), (5, .int k), (6, .int b)] [] := fun c s hc hs => zz_goto hX 2329 dL_law_1361 rfl (zz_pick [0, 1, 2, 3, 4] rfl (hN T s7 i7 m7 c s hT hc hs))
  refine zz_if_ne hX 1361 dL_law_1346 rfl (fun _ => fin _ _ (by omega) (by omega)) (fun c0k => ?_)
  obtain ⟨j3, j4⟩ := j2 c0k
  refine zz_aload_n hX dL_law_1349 3 rfl rfl ?_
  refine zz_iconst (v := nI 0) hX dL_law_1350 rfl ?_
  refine zz_lald hX h87 0 rfl (by decide) (by decide) dL_law_1351 ?_
  refine zz_iload hX dL_law_1352 6 rfl ?_
  refine zz_i2l hX dL_law_1354 ?_
  refine zz_lcmp hX dL_law_1355 ?_
  exact zz_if_eq hX 1361 dL_law_1356 rfl (fun _ => fin _ _ (by omega) (by omega)) (fun c => absurd (by rw [j3]; exact lg_cmp_self _) c)
theorem L_cutOut (hX : zz_X Γ G RL cL_law 12 mc ms) (hml : G.2.2.1 = 7) (S : zS) (sh : zm_Sh) (mi : zm_Mi) (mr : zm_Mr) (n : Nat) (hl : 5 * n + 5 ≤ G.2.1.2.2.1) (hL : G.2.1.2.2.1 ≤ 2560) (hI : zl_I S sh mi mr) (hc : cells + 60 ≤ mc) (hs : slots + 1460 ≤ ms) (hN : zl_N Γ G Q n cells slots) : zz Γ G Q cells slots sh mi mr 1364 (zl_ls n) [] := by
  obtain ⟨hW, hR, hM, h8, h10⟩ := id hI
  have h5 : 5 < G.2.2.1 := by rw [hml]; decide
  have h6 : 6 < G.2.2.1 := by rw [hml]; decide
  refine zz_aload_n hX dL_law_1364 1 rfl rfl ?_
  refine zz_aload_n hX dL_law_1365 0 rfl rfl ?_
  refine zz_iload hX dL_law_1366 4 rfl ?_
  refine zz_iconst (v := nI 1) hX dL_law_1368 rfl ?_
  refine zz_iadd (z := nI (5 * n + 1)) hX dL_law_1369 (nI_add _ _) ?_
  refine zz_sld hX h10 (5 * n + 1) rfl (by omega) (by omega) dL_law_1370 ?_
  refine zz_aload_n hX dL_law_1371 3 rfl rfl ?_
  refine zz_callSH hX zf_M_L_184 (As := [.ref 2, .int (G.2.1.2.2.2 (5 * n + 1)), .ref 8]) (st := []) (W_cutOut S sh mi mr hW hR h8 (G.2.1.2.2.2 (5 * n + 1)) ) rfl rfl (by decide) (by decide) (by omega) (by omega) dL_law_1372 ?_ (fun _ _ _ _ h _ => h.elim)
  rintro v9 s9 i9 m9 ⟨k, rfl, hw, h89, hf⟩ -
  have hM9 : zM S s9 i9 m9 := zM_same hM (fun l hl => hf l (by omega))
  have h10b : s9 10 = some (9, 0) := (hf 10 (Or.inr ⟨by decide, by decide⟩)).1.trans h10
  refine zz_istore (ls' := [(0, .ref 10), (1, .ref 2), (2, .ref 1), (3, .ref 8), (4, .int (nI (5 * n))), (5, .int k)]) hX dL_law_1375 h5 rfl ?_
  refine zz_aload_n hX dL_law_1377 2 rfl rfl ?_
  refine zz_aload_n hX dL_law_1378 0 rfl rfl ?_
  refine zz_iload hX dL_law_1379 4 rfl ?_
  refine zz_iconst (v := nI 1) hX dL_law_1381 rfl ?_
  refine zz_iadd (z := nI (5 * n + 1)) hX dL_law_1382 (nI_add _ _) ?_
  refine zz_sld hX h10b (5 * n + 1) rfl (by omega) (by omega) dL_law_1383 ?_
  refine zz_callV hX zf_M_L_186 (As := [.int (G.2.1.2.2.2 (5 * n + 1))]) (st := []) (MP_cutOut S s9 i9 m9 hW hM9 (G.2.1.2.2.2 (5 * n + 1))  ) hM9.1 rfl rfl rfl (by decide) (by decide) (by omega) (by omega) dL_law_1384 ?_ (fun _ _ _ _ h _ => h.elim)
  rintro v7 s7 i7 m7 ⟨b, rfl, hm, hg⟩ -
  obtain ⟨j1, j2, T, hT⟩ := zl_join (P := fun _ => True) hI (fun hA hB hC => U_cutOut hW (G.2.1.2.2.2 (5 * n + 1))  hA hB hC) ⟨Or.inr (by decide), Or.inl trivial, Or.inr (by decide)⟩ trivial hw h89 hf hm hg
  have hM7 := hT.2.2.1.1
  have h87 := hT.2.2.2.1
  refine zz_istore (ls' := [(0, .ref 10), (1, .ref 2), (2, .ref 1), (3, .ref 8), (4, .int (nI (5 * n))), (5, .int k), (6, .int b)]) hX dL_law_1387 h6 rfl ?_
  refine zz_aload_n hX dL_law_1389 2 rfl rfl ?_
  refine zz_vI (x := i7 1 30) hX zf_M_L_124 (As := []) (st := []) (M_thrown s7 i7 m7 hM7) hM7 rfl rfl rfl (by decide) (by decide) (by omega) (by omega) dL_law_1390 ?_
  refine zz_iload hX dL_law_1393 5 rfl ?_
  refine zz_icmp_eq hX 1400 dL_law_1395 rfl (fun _ => ?_) (fun c => absurd j1 c)
  refine zz_iload hX dL_law_1400 5 rfl ?_
  have fin : ∀ c s, c ≤ cells + 60 → s ≤ slots + 1460 → zz Γ G Q c s s7 i7 m7 1417 [(0, .ref 10), (1, .ref 2), (2, .ref 1), (3, .ref 8), (4, .int (nI (5 * n))), (5, .int k), (6, .int b)] [] := fun c s hc hs => zz_goto hX 2329 dL_law_1417 rfl (zz_pick [0, 1, 2, 3, 4] rfl (hN T s7 i7 m7 c s hT hc hs))
  refine zz_if_ne hX 1417 dL_law_1402 rfl (fun _ => fin _ _ (by omega) (by omega)) (fun c0k => ?_)
  obtain ⟨j3, j4⟩ := j2 c0k
  refine zz_aload_n hX dL_law_1405 3 rfl rfl ?_
  refine zz_iconst (v := nI 0) hX dL_law_1406 rfl ?_
  refine zz_lald hX h87 0 rfl (by decide) (by decide) dL_law_1407 ?_
  refine zz_iload hX dL_law_1408 6 rfl ?_
  refine zz_i2l hX dL_law_1410 ?_
  refine zz_lcmp hX dL_law_1411 ?_
  exact zz_if_eq hX 1417 dL_law_1412 rfl (fun _ => fin _ _ (by omega) (by omega)) (fun c => absurd (by rw [j3]; exact lg_cmp_self _) c)
theorem L_degree (hX : zz_X Γ G RL cL_law 12 mc ms) (hml : G.2.2.1 = 7) (S : zS) (sh : zm_Sh) (mi : zm_Mi) (mr : zm_Mr) (n : Nat) (hl : 5 * n + 5 ≤ G.2.1.2.2.1) (hL : G.2.1.2.2.1 ≤ 2560) (hI : zl_I S sh mi mr) (hc : cells + 60 ≤ mc) (hs : slots + 1460 ≤ ms) (hN : zl_N Γ G Q n cells slots) : zz Γ G Q cells slots sh mi mr 1420 (zl_ls n) [] := by
  obtain ⟨hW, hR, hM, h8, h10⟩ := id hI
  have h5 : 5 < G.2.2.1 := by rw [hml]; decide
  have h6 : 6 < G.2.2.1 := by rw [hml]; decide
  refine zz_aload_n hX dL_law_1420 1 rfl rfl ?_
  refine zz_aload_n hX dL_law_1421 0 rfl rfl ?_
  refine zz_iload hX dL_law_1422 4 rfl ?_
  refine zz_iconst (v := nI 1) hX dL_law_1424 rfl ?_
  refine zz_iadd (z := nI (5 * n + 1)) hX dL_law_1425 (nI_add _ _) ?_
  refine zz_sld hX h10 (5 * n + 1) rfl (by omega) (by omega) dL_law_1426 ?_
  refine zz_aload_n hX dL_law_1427 0 rfl rfl ?_
  refine zz_iload hX dL_law_1428 4 rfl ?_
  refine zz_iconst (v := nI 2) hX dL_law_1430 rfl ?_
  refine zz_iadd (z := nI (5 * n + 2)) hX dL_law_1431 (nI_add _ _) ?_
  refine zz_sld hX h10 (5 * n + 2) rfl (by omega) (by omega) dL_law_1432 ?_
  refine zz_aload_n hX dL_law_1433 0 rfl rfl ?_
  refine zz_iload hX dL_law_1434 4 rfl ?_
  refine zz_iconst (v := nI 3) hX dL_law_1436 rfl ?_
  refine zz_iadd (z := nI (5 * n + 3)) hX dL_law_1437 (nI_add _ _) ?_
  refine zz_sld hX h10 (5 * n + 3) rfl (by omega) (by omega) dL_law_1438 ?_
  refine zz_aload_n hX dL_law_1439 3 rfl rfl ?_
  refine zz_callSH hX zf_M_L_187 (As := [.ref 2, .int (G.2.1.2.2.2 (5 * n + 1)), .int (G.2.1.2.2.2 (5 * n + 2)), .int (G.2.1.2.2.2 (5 * n + 3)), .ref 8]) (st := []) (W_degree S sh mi mr hW hR h8 (G.2.1.2.2.2 (5 * n + 1)) (G.2.1.2.2.2 (5 * n + 2)) (G.2.1.2.2.2 (5 * n + 3)) ) rfl rfl (by decide) (by decide) (by omega) (by omega) dL_law_1440 ?_ (fun _ _ _ _ h _ => h.elim)
  rintro v9 s9 i9 m9 ⟨k, rfl, hw, h89, hf⟩ -
  have hM9 : zM S s9 i9 m9 := zM_same hM (fun l hl => hf l (by omega))
  have h10b : s9 10 = some (9, 0) := (hf 10 (Or.inr ⟨by decide, by decide⟩)).1.trans h10
  refine zz_istore (ls' := [(0, .ref 10), (1, .ref 2), (2, .ref 1), (3, .ref 8), (4, .int (nI (5 * n))), (5, .int k)]) hX dL_law_1443 h5 rfl ?_
  refine zz_aload_n hX dL_law_1445 2 rfl rfl ?_
  refine zz_aload_n hX dL_law_1446 0 rfl rfl ?_
  refine zz_iload hX dL_law_1447 4 rfl ?_
  refine zz_iconst (v := nI 1) hX dL_law_1449 rfl ?_
  refine zz_iadd (z := nI (5 * n + 1)) hX dL_law_1450 (nI_add _ _) ?_
  refine zz_sld hX h10b (5 * n + 1) rfl (by omega) (by omega) dL_law_1451 ?_
  refine zz_aload_n hX dL_law_1452 0 rfl rfl ?_
  refine zz_iload hX dL_law_1453 4 rfl ?_
  refine zz_iconst (v := nI 2) hX dL_law_1455 rfl ?_
  refine zz_iadd (z := nI (5 * n + 2)) hX dL_law_1456 (nI_add _ _) ?_
  refine zz_sld hX h10b (5 * n + 2) rfl (by omega) (by omega) dL_law_1457 ?_
  refine zz_aload_n hX dL_law_1458 0 rfl rfl ?_
  refine zz_iload hX dL_law_1459 4 rfl ?_
  refine zz_iconst (v := nI 3) hX dL_law_1461 rfl ?_
  refine zz_iadd (z := nI (5 * n + 3)) hX dL_law_1462 (nI_add _ _) ?_
  refine zz_sld hX h10b (5 * n + 3) rfl (by omega) (by omega) dL_law_1463 ?_
  refine zz_callV hX zf_M_L_189 (As := [.int (G.2.1.2.2.2 (5 * n + 1)), .int (G.2.1.2.2.2 (5 * n + 2)), .int (G.2.1.2.2.2 (5 * n + 3))]) (st := []) (MP_degree S s9 i9 m9 hW hM9 (G.2.1.2.2.2 (5 * n + 1)) (G.2.1.2.2.2 (5 * n + 2)) (G.2.1.2.2.2 (5 * n + 3))  ) hM9.1 rfl rfl rfl (by decide) (by decide) (by omega) (by omega) dL_law_1464 ?_ (fun _ _ _ _ h _ => h.elim)
  rintro v7 s7 i7 m7 ⟨b, rfl, hm, hg⟩ -
  obtain ⟨j1, j2, T, hT⟩ := zl_join (P := fun _ => True) hI (fun hA hB hC => U_degree hW (G.2.1.2.2.2 (5 * n + 1)) (G.2.1.2.2.2 (5 * n + 2)) (G.2.1.2.2.2 (5 * n + 3))  hA hB hC) ⟨Or.inr (by decide), Or.inl trivial, Or.inl trivial⟩ trivial hw h89 hf hm hg
  have hM7 := hT.2.2.1.1
  have h87 := hT.2.2.2.1
  refine zz_istore (ls' := [(0, .ref 10), (1, .ref 2), (2, .ref 1), (3, .ref 8), (4, .int (nI (5 * n))), (5, .int k), (6, .int b)]) hX dL_law_1467 h6 rfl ?_
  refine zz_aload_n hX dL_law_1469 2 rfl rfl ?_
  refine zz_vI (x := i7 1 30) hX zf_M_L_124 (As := []) (st := []) (M_thrown s7 i7 m7 hM7) hM7 rfl rfl rfl (by decide) (by decide) (by omega) (by omega) dL_law_1470 ?_
  refine zz_iload hX dL_law_1473 5 rfl ?_
  refine zz_icmp_eq hX 1480 dL_law_1475 rfl (fun _ => ?_) (fun c => absurd j1 c)
  refine zz_iload hX dL_law_1480 5 rfl ?_
  have fin : ∀ c s, c ≤ cells + 60 → s ≤ slots + 1460 → zz Γ G Q c s s7 i7 m7 1497 [(0, .ref 10), (1, .ref 2), (2, .ref 1), (3, .ref 8), (4, .int (nI (5 * n))), (5, .int k), (6, .int b)] [] := fun c s hc hs => zz_goto hX 2329 dL_law_1497 rfl (zz_pick [0, 1, 2, 3, 4] rfl (hN T s7 i7 m7 c s hT hc hs))
  refine zz_if_ne hX 1497 dL_law_1482 rfl (fun _ => fin _ _ (by omega) (by omega)) (fun c0k => ?_)
  obtain ⟨j3, j4⟩ := j2 c0k
  refine zz_aload_n hX dL_law_1485 3 rfl rfl ?_
  refine zz_iconst (v := nI 0) hX dL_law_1486 rfl ?_
  refine zz_lald hX h87 0 rfl (by decide) (by decide) dL_law_1487 ?_
  refine zz_iload hX dL_law_1488 6 rfl ?_
  refine zz_i2l hX dL_law_1490 ?_
  refine zz_lcmp hX dL_law_1491 ?_
  exact zz_if_eq hX 1497 dL_law_1492 rfl (fun _ => fin _ _ (by omega) (by omega)) (fun c => absurd (by rw [j3]; exact lg_cmp_self _) c)
theorem L_mouth (hX : zz_X Γ G RL cL_law 12 mc ms) (hml : G.2.2.1 = 7) (S : zS) (sh : zm_Sh) (mi : zm_Mi) (mr : zm_Mr) (n : Nat) (hl : 5 * n + 5 ≤ G.2.1.2.2.1) (hL : G.2.1.2.2.1 ≤ 2560) (hI : zl_I S sh mi mr) (hc : cells + 60 ≤ mc) (hs : slots + 1460 ≤ ms) (hN : zl_N Γ G Q n cells slots) : zz Γ G Q cells slots sh mi mr 1500 (zl_ls n) [] := by
  obtain ⟨hW, hR, hM, h8, h10⟩ := id hI
  have h5 : 5 < G.2.2.1 := by rw [hml]; decide
  have h6 : 6 < G.2.2.1 := by rw [hml]; decide
  refine zz_aload_n hX dL_law_1500 1 rfl rfl ?_
  refine zz_aload_n hX dL_law_1501 0 rfl rfl ?_
  refine zz_iload hX dL_law_1502 4 rfl ?_
  refine zz_iconst (v := nI 1) hX dL_law_1504 rfl ?_
  refine zz_iadd (z := nI (5 * n + 1)) hX dL_law_1505 (nI_add _ _) ?_
  refine zz_sld hX h10 (5 * n + 1) rfl (by omega) (by omega) dL_law_1506 ?_
  refine zz_aload_n hX dL_law_1507 0 rfl rfl ?_
  refine zz_iload hX dL_law_1508 4 rfl ?_
  refine zz_iconst (v := nI 2) hX dL_law_1510 rfl ?_
  refine zz_iadd (z := nI (5 * n + 2)) hX dL_law_1511 (nI_add _ _) ?_
  refine zz_sld hX h10 (5 * n + 2) rfl (by omega) (by omega) dL_law_1512 ?_
  refine zz_aload_n hX dL_law_1513 3 rfl rfl ?_
  refine zz_callSH hX zf_M_L_190 (As := [.ref 2, .int (G.2.1.2.2.2 (5 * n + 1)), .int (G.2.1.2.2.2 (5 * n + 2)), .ref 8]) (st := []) (W_mouth S sh mi mr hW hR h8 (G.2.1.2.2.2 (5 * n + 1)) (G.2.1.2.2.2 (5 * n + 2)) ) rfl rfl (by decide) (by decide) (by omega) (by omega) dL_law_1514 ?_ (fun _ _ _ _ h _ => h.elim)
  rintro v9 s9 i9 m9 ⟨k, rfl, hw, h89, hf⟩ -
  have hM9 : zM S s9 i9 m9 := zM_same hM (fun l hl => hf l (by omega))
  have h10b : s9 10 = some (9, 0) := (hf 10 (Or.inr ⟨by decide, by decide⟩)).1.trans h10
  refine zz_istore (ls' := [(0, .ref 10), (1, .ref 2), (2, .ref 1), (3, .ref 8), (4, .int (nI (5 * n))), (5, .int k)]) hX dL_law_1517 h5 rfl ?_
  refine zz_aload_n hX dL_law_1519 2 rfl rfl ?_
  refine zz_aload_n hX dL_law_1520 0 rfl rfl ?_
  refine zz_iload hX dL_law_1521 4 rfl ?_
  refine zz_iconst (v := nI 1) hX dL_law_1523 rfl ?_
  refine zz_iadd (z := nI (5 * n + 1)) hX dL_law_1524 (nI_add _ _) ?_
  refine zz_sld hX h10b (5 * n + 1) rfl (by omega) (by omega) dL_law_1525 ?_
  refine zz_aload_n hX dL_law_1526 0 rfl rfl ?_
  refine zz_iload hX dL_law_1527 4 rfl ?_
  refine zz_iconst (v := nI 2) hX dL_law_1529 rfl ?_
  refine zz_iadd (z := nI (5 * n + 2)) hX dL_law_1530 (nI_add _ _) ?_
  refine zz_sld hX h10b (5 * n + 2) rfl (by omega) (by omega) dL_law_1531 ?_
  refine zz_callV hX zf_M_L_192 (As := [.int (G.2.1.2.2.2 (5 * n + 1)), .int (G.2.1.2.2.2 (5 * n + 2))]) (st := []) (MP_mouth S s9 i9 m9 hW hM9 (G.2.1.2.2.2 (5 * n + 1)) (G.2.1.2.2.2 (5 * n + 2))  ) hM9.1 rfl rfl rfl (by decide) (by decide) (by omega) (by omega) dL_law_1532 ?_ (fun _ _ _ _ h _ => h.elim)
  rintro v7 s7 i7 m7 ⟨b, rfl, hm, hg⟩ -
  obtain ⟨j1, j2, T, hT⟩ := zl_join (P := fun _ => True) hI (fun hA hB hC => U_mouth hW (G.2.1.2.2.2 (5 * n + 1)) (G.2.1.2.2.2 (5 * n + 2))  hA hB hC) ⟨Or.inr (by decide), Or.inl trivial, Or.inl trivial⟩ trivial hw h89 hf hm hg
  have hM7 := hT.2.2.1.1
  have h87 := hT.2.2.2.1
  refine zz_istore (ls' := [(0, .ref 10), (1, .ref 2), (2, .ref 1), (3, .ref 8), (4, .int (nI (5 * n))), (5, .int k), (6, .int b)]) hX dL_law_1535 h6 rfl ?_
  refine zz_aload_n hX dL_law_1537 2 rfl rfl ?_
  refine zz_vI (x := i7 1 30) hX zf_M_L_124 (As := []) (st := []) (M_thrown s7 i7 m7 hM7) hM7 rfl rfl rfl (by decide) (by decide) (by omega) (by omega) dL_law_1538 ?_
  refine zz_iload hX dL_law_1541 5 rfl ?_
  refine zz_icmp_eq hX 1548 dL_law_1543 rfl (fun _ => ?_) (fun c => absurd j1 c)
  refine zz_iload hX dL_law_1548 5 rfl ?_
  have fin : ∀ c s, c ≤ cells + 60 → s ≤ slots + 1460 → zz Γ G Q c s s7 i7 m7 1565 [(0, .ref 10), (1, .ref 2), (2, .ref 1), (3, .ref 8), (4, .int (nI (5 * n))), (5, .int k), (6, .int b)] [] := fun c s hc hs => zz_goto hX 2329 dL_law_1565 rfl (zz_pick [0, 1, 2, 3, 4] rfl (hN T s7 i7 m7 c s hT hc hs))
  refine zz_if_ne hX 1565 dL_law_1550 rfl (fun _ => fin _ _ (by omega) (by omega)) (fun c0k => ?_)
  obtain ⟨j3, j4⟩ := j2 c0k
  refine zz_aload_n hX dL_law_1553 3 rfl rfl ?_
  refine zz_iconst (v := nI 0) hX dL_law_1554 rfl ?_
  refine zz_lald hX h87 0 rfl (by decide) (by decide) dL_law_1555 ?_
  refine zz_iload hX dL_law_1556 6 rfl ?_
  refine zz_i2l hX dL_law_1558 ?_
  refine zz_lcmp hX dL_law_1559 ?_
  exact zz_if_eq hX 1565 dL_law_1560 rfl (fun _ => fin _ _ (by omega) (by omega)) (fun c => absurd (by rw [j3]; exact lg_cmp_self _) c)
theorem L_place (hX : zz_X Γ G RL cL_law 12 mc ms) (hml : G.2.2.1 = 7) (S : zS) (sh : zm_Sh) (mi : zm_Mi) (mr : zm_Mr) (n : Nat) (hl : 5 * n + 5 ≤ G.2.1.2.2.1) (hL : G.2.1.2.2.1 ≤ 2560) (hI : zl_I S sh mi mr) (hc : cells + 60 ≤ mc) (hs : slots + 1460 ≤ ms) (hN : zl_N Γ G Q n cells slots) : zz Γ G Q cells slots sh mi mr 1568 (zl_ls n) [] := by
  obtain ⟨hW, hR, hM, h8, h10⟩ := id hI
  have h5 : 5 < G.2.2.1 := by rw [hml]; decide
  have h6 : 6 < G.2.2.1 := by rw [hml]; decide
  refine zz_aload_n hX dL_law_1568 1 rfl rfl ?_
  refine zz_aload_n hX dL_law_1569 0 rfl rfl ?_
  refine zz_iload hX dL_law_1570 4 rfl ?_
  refine zz_iconst (v := nI 1) hX dL_law_1572 rfl ?_
  refine zz_iadd (z := nI (5 * n + 1)) hX dL_law_1573 (nI_add _ _) ?_
  refine zz_sld hX h10 (5 * n + 1) rfl (by omega) (by omega) dL_law_1574 ?_
  refine zz_aload_n hX dL_law_1575 0 rfl rfl ?_
  refine zz_iload hX dL_law_1576 4 rfl ?_
  refine zz_iconst (v := nI 2) hX dL_law_1578 rfl ?_
  refine zz_iadd (z := nI (5 * n + 2)) hX dL_law_1579 (nI_add _ _) ?_
  refine zz_sld hX h10 (5 * n + 2) rfl (by omega) (by omega) dL_law_1580 ?_
  refine zz_aload_n hX dL_law_1581 3 rfl rfl ?_
  refine zz_callSH hX zf_M_L_193 (As := [.ref 2, .int (G.2.1.2.2.2 (5 * n + 1)), .int (G.2.1.2.2.2 (5 * n + 2)), .ref 8]) (st := []) (W_place S sh mi mr hW hR h8 (G.2.1.2.2.2 (5 * n + 1)) (G.2.1.2.2.2 (5 * n + 2)) ) rfl rfl (by decide) (by decide) (by omega) (by omega) dL_law_1582 ?_ (fun _ _ _ _ h _ => h.elim)
  rintro v9 s9 i9 m9 ⟨k, rfl, hw, h89, hf⟩ -
  have hM9 : zM S s9 i9 m9 := zM_same hM (fun l hl => hf l (by omega))
  have h10b : s9 10 = some (9, 0) := (hf 10 (Or.inr ⟨by decide, by decide⟩)).1.trans h10
  refine zz_istore (ls' := [(0, .ref 10), (1, .ref 2), (2, .ref 1), (3, .ref 8), (4, .int (nI (5 * n))), (5, .int k)]) hX dL_law_1585 h5 rfl ?_
  refine zz_aload_n hX dL_law_1587 2 rfl rfl ?_
  refine zz_aload_n hX dL_law_1588 0 rfl rfl ?_
  refine zz_iload hX dL_law_1589 4 rfl ?_
  refine zz_iconst (v := nI 1) hX dL_law_1591 rfl ?_
  refine zz_iadd (z := nI (5 * n + 1)) hX dL_law_1592 (nI_add _ _) ?_
  refine zz_sld hX h10b (5 * n + 1) rfl (by omega) (by omega) dL_law_1593 ?_
  refine zz_aload_n hX dL_law_1594 0 rfl rfl ?_
  refine zz_iload hX dL_law_1595 4 rfl ?_
  refine zz_iconst (v := nI 2) hX dL_law_1597 rfl ?_
  refine zz_iadd (z := nI (5 * n + 2)) hX dL_law_1598 (nI_add _ _) ?_
  refine zz_sld hX h10b (5 * n + 2) rfl (by omega) (by omega) dL_law_1599 ?_
  refine zz_callV hX zf_M_L_195 (As := [.int (G.2.1.2.2.2 (5 * n + 1)), .int (G.2.1.2.2.2 (5 * n + 2))]) (st := []) (MP_place S s9 i9 m9 hW hM9 (G.2.1.2.2.2 (5 * n + 1)) (G.2.1.2.2.2 (5 * n + 2))  ) hM9.1 rfl rfl rfl (by decide) (by decide) (by omega) (by omega) dL_law_1600 ?_ (fun _ _ _ _ h _ => h.elim)
  rintro v7 s7 i7 m7 ⟨b, rfl, hm, hg⟩ -
  obtain ⟨j1, j2, T, hT⟩ := zl_join (P := fun _ => True) hI (fun hA hB hC => U_place hW (G.2.1.2.2.2 (5 * n + 1)) (G.2.1.2.2.2 (5 * n + 2))  hA hB hC) ⟨Or.inr (by decide), Or.inl trivial, Or.inl trivial⟩ trivial hw h89 hf hm hg
  have hM7 := hT.2.2.1.1
  have h87 := hT.2.2.2.1
  refine zz_istore (ls' := [(0, .ref 10), (1, .ref 2), (2, .ref 1), (3, .ref 8), (4, .int (nI (5 * n))), (5, .int k), (6, .int b)]) hX dL_law_1603 h6 rfl ?_
  refine zz_aload_n hX dL_law_1605 2 rfl rfl ?_
  refine zz_vI (x := i7 1 30) hX zf_M_L_124 (As := []) (st := []) (M_thrown s7 i7 m7 hM7) hM7 rfl rfl rfl (by decide) (by decide) (by omega) (by omega) dL_law_1606 ?_
  refine zz_iload hX dL_law_1609 5 rfl ?_
  refine zz_icmp_eq hX 1616 dL_law_1611 rfl (fun _ => ?_) (fun c => absurd j1 c)
  refine zz_iload hX dL_law_1616 5 rfl ?_
  have fin : ∀ c s, c ≤ cells + 60 → s ≤ slots + 1460 → zz Γ G Q c s s7 i7 m7 1633 [(0, .ref 10), (1, .ref 2), (2, .ref 1), (3, .ref 8), (4, .int (nI (5 * n))), (5, .int k), (6, .int b)] [] := fun c s hc hs => zz_goto hX 2329 dL_law_1633 rfl (zz_pick [0, 1, 2, 3, 4] rfl (hN T s7 i7 m7 c s hT hc hs))
  refine zz_if_ne hX 1633 dL_law_1618 rfl (fun _ => fin _ _ (by omega) (by omega)) (fun c0k => ?_)
  obtain ⟨j3, j4⟩ := j2 c0k
  refine zz_aload_n hX dL_law_1621 3 rfl rfl ?_
  refine zz_iconst (v := nI 0) hX dL_law_1622 rfl ?_
  refine zz_lald hX h87 0 rfl (by decide) (by decide) dL_law_1623 ?_
  refine zz_iload hX dL_law_1624 6 rfl ?_
  refine zz_i2l hX dL_law_1626 ?_
  refine zz_lcmp hX dL_law_1627 ?_
  exact zz_if_eq hX 1633 dL_law_1628 rfl (fun _ => fin _ _ (by omega) (by omega)) (fun c => absurd (by rw [j3]; exact lg_cmp_self _) c)
theorem L_wants (hX : zz_X Γ G RL cL_law 12 mc ms) (hml : G.2.2.1 = 7) (S : zS) (sh : zm_Sh) (mi : zm_Mi) (mr : zm_Mr) (n : Nat) (hl : 5 * n + 5 ≤ G.2.1.2.2.1) (hL : G.2.1.2.2.1 ≤ 2560) (hI : zl_I S sh mi mr) (hc : cells + 60 ≤ mc) (hs : slots + 1460 ≤ ms) (hN : zl_N Γ G Q n cells slots) : zz Γ G Q cells slots sh mi mr 1636 (zl_ls n) [] := by
  obtain ⟨hW, hR, hM, h8, h10⟩ := id hI
  have h5 : 5 < G.2.2.1 := by rw [hml]; decide
  have h6 : 6 < G.2.2.1 := by rw [hml]; decide
  refine zz_aload_n hX dL_law_1636 1 rfl rfl ?_
  refine zz_aload_n hX dL_law_1637 0 rfl rfl ?_
  refine zz_iload hX dL_law_1638 4 rfl ?_
  refine zz_iconst (v := nI 1) hX dL_law_1640 rfl ?_
  refine zz_iadd (z := nI (5 * n + 1)) hX dL_law_1641 (nI_add _ _) ?_
  refine zz_sld hX h10 (5 * n + 1) rfl (by omega) (by omega) dL_law_1642 ?_
  refine zz_aload_n hX dL_law_1643 0 rfl rfl ?_
  refine zz_iload hX dL_law_1644 4 rfl ?_
  refine zz_iconst (v := nI 2) hX dL_law_1646 rfl ?_
  refine zz_iadd (z := nI (5 * n + 2)) hX dL_law_1647 (nI_add _ _) ?_
  refine zz_sld hX h10 (5 * n + 2) rfl (by omega) (by omega) dL_law_1648 ?_
  refine zz_aload_n hX dL_law_1649 3 rfl rfl ?_
  refine zz_callSH hX zf_M_L_196 (As := [.ref 2, .int (G.2.1.2.2.2 (5 * n + 1)), .int (G.2.1.2.2.2 (5 * n + 2)), .ref 8]) (st := []) (W_wants S sh mi mr hW hR h8 (G.2.1.2.2.2 (5 * n + 1)) (G.2.1.2.2.2 (5 * n + 2)) ) rfl rfl (by decide) (by decide) (by omega) (by omega) dL_law_1650 ?_ (fun _ _ _ _ h _ => h.elim)
  rintro v9 s9 i9 m9 ⟨k, rfl, hw, h89, hf⟩ -
  have hM9 : zM S s9 i9 m9 := zM_same hM (fun l hl => hf l (by omega))
  have h10b : s9 10 = some (9, 0) := (hf 10 (Or.inr ⟨by decide, by decide⟩)).1.trans h10
  refine zz_istore (ls' := [(0, .ref 10), (1, .ref 2), (2, .ref 1), (3, .ref 8), (4, .int (nI (5 * n))), (5, .int k)]) hX dL_law_1653 h5 rfl ?_
  refine zz_aload_n hX dL_law_1655 2 rfl rfl ?_
  refine zz_aload_n hX dL_law_1656 0 rfl rfl ?_
  refine zz_iload hX dL_law_1657 4 rfl ?_
  refine zz_iconst (v := nI 1) hX dL_law_1659 rfl ?_
  refine zz_iadd (z := nI (5 * n + 1)) hX dL_law_1660 (nI_add _ _) ?_
  refine zz_sld hX h10b (5 * n + 1) rfl (by omega) (by omega) dL_law_1661 ?_
  refine zz_aload_n hX dL_law_1662 0 rfl rfl ?_
  refine zz_iload hX dL_law_1663 4 rfl ?_
  refine zz_iconst (v := nI 2) hX dL_law_1665 rfl ?_
  refine zz_iadd (z := nI (5 * n + 2)) hX dL_law_1666 (nI_add _ _) ?_
  refine zz_sld hX h10b (5 * n + 2) rfl (by omega) (by omega) dL_law_1667 ?_
  refine zz_callV hX zf_M_L_198 (As := [.int (G.2.1.2.2.2 (5 * n + 1)), .int (G.2.1.2.2.2 (5 * n + 2))]) (st := []) (MP_wants S s9 i9 m9 hW hM9 (G.2.1.2.2.2 (5 * n + 1)) (G.2.1.2.2.2 (5 * n + 2))  ) hM9.1 rfl rfl rfl (by decide) (by decide) (by omega) (by omega) dL_law_1668 ?_ (fun _ _ _ _ h _ => h.elim)
  rintro v7 s7 i7 m7 ⟨b, rfl, hm, hg⟩ -
  obtain ⟨j1, j2, T, hT⟩ := zl_join (P := fun _ => True) hI (fun hA hB hC => U_wants hW (G.2.1.2.2.2 (5 * n + 1)) (G.2.1.2.2.2 (5 * n + 2))  hA hB hC) ⟨Or.inr (by decide), Or.inr (by decide), Or.inl trivial⟩ trivial hw h89 hf hm hg
  have hM7 := hT.2.2.1.1
  have h87 := hT.2.2.2.1
  refine zz_istore (ls' := [(0, .ref 10), (1, .ref 2), (2, .ref 1), (3, .ref 8), (4, .int (nI (5 * n))), (5, .int k), (6, .int b)]) hX dL_law_1671 h6 rfl ?_
  refine zz_aload_n hX dL_law_1673 2 rfl rfl ?_
  refine zz_vI (x := i7 1 30) hX zf_M_L_124 (As := []) (st := []) (M_thrown s7 i7 m7 hM7) hM7 rfl rfl rfl (by decide) (by decide) (by omega) (by omega) dL_law_1674 ?_
  refine zz_iload hX dL_law_1677 5 rfl ?_
  refine zz_icmp_eq hX 1684 dL_law_1679 rfl (fun _ => ?_) (fun c => absurd j1 c)
  refine zz_iload hX dL_law_1684 5 rfl ?_
  have fin : ∀ c s, c ≤ cells + 60 → s ≤ slots + 1460 → zz Γ G Q c s s7 i7 m7 1701 [(0, .ref 10), (1, .ref 2), (2, .ref 1), (3, .ref 8), (4, .int (nI (5 * n))), (5, .int k), (6, .int b)] [] := fun c s hc hs => zz_goto hX 2329 dL_law_1701 rfl (zz_pick [0, 1, 2, 3, 4] rfl (hN T s7 i7 m7 c s hT hc hs))
  refine zz_if_ne hX 1701 dL_law_1686 rfl (fun _ => fin _ _ (by omega) (by omega)) (fun c0k => ?_)
  obtain ⟨j3, j4⟩ := j2 c0k
  refine zz_aload_n hX dL_law_1689 3 rfl rfl ?_
  refine zz_iconst (v := nI 0) hX dL_law_1690 rfl ?_
  refine zz_lald hX h87 0 rfl (by decide) (by decide) dL_law_1691 ?_
  refine zz_iload hX dL_law_1692 6 rfl ?_
  refine zz_i2l hX dL_law_1694 ?_
  refine zz_lcmp hX dL_law_1695 ?_
  exact zz_if_eq hX 1701 dL_law_1696 rfl (fun _ => fin _ _ (by omega) (by omega)) (fun c => absurd (by rw [j3]; exact lg_cmp_self _) c)
theorem L_bars (hX : zz_X Γ G RL cL_law 12 mc ms) (hml : G.2.2.1 = 7) (S : zS) (sh : zm_Sh) (mi : zm_Mi) (mr : zm_Mr) (n : Nat) (hl : 5 * n + 5 ≤ G.2.1.2.2.1) (hL : G.2.1.2.2.1 ≤ 2560) (hI : zl_I S sh mi mr) (hc : cells + 60 ≤ mc) (hs : slots + 1460 ≤ ms) (hN : zl_N Γ G Q n cells slots) : zz Γ G Q cells slots sh mi mr 1704 (zl_ls n) [] := by
  obtain ⟨hW, hR, hM, h8, h10⟩ := id hI
  have h5 : 5 < G.2.2.1 := by rw [hml]; decide
  have h6 : 6 < G.2.2.1 := by rw [hml]; decide
  refine zz_aload_n hX dL_law_1704 1 rfl rfl ?_
  refine zz_aload_n hX dL_law_1705 0 rfl rfl ?_
  refine zz_iload hX dL_law_1706 4 rfl ?_
  refine zz_iconst (v := nI 1) hX dL_law_1708 rfl ?_
  refine zz_iadd (z := nI (5 * n + 1)) hX dL_law_1709 (nI_add _ _) ?_
  refine zz_sld hX h10 (5 * n + 1) rfl (by omega) (by omega) dL_law_1710 ?_
  refine zz_aload_n hX dL_law_1711 3 rfl rfl ?_
  refine zz_callSH hX zf_M_L_199 (As := [.ref 2, .int (G.2.1.2.2.2 (5 * n + 1)), .ref 8]) (st := []) (W_bars S sh mi mr hW hR h8 (G.2.1.2.2.2 (5 * n + 1)) ) rfl rfl (by decide) (by decide) (by omega) (by omega) dL_law_1712 ?_ (fun _ _ _ _ h _ => h.elim)
  rintro v9 s9 i9 m9 ⟨k, rfl, hw, h89, hf⟩ -
  have hM9 : zM S s9 i9 m9 := zM_same hM (fun l hl => hf l (by omega))
  have h10b : s9 10 = some (9, 0) := (hf 10 (Or.inr ⟨by decide, by decide⟩)).1.trans h10
  refine zz_istore (ls' := [(0, .ref 10), (1, .ref 2), (2, .ref 1), (3, .ref 8), (4, .int (nI (5 * n))), (5, .int k)]) hX dL_law_1715 h5 rfl ?_
  refine zz_aload_n hX dL_law_1717 2 rfl rfl ?_
  refine zz_aload_n hX dL_law_1718 0 rfl rfl ?_
  refine zz_iload hX dL_law_1719 4 rfl ?_
  refine zz_iconst (v := nI 1) hX dL_law_1721 rfl ?_
  refine zz_iadd (z := nI (5 * n + 1)) hX dL_law_1722 (nI_add _ _) ?_
  refine zz_sld hX h10b (5 * n + 1) rfl (by omega) (by omega) dL_law_1723 ?_
  refine zz_callV hX zf_M_L_201 (As := [.int (G.2.1.2.2.2 (5 * n + 1))]) (st := []) (MP_bars S s9 i9 m9 hW hM9 (G.2.1.2.2.2 (5 * n + 1))  ) hM9.1 rfl rfl rfl (by decide) (by decide) (by omega) (by omega) dL_law_1724 ?_ (fun _ _ _ _ h _ => h.elim)
  rintro v7 s7 i7 m7 ⟨b, rfl, hm, hg⟩ -
  obtain ⟨j1, j2, T, hT⟩ := zl_join (P := fun _ => True) hI (fun hA hB hC => U_bars hW (G.2.1.2.2.2 (5 * n + 1))  hA hB hC) ⟨Or.inr (by decide), Or.inl trivial, Or.inl trivial⟩ trivial hw h89 hf hm hg
  have hM7 := hT.2.2.1.1
  have h87 := hT.2.2.2.1
  refine zz_istore (ls' := [(0, .ref 10), (1, .ref 2), (2, .ref 1), (3, .ref 8), (4, .int (nI (5 * n))), (5, .int k), (6, .int b)]) hX dL_law_1727 h6 rfl ?_
  refine zz_aload_n hX dL_law_1729 2 rfl rfl ?_
  refine zz_vI (x := i7 1 30) hX zf_M_L_124 (As := []) (st := []) (M_thrown s7 i7 m7 hM7) hM7 rfl rfl rfl (by decide) (by decide) (by omega) (by omega) dL_law_1730 ?_
  refine zz_iload hX dL_law_1733 5 rfl ?_
  refine zz_icmp_eq hX 1740 dL_law_1735 rfl (fun _ => ?_) (fun c => absurd j1 c)
  refine zz_iload hX dL_law_1740 5 rfl ?_
  have fin : ∀ c s, c ≤ cells + 60 → s ≤ slots + 1460 → zz Γ G Q c s s7 i7 m7 1757 [(0, .ref 10), (1, .ref 2), (2, .ref 1), (3, .ref 8), (4, .int (nI (5 * n))), (5, .int k), (6, .int b)] [] := fun c s hc hs => zz_goto hX 2329 dL_law_1757 rfl (zz_pick [0, 1, 2, 3, 4] rfl (hN T s7 i7 m7 c s hT hc hs))
  refine zz_if_ne hX 1757 dL_law_1742 rfl (fun _ => fin _ _ (by omega) (by omega)) (fun c0k => ?_)
  obtain ⟨j3, j4⟩ := j2 c0k
  refine zz_aload_n hX dL_law_1745 3 rfl rfl ?_
  refine zz_iconst (v := nI 0) hX dL_law_1746 rfl ?_
  refine zz_lald hX h87 0 rfl (by decide) (by decide) dL_law_1747 ?_
  refine zz_iload hX dL_law_1748 6 rfl ?_
  refine zz_i2l hX dL_law_1750 ?_
  refine zz_lcmp hX dL_law_1751 ?_
  exact zz_if_eq hX 1757 dL_law_1752 rfl (fun _ => fin _ _ (by omega) (by omega)) (fun c => absurd (by rw [j3]; exact lg_cmp_self _) c)
theorem L_wears (hX : zz_X Γ G RL cL_law 12 mc ms) (hml : G.2.2.1 = 7) (S : zS) (sh : zm_Sh) (mi : zm_Mi) (mr : zm_Mr) (n : Nat) (hl : 5 * n + 5 ≤ G.2.1.2.2.1) (hL : G.2.1.2.2.1 ≤ 2560) (hI : zl_I S sh mi mr) (hc : cells + 60 ≤ mc) (hs : slots + 1460 ≤ ms) (hN : zl_N Γ G Q n cells slots) : zz Γ G Q cells slots sh mi mr 1760 (zl_ls n) [] := by
  obtain ⟨hW, hR, hM, h8, h10⟩ := id hI
  have h5 : 5 < G.2.2.1 := by rw [hml]; decide
  have h6 : 6 < G.2.2.1 := by rw [hml]; decide
  refine zz_aload_n hX dL_law_1760 1 rfl rfl ?_
  refine zz_aload_n hX dL_law_1761 0 rfl rfl ?_
  refine zz_iload hX dL_law_1762 4 rfl ?_
  refine zz_iconst (v := nI 1) hX dL_law_1764 rfl ?_
  refine zz_iadd (z := nI (5 * n + 1)) hX dL_law_1765 (nI_add _ _) ?_
  refine zz_sld hX h10 (5 * n + 1) rfl (by omega) (by omega) dL_law_1766 ?_
  refine zz_aload_n hX dL_law_1767 0 rfl rfl ?_
  refine zz_iload hX dL_law_1768 4 rfl ?_
  refine zz_iconst (v := nI 2) hX dL_law_1770 rfl ?_
  refine zz_iadd (z := nI (5 * n + 2)) hX dL_law_1771 (nI_add _ _) ?_
  refine zz_sld hX h10 (5 * n + 2) rfl (by omega) (by omega) dL_law_1772 ?_
  refine zz_aload_n hX dL_law_1773 3 rfl rfl ?_
  refine zz_callSH hX zf_M_L_202 (As := [.ref 2, .int (G.2.1.2.2.2 (5 * n + 1)), .int (G.2.1.2.2.2 (5 * n + 2)), .ref 8]) (st := []) (W_wears S sh mi mr hW hR h8 (G.2.1.2.2.2 (5 * n + 1)) (G.2.1.2.2.2 (5 * n + 2)) ) rfl rfl (by decide) (by decide) (by omega) (by omega) dL_law_1774 ?_ (fun _ _ _ _ h _ => h.elim)
  rintro v9 s9 i9 m9 ⟨k, rfl, hw, h89, hf⟩ -
  have hM9 : zM S s9 i9 m9 := zM_same hM (fun l hl => hf l (by omega))
  have h10b : s9 10 = some (9, 0) := (hf 10 (Or.inr ⟨by decide, by decide⟩)).1.trans h10
  refine zz_istore (ls' := [(0, .ref 10), (1, .ref 2), (2, .ref 1), (3, .ref 8), (4, .int (nI (5 * n))), (5, .int k)]) hX dL_law_1777 h5 rfl ?_
  refine zz_aload_n hX dL_law_1779 2 rfl rfl ?_
  refine zz_aload_n hX dL_law_1780 0 rfl rfl ?_
  refine zz_iload hX dL_law_1781 4 rfl ?_
  refine zz_iconst (v := nI 1) hX dL_law_1783 rfl ?_
  refine zz_iadd (z := nI (5 * n + 1)) hX dL_law_1784 (nI_add _ _) ?_
  refine zz_sld hX h10b (5 * n + 1) rfl (by omega) (by omega) dL_law_1785 ?_
  refine zz_aload_n hX dL_law_1786 0 rfl rfl ?_
  refine zz_iload hX dL_law_1787 4 rfl ?_
  refine zz_iconst (v := nI 2) hX dL_law_1789 rfl ?_
  refine zz_iadd (z := nI (5 * n + 2)) hX dL_law_1790 (nI_add _ _) ?_
  refine zz_sld hX h10b (5 * n + 2) rfl (by omega) (by omega) dL_law_1791 ?_
  refine zz_callV hX zf_M_L_204 (As := [.int (G.2.1.2.2.2 (5 * n + 1)), .int (G.2.1.2.2.2 (5 * n + 2))]) (st := []) (MP_wears S s9 i9 m9 hW hM9 (G.2.1.2.2.2 (5 * n + 1)) (G.2.1.2.2.2 (5 * n + 2))  ) hM9.1 rfl rfl rfl (by decide) (by decide) (by omega) (by omega) dL_law_1792 ?_ (fun _ _ _ _ h _ => h.elim)
  rintro v7 s7 i7 m7 ⟨b, rfl, hm, hg⟩ -
  obtain ⟨j1, j2, T, hT⟩ := zl_join (P := fun _ => True) hI (fun hA hB hC => U_wears hW (G.2.1.2.2.2 (5 * n + 1)) (G.2.1.2.2.2 (5 * n + 2))  hA hB hC) ⟨Or.inr (by decide), Or.inl trivial, Or.inl trivial⟩ trivial hw h89 hf hm hg
  have hM7 := hT.2.2.1.1
  have h87 := hT.2.2.2.1
  refine zz_istore (ls' := [(0, .ref 10), (1, .ref 2), (2, .ref 1), (3, .ref 8), (4, .int (nI (5 * n))), (5, .int k), (6, .int b)]) hX dL_law_1795 h6 rfl ?_
  refine zz_aload_n hX dL_law_1797 2 rfl rfl ?_
  refine zz_vI (x := i7 1 30) hX zf_M_L_124 (As := []) (st := []) (M_thrown s7 i7 m7 hM7) hM7 rfl rfl rfl (by decide) (by decide) (by omega) (by omega) dL_law_1798 ?_
  refine zz_iload hX dL_law_1801 5 rfl ?_
  refine zz_icmp_eq hX 1808 dL_law_1803 rfl (fun _ => ?_) (fun c => absurd j1 c)
  refine zz_iload hX dL_law_1808 5 rfl ?_
  have fin : ∀ c s, c ≤ cells + 60 → s ≤ slots + 1460 → zz Γ G Q c s s7 i7 m7 1825 [(0, .ref 10), (1, .ref 2), (2, .ref 1), (3, .ref 8), (4, .int (nI (5 * n))), (5, .int k), (6, .int b)] [] := fun c s hc hs => zz_goto hX 2329 dL_law_1825 rfl (zz_pick [0, 1, 2, 3, 4] rfl (hN T s7 i7 m7 c s hT hc hs))
  refine zz_if_ne hX 1825 dL_law_1810 rfl (fun _ => fin _ _ (by omega) (by omega)) (fun c0k => ?_)
  obtain ⟨j3, j4⟩ := j2 c0k
  refine zz_aload_n hX dL_law_1813 3 rfl rfl ?_
  refine zz_iconst (v := nI 0) hX dL_law_1814 rfl ?_
  refine zz_lald hX h87 0 rfl (by decide) (by decide) dL_law_1815 ?_
  refine zz_iload hX dL_law_1816 6 rfl ?_
  refine zz_i2l hX dL_law_1818 ?_
  refine zz_lcmp hX dL_law_1819 ?_
  exact zz_if_eq hX 1825 dL_law_1820 rfl (fun _ => fin _ _ (by omega) (by omega)) (fun c => absurd (by rw [j3]; exact lg_cmp_self _) c)
theorem L_struck (hX : zz_X Γ G RL cL_law 12 mc ms) (hml : G.2.2.1 = 7) (S : zS) (sh : zm_Sh) (mi : zm_Mi) (mr : zm_Mr) (n : Nat) (hl : 5 * n + 5 ≤ G.2.1.2.2.1) (hL : G.2.1.2.2.1 ≤ 2560) (hI : zl_I S sh mi mr) (hc : cells + 60 ≤ mc) (hs : slots + 1460 ≤ ms) (hN : zl_N Γ G Q n cells slots) : zz Γ G Q cells slots sh mi mr 1828 (zl_ls n) [] := by
  obtain ⟨hW, hR, hM, h8, h10⟩ := id hI
  have h5 : 5 < G.2.2.1 := by rw [hml]; decide
  have h6 : 6 < G.2.2.1 := by rw [hml]; decide
  refine zz_aload_n hX dL_law_1828 1 rfl rfl ?_
  refine zz_aload_n hX dL_law_1829 0 rfl rfl ?_
  refine zz_iload hX dL_law_1830 4 rfl ?_
  refine zz_iconst (v := nI 1) hX dL_law_1832 rfl ?_
  refine zz_iadd (z := nI (5 * n + 1)) hX dL_law_1833 (nI_add _ _) ?_
  refine zz_sld hX h10 (5 * n + 1) rfl (by omega) (by omega) dL_law_1834 ?_
  refine zz_aload_n hX dL_law_1835 3 rfl rfl ?_
  refine zz_callSH hX zf_M_L_205 (As := [.ref 2, .int (G.2.1.2.2.2 (5 * n + 1)), .ref 8]) (st := []) (W_struck S sh mi mr hW hR h8 (G.2.1.2.2.2 (5 * n + 1)) ) rfl rfl (by decide) (by decide) (by omega) (by omega) dL_law_1836 ?_ (fun _ _ _ _ h _ => h.elim)
  rintro v9 s9 i9 m9 ⟨k, rfl, hw, h89, hf⟩ -
  have hM9 : zM S s9 i9 m9 := zM_same hM (fun l hl => hf l (by omega))
  have h10b : s9 10 = some (9, 0) := (hf 10 (Or.inr ⟨by decide, by decide⟩)).1.trans h10
  refine zz_istore (ls' := [(0, .ref 10), (1, .ref 2), (2, .ref 1), (3, .ref 8), (4, .int (nI (5 * n))), (5, .int k)]) hX dL_law_1839 h5 rfl ?_
  refine zz_aload_n hX dL_law_1841 2 rfl rfl ?_
  refine zz_aload_n hX dL_law_1842 0 rfl rfl ?_
  refine zz_iload hX dL_law_1843 4 rfl ?_
  refine zz_iconst (v := nI 1) hX dL_law_1845 rfl ?_
  refine zz_iadd (z := nI (5 * n + 1)) hX dL_law_1846 (nI_add _ _) ?_
  refine zz_sld hX h10b (5 * n + 1) rfl (by omega) (by omega) dL_law_1847 ?_
  refine zz_callV hX zf_M_L_207 (As := [.int (G.2.1.2.2.2 (5 * n + 1))]) (st := []) (MP_struck S s9 i9 m9 hW hM9 (G.2.1.2.2.2 (5 * n + 1))  ) hM9.1 rfl rfl rfl (by decide) (by decide) (by omega) (by omega) dL_law_1848 ?_ (fun _ _ _ _ h _ => h.elim)
  rintro v7 s7 i7 m7 ⟨b, rfl, hm, hg⟩ -
  obtain ⟨j1, j2, T, hT⟩ := zl_join (P := fun _ => True) hI (fun hA hB hC => U_struck hW (G.2.1.2.2.2 (5 * n + 1))  hA hB hC) ⟨Or.inr (by decide), Or.inl trivial, Or.inl trivial⟩ trivial hw h89 hf hm hg
  have hM7 := hT.2.2.1.1
  have h87 := hT.2.2.2.1
  refine zz_istore (ls' := [(0, .ref 10), (1, .ref 2), (2, .ref 1), (3, .ref 8), (4, .int (nI (5 * n))), (5, .int k), (6, .int b)]) hX dL_law_1851 h6 rfl ?_
  refine zz_aload_n hX dL_law_1853 2 rfl rfl ?_
  refine zz_vI (x := i7 1 30) hX zf_M_L_124 (As := []) (st := []) (M_thrown s7 i7 m7 hM7) hM7 rfl rfl rfl (by decide) (by decide) (by omega) (by omega) dL_law_1854 ?_
  refine zz_iload hX dL_law_1857 5 rfl ?_
  refine zz_icmp_eq hX 1864 dL_law_1859 rfl (fun _ => ?_) (fun c => absurd j1 c)
  refine zz_iload hX dL_law_1864 5 rfl ?_
  have fin : ∀ c s, c ≤ cells + 60 → s ≤ slots + 1460 → zz Γ G Q c s s7 i7 m7 1881 [(0, .ref 10), (1, .ref 2), (2, .ref 1), (3, .ref 8), (4, .int (nI (5 * n))), (5, .int k), (6, .int b)] [] := fun c s hc hs => zz_goto hX 2329 dL_law_1881 rfl (zz_pick [0, 1, 2, 3, 4] rfl (hN T s7 i7 m7 c s hT hc hs))
  refine zz_if_ne hX 1881 dL_law_1866 rfl (fun _ => fin _ _ (by omega) (by omega)) (fun c0k => ?_)
  obtain ⟨j3, j4⟩ := j2 c0k
  refine zz_aload_n hX dL_law_1869 3 rfl rfl ?_
  refine zz_iconst (v := nI 0) hX dL_law_1870 rfl ?_
  refine zz_lald hX h87 0 rfl (by decide) (by decide) dL_law_1871 ?_
  refine zz_iload hX dL_law_1872 6 rfl ?_
  refine zz_i2l hX dL_law_1874 ?_
  refine zz_lcmp hX dL_law_1875 ?_
  exact zz_if_eq hX 1881 dL_law_1876 rfl (fun _ => fin _ _ (by omega) (by omega)) (fun c => absurd (by rw [j3]; exact lg_cmp_self _) c)
theorem L_pose (hX : zz_X Γ G RL cL_law 12 mc ms) (hml : G.2.2.1 = 7) (S : zS) (sh : zm_Sh) (mi : zm_Mi) (mr : zm_Mr) (n : Nat) (hl : 5 * n + 5 ≤ G.2.1.2.2.1) (hL : G.2.1.2.2.1 ≤ 2560) (hI : zl_I S sh mi mr) (hc : cells + 60 ≤ mc) (hs : slots + 1460 ≤ ms) (hN : zl_N Γ G Q n cells slots) : zz Γ G Q cells slots sh mi mr 1884 (zl_ls n) [] := by
  obtain ⟨hW, hR, hM, h8, h10⟩ := id hI
  have h5 : 5 < G.2.2.1 := by rw [hml]; decide
  have h6 : 6 < G.2.2.1 := by rw [hml]; decide
  refine zz_aload_n hX dL_law_1884 1 rfl rfl ?_
  refine zz_aload_n hX dL_law_1885 0 rfl rfl ?_
  refine zz_iload hX dL_law_1886 4 rfl ?_
  refine zz_iconst (v := nI 1) hX dL_law_1888 rfl ?_
  refine zz_iadd (z := nI (5 * n + 1)) hX dL_law_1889 (nI_add _ _) ?_
  refine zz_sld hX h10 (5 * n + 1) rfl (by omega) (by omega) dL_law_1890 ?_
  refine zz_aload_n hX dL_law_1891 0 rfl rfl ?_
  refine zz_iload hX dL_law_1892 4 rfl ?_
  refine zz_iconst (v := nI 2) hX dL_law_1894 rfl ?_
  refine zz_iadd (z := nI (5 * n + 2)) hX dL_law_1895 (nI_add _ _) ?_
  refine zz_sld hX h10 (5 * n + 2) rfl (by omega) (by omega) dL_law_1896 ?_
  refine zz_aload_n hX dL_law_1897 0 rfl rfl ?_
  refine zz_iload hX dL_law_1898 4 rfl ?_
  refine zz_iconst (v := nI 3) hX dL_law_1900 rfl ?_
  refine zz_iadd (z := nI (5 * n + 3)) hX dL_law_1901 (nI_add _ _) ?_
  refine zz_sld hX h10 (5 * n + 3) rfl (by omega) (by omega) dL_law_1902 ?_
  refine zz_aload_n hX dL_law_1903 3 rfl rfl ?_
  refine zz_callSH hX zf_M_L_208 (As := [.ref 2, .int (G.2.1.2.2.2 (5 * n + 1)), .int (G.2.1.2.2.2 (5 * n + 2)), .int (G.2.1.2.2.2 (5 * n + 3)), .ref 8]) (st := []) (W_pose S sh mi mr hW hR h8 (G.2.1.2.2.2 (5 * n + 1)) (G.2.1.2.2.2 (5 * n + 2)) (G.2.1.2.2.2 (5 * n + 3)) ) rfl rfl (by decide) (by decide) (by omega) (by omega) dL_law_1904 ?_ (fun _ _ _ _ h _ => h.elim)
  rintro v9 s9 i9 m9 ⟨k, rfl, hw, h89, hf⟩ -
  have hM9 : zM S s9 i9 m9 := zM_same hM (fun l hl => hf l (by omega))
  have h10b : s9 10 = some (9, 0) := (hf 10 (Or.inr ⟨by decide, by decide⟩)).1.trans h10
  refine zz_istore (ls' := [(0, .ref 10), (1, .ref 2), (2, .ref 1), (3, .ref 8), (4, .int (nI (5 * n))), (5, .int k)]) hX dL_law_1907 h5 rfl ?_
  refine zz_aload_n hX dL_law_1909 2 rfl rfl ?_
  refine zz_aload_n hX dL_law_1910 0 rfl rfl ?_
  refine zz_iload hX dL_law_1911 4 rfl ?_
  refine zz_iconst (v := nI 1) hX dL_law_1913 rfl ?_
  refine zz_iadd (z := nI (5 * n + 1)) hX dL_law_1914 (nI_add _ _) ?_
  refine zz_sld hX h10b (5 * n + 1) rfl (by omega) (by omega) dL_law_1915 ?_
  refine zz_aload_n hX dL_law_1916 0 rfl rfl ?_
  refine zz_iload hX dL_law_1917 4 rfl ?_
  refine zz_iconst (v := nI 2) hX dL_law_1919 rfl ?_
  refine zz_iadd (z := nI (5 * n + 2)) hX dL_law_1920 (nI_add _ _) ?_
  refine zz_sld hX h10b (5 * n + 2) rfl (by omega) (by omega) dL_law_1921 ?_
  refine zz_aload_n hX dL_law_1922 0 rfl rfl ?_
  refine zz_iload hX dL_law_1923 4 rfl ?_
  refine zz_iconst (v := nI 3) hX dL_law_1925 rfl ?_
  refine zz_iadd (z := nI (5 * n + 3)) hX dL_law_1926 (nI_add _ _) ?_
  refine zz_sld hX h10b (5 * n + 3) rfl (by omega) (by omega) dL_law_1927 ?_
  refine zz_callV hX zf_M_L_210 (As := [.int (G.2.1.2.2.2 (5 * n + 1)), .int (G.2.1.2.2.2 (5 * n + 2)), .int (G.2.1.2.2.2 (5 * n + 3))]) (st := []) (MP_pose S s9 i9 m9 hW hM9 (G.2.1.2.2.2 (5 * n + 1)) (G.2.1.2.2.2 (5 * n + 2)) (G.2.1.2.2.2 (5 * n + 3))  ) hM9.1 rfl rfl rfl (by decide) (by decide) (by omega) (by omega) dL_law_1928 ?_ (fun _ _ _ _ h _ => h.elim)
  rintro v7 s7 i7 m7 ⟨b, rfl, hm, hg⟩ -
  obtain ⟨j1, j2, T, hT⟩ := zl_join (P := fun _ => True) hI (fun hA hB hC => U_pose hW (G.2.1.2.2.2 (5 * n + 1)) (G.2.1.2.2.2 (5 * n + 2)) (G.2.1.2.2.2 (5 * n + 3))  hA hB hC) ⟨Or.inr (by decide), Or.inl trivial, Or.inl trivial⟩ trivial hw h89 hf hm hg
  have hM7 := hT.2.2.1.1
  have h87 := hT.2.2.2.1
  refine zz_istore (ls' := [(0, .ref 10), (1, .ref 2), (2, .ref 1), (3, .ref 8), (4, .int (nI (5 * n))), (5, .int k), (6, .int b)]) hX dL_law_1931 h6 rfl ?_
  refine zz_aload_n hX dL_law_1933 2 rfl rfl ?_
  refine zz_vI (x := i7 1 30) hX zf_M_L_124 (As := []) (st := []) (M_thrown s7 i7 m7 hM7) hM7 rfl rfl rfl (by decide) (by decide) (by omega) (by omega) dL_law_1934 ?_
  refine zz_iload hX dL_law_1937 5 rfl ?_
  refine zz_icmp_eq hX 1944 dL_law_1939 rfl (fun _ => ?_) (fun c => absurd j1 c)
  refine zz_iload hX dL_law_1944 5 rfl ?_
  have fin : ∀ c s, c ≤ cells + 60 → s ≤ slots + 1460 → zz Γ G Q c s s7 i7 m7 1961 [(0, .ref 10), (1, .ref 2), (2, .ref 1), (3, .ref 8), (4, .int (nI (5 * n))), (5, .int k), (6, .int b)] [] := fun c s hc hs => zz_goto hX 2329 dL_law_1961 rfl (zz_pick [0, 1, 2, 3, 4] rfl (hN T s7 i7 m7 c s hT hc hs))
  refine zz_if_ne hX 1961 dL_law_1946 rfl (fun _ => fin _ _ (by omega) (by omega)) (fun c0k => ?_)
  obtain ⟨j3, j4⟩ := j2 c0k
  refine zz_aload_n hX dL_law_1949 3 rfl rfl ?_
  refine zz_iconst (v := nI 0) hX dL_law_1950 rfl ?_
  refine zz_lald hX h87 0 rfl (by decide) (by decide) dL_law_1951 ?_
  refine zz_iload hX dL_law_1952 6 rfl ?_
  refine zz_i2l hX dL_law_1954 ?_
  refine zz_lcmp hX dL_law_1955 ?_
  exact zz_if_eq hX 1961 dL_law_1956 rfl (fun _ => fin _ _ (by omega) (by omega)) (fun c => absurd (by rw [j3]; exact lg_cmp_self _) c)
theorem L_ofFrame (hX : zz_X Γ G RL cL_law 12 mc ms) (hml : G.2.2.1 = 7) (S : zS) (sh : zm_Sh) (mi : zm_Mi) (mr : zm_Mr) (n : Nat) (hl : 5 * n + 5 ≤ G.2.1.2.2.1) (hL : G.2.1.2.2.1 ≤ 2560) (hI : zl_I S sh mi mr) (hc : cells + 60 ≤ mc) (hs : slots + 1460 ≤ ms) (hN : zl_N Γ G Q n cells slots) : zz Γ G Q cells slots sh mi mr 1964 (zl_ls n) [] := by
  obtain ⟨hW, hR, hM, h8, h10⟩ := id hI
  have h5 : 5 < G.2.2.1 := by rw [hml]; decide
  have h6 : 6 < G.2.2.1 := by rw [hml]; decide
  refine zz_aload_n hX dL_law_1964 1 rfl rfl ?_
  refine zz_aload_n hX dL_law_1965 0 rfl rfl ?_
  refine zz_iload hX dL_law_1966 4 rfl ?_
  refine zz_iconst (v := nI 1) hX dL_law_1968 rfl ?_
  refine zz_iadd (z := nI (5 * n + 1)) hX dL_law_1969 (nI_add _ _) ?_
  refine zz_sld hX h10 (5 * n + 1) rfl (by omega) (by omega) dL_law_1970 ?_
  refine zz_aload_n hX dL_law_1971 0 rfl rfl ?_
  refine zz_iload hX dL_law_1972 4 rfl ?_
  refine zz_iconst (v := nI 2) hX dL_law_1974 rfl ?_
  refine zz_iadd (z := nI (5 * n + 2)) hX dL_law_1975 (nI_add _ _) ?_
  refine zz_sld hX h10 (5 * n + 2) rfl (by omega) (by omega) dL_law_1976 ?_
  refine zz_aload_n hX dL_law_1977 0 rfl rfl ?_
  refine zz_iload hX dL_law_1978 4 rfl ?_
  refine zz_iconst (v := nI 3) hX dL_law_1980 rfl ?_
  refine zz_iadd (z := nI (5 * n + 3)) hX dL_law_1981 (nI_add _ _) ?_
  refine zz_sld hX h10 (5 * n + 3) rfl (by omega) (by omega) dL_law_1982 ?_
  refine zz_aload_n hX dL_law_1983 3 rfl rfl ?_
  refine zz_callSH hX zf_M_L_211 (As := [.ref 2, .int (G.2.1.2.2.2 (5 * n + 1)), .int (G.2.1.2.2.2 (5 * n + 2)), .int (G.2.1.2.2.2 (5 * n + 3)), .ref 8]) (st := []) (W_ofFrame S sh mi mr hW hR h8 (G.2.1.2.2.2 (5 * n + 1)) (G.2.1.2.2.2 (5 * n + 2)) (G.2.1.2.2.2 (5 * n + 3)) ) rfl rfl (by decide) (by decide) (by omega) (by omega) dL_law_1984 ?_ (fun _ _ _ _ h _ => h.elim)
  rintro v9 s9 i9 m9 ⟨k, rfl, hw, h89, hf⟩ -
  have hM9 : zM S s9 i9 m9 := zM_same hM (fun l hl => hf l (by omega))
  have h10b : s9 10 = some (9, 0) := (hf 10 (Or.inr ⟨by decide, by decide⟩)).1.trans h10
  refine zz_istore (ls' := [(0, .ref 10), (1, .ref 2), (2, .ref 1), (3, .ref 8), (4, .int (nI (5 * n))), (5, .int k)]) hX dL_law_1987 h5 rfl ?_
  refine zz_aload_n hX dL_law_1989 2 rfl rfl ?_
  refine zz_aload_n hX dL_law_1990 0 rfl rfl ?_
  refine zz_iload hX dL_law_1991 4 rfl ?_
  refine zz_iconst (v := nI 1) hX dL_law_1993 rfl ?_
  refine zz_iadd (z := nI (5 * n + 1)) hX dL_law_1994 (nI_add _ _) ?_
  refine zz_sld hX h10b (5 * n + 1) rfl (by omega) (by omega) dL_law_1995 ?_
  refine zz_aload_n hX dL_law_1996 0 rfl rfl ?_
  refine zz_iload hX dL_law_1997 4 rfl ?_
  refine zz_iconst (v := nI 2) hX dL_law_1999 rfl ?_
  refine zz_iadd (z := nI (5 * n + 2)) hX dL_law_2000 (nI_add _ _) ?_
  refine zz_sld hX h10b (5 * n + 2) rfl (by omega) (by omega) dL_law_2001 ?_
  refine zz_aload_n hX dL_law_2002 0 rfl rfl ?_
  refine zz_iload hX dL_law_2003 4 rfl ?_
  refine zz_iconst (v := nI 3) hX dL_law_2005 rfl ?_
  refine zz_iadd (z := nI (5 * n + 3)) hX dL_law_2006 (nI_add _ _) ?_
  refine zz_sld hX h10b (5 * n + 3) rfl (by omega) (by omega) dL_law_2007 ?_
  refine zz_callV hX zf_M_L_213 (As := [.int (G.2.1.2.2.2 (5 * n + 1)), .int (G.2.1.2.2.2 (5 * n + 2)), .int (G.2.1.2.2.2 (5 * n + 3))]) (st := []) (MP_ofFrame S s9 i9 m9 hW hM9 (G.2.1.2.2.2 (5 * n + 1)) (G.2.1.2.2.2 (5 * n + 2)) (G.2.1.2.2.2 (5 * n + 3))  ) hM9.1 rfl rfl rfl (by decide) (by decide) (by omega) (by omega) dL_law_2008 ?_ (fun _ _ _ _ h _ => h.elim)
  rintro v7 s7 i7 m7 ⟨b, rfl, hm, hg⟩ -
  obtain ⟨j1, j2, T, hT⟩ := zl_join (P := fun _ => True) hI (fun hA hB hC => U_ofFrame hW (G.2.1.2.2.2 (5 * n + 1)) (G.2.1.2.2.2 (5 * n + 2)) (G.2.1.2.2.2 (5 * n + 3))  hA hB hC) ⟨Or.inr (by decide), Or.inr (by decide), Or.inl trivial⟩ trivial hw h89 hf hm hg
  have hM7 := hT.2.2.1.1
  have h87 := hT.2.2.2.1
  refine zz_istore (ls' := [(0, .ref 10), (1, .ref 2), (2, .ref 1), (3, .ref 8), (4, .int (nI (5 * n))), (5, .int k), (6, .int b)]) hX dL_law_2011 h6 rfl ?_
  refine zz_aload_n hX dL_law_2013 2 rfl rfl ?_
  refine zz_vI (x := i7 1 30) hX zf_M_L_124 (As := []) (st := []) (M_thrown s7 i7 m7 hM7) hM7 rfl rfl rfl (by decide) (by decide) (by omega) (by omega) dL_law_2014 ?_
  refine zz_iload hX dL_law_2017 5 rfl ?_
  refine zz_icmp_eq hX 2024 dL_law_2019 rfl (fun _ => ?_) (fun c => absurd j1 c)
  refine zz_iload hX dL_law_2024 5 rfl ?_
  have fin : ∀ c s, c ≤ cells + 60 → s ≤ slots + 1460 → zz Γ G Q c s s7 i7 m7 2041 [(0, .ref 10), (1, .ref 2), (2, .ref 1), (3, .ref 8), (4, .int (nI (5 * n))), (5, .int k), (6, .int b)] [] := fun c s hc hs => zz_goto hX 2329 dL_law_2041 rfl (zz_pick [0, 1, 2, 3, 4] rfl (hN T s7 i7 m7 c s hT hc hs))
  refine zz_if_ne hX 2041 dL_law_2026 rfl (fun _ => fin _ _ (by omega) (by omega)) (fun c0k => ?_)
  obtain ⟨j3, j4⟩ := j2 c0k
  refine zz_aload_n hX dL_law_2029 3 rfl rfl ?_
  refine zz_iconst (v := nI 0) hX dL_law_2030 rfl ?_
  refine zz_lald hX h87 0 rfl (by decide) (by decide) dL_law_2031 ?_
  refine zz_iload hX dL_law_2032 6 rfl ?_
  refine zz_i2l hX dL_law_2034 ?_
  refine zz_lcmp hX dL_law_2035 ?_
  exact zz_if_eq hX 2041 dL_law_2036 rfl (fun _ => fin _ _ (by omega) (by omega)) (fun c => absurd (by rw [j3]; exact lg_cmp_self _) c)
theorem L_faults (hX : zz_X Γ G RL cL_law 12 mc ms) (hml : G.2.2.1 = 7) (S : zS) (sh : zm_Sh) (mi : zm_Mi) (mr : zm_Mr) (n : Nat) (hl : 5 * n + 5 ≤ G.2.1.2.2.1) (hL : G.2.1.2.2.1 ≤ 2560) (hI : zl_I S sh mi mr) (hc : cells + 60 ≤ mc) (hs : slots + 1460 ≤ ms) (hN : zl_N Γ G Q n cells slots) : zz Γ G Q cells slots sh mi mr 2044 (zl_ls n) [] := by
  obtain ⟨hW, hR, hM, h8, h10⟩ := id hI
  have h5 : 5 < G.2.2.1 := by rw [hml]; decide
  have h6 : 6 < G.2.2.1 := by rw [hml]; decide
  refine zz_aload_n hX dL_law_2044 1 rfl rfl ?_
  refine zz_aload_n hX dL_law_2045 0 rfl rfl ?_
  refine zz_iload hX dL_law_2046 4 rfl ?_
  refine zz_iconst (v := nI 1) hX dL_law_2048 rfl ?_
  refine zz_iadd (z := nI (5 * n + 1)) hX dL_law_2049 (nI_add _ _) ?_
  refine zz_sld hX h10 (5 * n + 1) rfl (by omega) (by omega) dL_law_2050 ?_
  refine zz_aload_n hX dL_law_2051 0 rfl rfl ?_
  refine zz_iload hX dL_law_2052 4 rfl ?_
  refine zz_iconst (v := nI 2) hX dL_law_2054 rfl ?_
  refine zz_iadd (z := nI (5 * n + 2)) hX dL_law_2055 (nI_add _ _) ?_
  refine zz_sld hX h10 (5 * n + 2) rfl (by omega) (by omega) dL_law_2056 ?_
  refine zz_aload_n hX dL_law_2057 3 rfl rfl ?_
  refine zz_callSH hX zf_M_L_214 (As := [.ref 2, .int (G.2.1.2.2.2 (5 * n + 1)), .int (G.2.1.2.2.2 (5 * n + 2)), .ref 8]) (st := []) (W_faults S sh mi mr hW hR h8 (G.2.1.2.2.2 (5 * n + 1)) (G.2.1.2.2.2 (5 * n + 2)) ) rfl rfl (by decide) (by decide) (by omega) (by omega) dL_law_2058 ?_ (fun _ _ _ _ h _ => h.elim)
  rintro v9 s9 i9 m9 ⟨k, rfl, hw, h89, hf⟩ -
  have hM9 : zM S s9 i9 m9 := zM_same hM (fun l hl => hf l (by omega))
  have h10b : s9 10 = some (9, 0) := (hf 10 (Or.inr ⟨by decide, by decide⟩)).1.trans h10
  refine zz_istore (ls' := [(0, .ref 10), (1, .ref 2), (2, .ref 1), (3, .ref 8), (4, .int (nI (5 * n))), (5, .int k)]) hX dL_law_2061 h5 rfl ?_
  refine zz_aload_n hX dL_law_2063 2 rfl rfl ?_
  refine zz_aload_n hX dL_law_2064 0 rfl rfl ?_
  refine zz_iload hX dL_law_2065 4 rfl ?_
  refine zz_iconst (v := nI 1) hX dL_law_2067 rfl ?_
  refine zz_iadd (z := nI (5 * n + 1)) hX dL_law_2068 (nI_add _ _) ?_
  refine zz_sld hX h10b (5 * n + 1) rfl (by omega) (by omega) dL_law_2069 ?_
  refine zz_aload_n hX dL_law_2070 0 rfl rfl ?_
  refine zz_iload hX dL_law_2071 4 rfl ?_
  refine zz_iconst (v := nI 2) hX dL_law_2073 rfl ?_
  refine zz_iadd (z := nI (5 * n + 2)) hX dL_law_2074 (nI_add _ _) ?_
  refine zz_sld hX h10b (5 * n + 2) rfl (by omega) (by omega) dL_law_2075 ?_
  refine zz_callV hX zf_M_L_216 (As := [.int (G.2.1.2.2.2 (5 * n + 1)), .int (G.2.1.2.2.2 (5 * n + 2))]) (st := []) (MP_faults S s9 i9 m9 hW hM9 (G.2.1.2.2.2 (5 * n + 1)) (G.2.1.2.2.2 (5 * n + 2))  ) hM9.1 rfl rfl rfl (by decide) (by decide) (by omega) (by omega) dL_law_2076 ?_ (fun _ _ _ _ h _ => h.elim)
  rintro v7 s7 i7 m7 ⟨b, rfl, hm, hg⟩ -
  obtain ⟨j1, j2, T, hT⟩ := zl_join (P := fun _ => True) hI (fun hA hB hC => U_faults hW (G.2.1.2.2.2 (5 * n + 1)) (G.2.1.2.2.2 (5 * n + 2))  hA hB hC) ⟨Or.inr (by decide), Or.inl trivial, Or.inl trivial⟩ trivial hw h89 hf hm hg
  have hM7 := hT.2.2.1.1
  have h87 := hT.2.2.2.1
  refine zz_istore (ls' := [(0, .ref 10), (1, .ref 2), (2, .ref 1), (3, .ref 8), (4, .int (nI (5 * n))), (5, .int k), (6, .int b)]) hX dL_law_2079 h6 rfl ?_
  refine zz_aload_n hX dL_law_2081 2 rfl rfl ?_
  refine zz_vI (x := i7 1 30) hX zf_M_L_124 (As := []) (st := []) (M_thrown s7 i7 m7 hM7) hM7 rfl rfl rfl (by decide) (by decide) (by omega) (by omega) dL_law_2082 ?_
  refine zz_iload hX dL_law_2085 5 rfl ?_
  refine zz_icmp_eq hX 2092 dL_law_2087 rfl (fun _ => ?_) (fun c => absurd j1 c)
  refine zz_iload hX dL_law_2092 5 rfl ?_
  have fin : ∀ c s, c ≤ cells + 60 → s ≤ slots + 1460 → zz Γ G Q c s s7 i7 m7 2109 [(0, .ref 10), (1, .ref 2), (2, .ref 1), (3, .ref 8), (4, .int (nI (5 * n))), (5, .int k), (6, .int b)] [] := fun c s hc hs => zz_goto hX 2329 dL_law_2109 rfl (zz_pick [0, 1, 2, 3, 4] rfl (hN T s7 i7 m7 c s hT hc hs))
  refine zz_if_ne hX 2109 dL_law_2094 rfl (fun _ => fin _ _ (by omega) (by omega)) (fun c0k => ?_)
  obtain ⟨j3, j4⟩ := j2 c0k
  refine zz_aload_n hX dL_law_2097 3 rfl rfl ?_
  refine zz_iconst (v := nI 0) hX dL_law_2098 rfl ?_
  refine zz_lald hX h87 0 rfl (by decide) (by decide) dL_law_2099 ?_
  refine zz_iload hX dL_law_2100 6 rfl ?_
  refine zz_i2l hX dL_law_2102 ?_
  refine zz_lcmp hX dL_law_2103 ?_
  exact zz_if_eq hX 2109 dL_law_2104 rfl (fun _ => fin _ _ (by omega) (by omega)) (fun c => absurd (by rw [j3]; exact lg_cmp_self _) c)
theorem L_ofJoint (hX : zz_X Γ G RL cL_law 12 mc ms) (hml : G.2.2.1 = 7) (S : zS) (sh : zm_Sh) (mi : zm_Mi) (mr : zm_Mr) (n : Nat) (hl : 5 * n + 5 ≤ G.2.1.2.2.1) (hL : G.2.1.2.2.1 ≤ 2560) (hI : zl_I S sh mi mr) (hc : cells + 60 ≤ mc) (hs : slots + 1460 ≤ ms) (hN : zl_N Γ G Q n cells slots) : zz Γ G Q cells slots sh mi mr 2112 (zl_ls n) [] := by
  obtain ⟨hW, hR, hM, h8, h10⟩ := id hI
  have h5 : 5 < G.2.2.1 := by rw [hml]; decide
  have h6 : 6 < G.2.2.1 := by rw [hml]; decide
  refine zz_aload_n hX dL_law_2112 1 rfl rfl ?_
  refine zz_aload_n hX dL_law_2113 0 rfl rfl ?_
  refine zz_iload hX dL_law_2114 4 rfl ?_
  refine zz_iconst (v := nI 1) hX dL_law_2116 rfl ?_
  refine zz_iadd (z := nI (5 * n + 1)) hX dL_law_2117 (nI_add _ _) ?_
  refine zz_sld hX h10 (5 * n + 1) rfl (by omega) (by omega) dL_law_2118 ?_
  refine zz_aload_n hX dL_law_2119 0 rfl rfl ?_
  refine zz_iload hX dL_law_2120 4 rfl ?_
  refine zz_iconst (v := nI 2) hX dL_law_2122 rfl ?_
  refine zz_iadd (z := nI (5 * n + 2)) hX dL_law_2123 (nI_add _ _) ?_
  refine zz_sld hX h10 (5 * n + 2) rfl (by omega) (by omega) dL_law_2124 ?_
  refine zz_aload_n hX dL_law_2125 0 rfl rfl ?_
  refine zz_iload hX dL_law_2126 4 rfl ?_
  refine zz_iconst (v := nI 3) hX dL_law_2128 rfl ?_
  refine zz_iadd (z := nI (5 * n + 3)) hX dL_law_2129 (nI_add _ _) ?_
  refine zz_sld hX h10 (5 * n + 3) rfl (by omega) (by omega) dL_law_2130 ?_
  refine zz_aload_n hX dL_law_2131 3 rfl rfl ?_
  refine zz_callSH hX zf_M_L_217 (As := [.ref 2, .int (G.2.1.2.2.2 (5 * n + 1)), .int (G.2.1.2.2.2 (5 * n + 2)), .int (G.2.1.2.2.2 (5 * n + 3)), .ref 8]) (st := []) (W_ofJoint S sh mi mr hW hR h8 (G.2.1.2.2.2 (5 * n + 1)) (G.2.1.2.2.2 (5 * n + 2)) (G.2.1.2.2.2 (5 * n + 3)) ) rfl rfl (by decide) (by decide) (by omega) (by omega) dL_law_2132 ?_ (fun _ _ _ _ h _ => h.elim)
  rintro v9 s9 i9 m9 ⟨k, rfl, hw, h89, hf⟩ -
  have hM9 : zM S s9 i9 m9 := zM_same hM (fun l hl => hf l (by omega))
  have h10b : s9 10 = some (9, 0) := (hf 10 (Or.inr ⟨by decide, by decide⟩)).1.trans h10
  refine zz_istore (ls' := [(0, .ref 10), (1, .ref 2), (2, .ref 1), (3, .ref 8), (4, .int (nI (5 * n))), (5, .int k)]) hX dL_law_2135 h5 rfl ?_
  refine zz_aload_n hX dL_law_2137 2 rfl rfl ?_
  refine zz_aload_n hX dL_law_2138 0 rfl rfl ?_
  refine zz_iload hX dL_law_2139 4 rfl ?_
  refine zz_iconst (v := nI 1) hX dL_law_2141 rfl ?_
  refine zz_iadd (z := nI (5 * n + 1)) hX dL_law_2142 (nI_add _ _) ?_
  refine zz_sld hX h10b (5 * n + 1) rfl (by omega) (by omega) dL_law_2143 ?_
  refine zz_aload_n hX dL_law_2144 0 rfl rfl ?_
  refine zz_iload hX dL_law_2145 4 rfl ?_
  refine zz_iconst (v := nI 2) hX dL_law_2147 rfl ?_
  refine zz_iadd (z := nI (5 * n + 2)) hX dL_law_2148 (nI_add _ _) ?_
  refine zz_sld hX h10b (5 * n + 2) rfl (by omega) (by omega) dL_law_2149 ?_
  refine zz_aload_n hX dL_law_2150 0 rfl rfl ?_
  refine zz_iload hX dL_law_2151 4 rfl ?_
  refine zz_iconst (v := nI 3) hX dL_law_2153 rfl ?_
  refine zz_iadd (z := nI (5 * n + 3)) hX dL_law_2154 (nI_add _ _) ?_
  refine zz_sld hX h10b (5 * n + 3) rfl (by omega) (by omega) dL_law_2155 ?_
  refine zz_callV hX zf_M_L_219 (As := [.int (G.2.1.2.2.2 (5 * n + 1)), .int (G.2.1.2.2.2 (5 * n + 2)), .int (G.2.1.2.2.2 (5 * n + 3))]) (st := []) (MP_ofJoint S s9 i9 m9 hW hM9 (G.2.1.2.2.2 (5 * n + 1)) (G.2.1.2.2.2 (5 * n + 2)) (G.2.1.2.2.2 (5 * n + 3))  ) hM9.1 rfl rfl rfl (by decide) (by decide) (by omega) (by omega) dL_law_2156 ?_ (fun _ _ _ _ h _ => h.elim)
  rintro v7 s7 i7 m7 ⟨b, rfl, hm, hg⟩ -
  obtain ⟨j1, j2, T, hT⟩ := zl_join (P := fun _ => True) hI (fun hA hB hC => U_ofJoint hW (G.2.1.2.2.2 (5 * n + 1)) (G.2.1.2.2.2 (5 * n + 2)) (G.2.1.2.2.2 (5 * n + 3))  hA hB hC) ⟨Or.inr (by decide), Or.inr (by decide), Or.inl trivial⟩ trivial hw h89 hf hm hg
  have hM7 := hT.2.2.1.1
  have h87 := hT.2.2.2.1
  refine zz_istore (ls' := [(0, .ref 10), (1, .ref 2), (2, .ref 1), (3, .ref 8), (4, .int (nI (5 * n))), (5, .int k), (6, .int b)]) hX dL_law_2159 h6 rfl ?_
  refine zz_aload_n hX dL_law_2161 2 rfl rfl ?_
  refine zz_vI (x := i7 1 30) hX zf_M_L_124 (As := []) (st := []) (M_thrown s7 i7 m7 hM7) hM7 rfl rfl rfl (by decide) (by decide) (by omega) (by omega) dL_law_2162 ?_
  refine zz_iload hX dL_law_2165 5 rfl ?_
  refine zz_icmp_eq hX 2172 dL_law_2167 rfl (fun _ => ?_) (fun c => absurd j1 c)
  refine zz_iload hX dL_law_2172 5 rfl ?_
  have fin : ∀ c s, c ≤ cells + 60 → s ≤ slots + 1460 → zz Γ G Q c s s7 i7 m7 2189 [(0, .ref 10), (1, .ref 2), (2, .ref 1), (3, .ref 8), (4, .int (nI (5 * n))), (5, .int k), (6, .int b)] [] := fun c s hc hs => zz_goto hX 2329 dL_law_2189 rfl (zz_pick [0, 1, 2, 3, 4] rfl (hN T s7 i7 m7 c s hT hc hs))
  refine zz_if_ne hX 2189 dL_law_2174 rfl (fun _ => fin _ _ (by omega) (by omega)) (fun c0k => ?_)
  obtain ⟨j3, j4⟩ := j2 c0k
  refine zz_aload_n hX dL_law_2177 3 rfl rfl ?_
  refine zz_iconst (v := nI 0) hX dL_law_2178 rfl ?_
  refine zz_lald hX h87 0 rfl (by decide) (by decide) dL_law_2179 ?_
  refine zz_iload hX dL_law_2180 6 rfl ?_
  refine zz_i2l hX dL_law_2182 ?_
  refine zz_lcmp hX dL_law_2183 ?_
  exact zz_if_eq hX 2189 dL_law_2184 rfl (fun _ => fin _ _ (by omega) (by omega)) (fun c => absurd (by rw [j3]; exact lg_cmp_self _) c)
theorem L_left (hX : zz_X Γ G RL cL_law 12 mc ms) (hml : G.2.2.1 = 7) (S : zS) (sh : zm_Sh) (mi : zm_Mi) (mr : zm_Mr) (n : Nat) (hl : 5 * n + 5 ≤ G.2.1.2.2.1) (hL : G.2.1.2.2.1 ≤ 2560) (hI : zl_I S sh mi mr) (hc : cells + 60 ≤ mc) (hs : slots + 1460 ≤ ms) (hN : zl_N Γ G Q n cells slots) : zz Γ G Q cells slots sh mi mr 2192 (zl_ls n) [] := by
  obtain ⟨hW, hR, hM, h8, h10⟩ := id hI
  have h5 : 5 < G.2.2.1 := by rw [hml]; decide
  have h6 : 6 < G.2.2.1 := by rw [hml]; decide
  refine zz_aload_n hX dL_law_2192 1 rfl rfl ?_
  refine zz_aload_n hX dL_law_2193 0 rfl rfl ?_
  refine zz_iload hX dL_law_2194 4 rfl ?_
  refine zz_iconst (v := nI 1) hX dL_law_2196 rfl ?_
  refine zz_iadd (z := nI (5 * n + 1)) hX dL_law_2197 (nI_add _ _) ?_
  refine zz_sld hX h10 (5 * n + 1) rfl (by omega) (by omega) dL_law_2198 ?_
  refine zz_aload_n hX dL_law_2199 0 rfl rfl ?_
  refine zz_iload hX dL_law_2200 4 rfl ?_
  refine zz_iconst (v := nI 2) hX dL_law_2202 rfl ?_
  refine zz_iadd (z := nI (5 * n + 2)) hX dL_law_2203 (nI_add _ _) ?_
  refine zz_sld hX h10 (5 * n + 2) rfl (by omega) (by omega) dL_law_2204 ?_
  refine zz_aload_n hX dL_law_2205 3 rfl rfl ?_
  refine zz_callSH hX zf_M_L_220 (As := [.ref 2, .int (G.2.1.2.2.2 (5 * n + 1)), .int (G.2.1.2.2.2 (5 * n + 2)), .ref 8]) (st := []) (W_left S sh mi mr hW hR h8 (G.2.1.2.2.2 (5 * n + 1)) (G.2.1.2.2.2 (5 * n + 2)) ) rfl rfl (by decide) (by decide) (by omega) (by omega) dL_law_2206 ?_ (fun _ _ _ _ h _ => h.elim)
  rintro v9 s9 i9 m9 ⟨k, rfl, hw, h89, hf⟩ -
  have hM9 : zM S s9 i9 m9 := zM_same hM (fun l hl => hf l (by omega))
  have h10b : s9 10 = some (9, 0) := (hf 10 (Or.inr ⟨by decide, by decide⟩)).1.trans h10
  refine zz_istore (ls' := [(0, .ref 10), (1, .ref 2), (2, .ref 1), (3, .ref 8), (4, .int (nI (5 * n))), (5, .int k)]) hX dL_law_2209 h5 rfl ?_
  refine zz_aload_n hX dL_law_2211 2 rfl rfl ?_
  refine zz_aload_n hX dL_law_2212 0 rfl rfl ?_
  refine zz_iload hX dL_law_2213 4 rfl ?_
  refine zz_iconst (v := nI 1) hX dL_law_2215 rfl ?_
  refine zz_iadd (z := nI (5 * n + 1)) hX dL_law_2216 (nI_add _ _) ?_
  refine zz_sld hX h10b (5 * n + 1) rfl (by omega) (by omega) dL_law_2217 ?_
  refine zz_aload_n hX dL_law_2218 0 rfl rfl ?_
  refine zz_iload hX dL_law_2219 4 rfl ?_
  refine zz_iconst (v := nI 2) hX dL_law_2221 rfl ?_
  refine zz_iadd (z := nI (5 * n + 2)) hX dL_law_2222 (nI_add _ _) ?_
  refine zz_sld hX h10b (5 * n + 2) rfl (by omega) (by omega) dL_law_2223 ?_
  refine zz_callV hX zf_M_L_222 (As := [.int (G.2.1.2.2.2 (5 * n + 1)), .int (G.2.1.2.2.2 (5 * n + 2))]) (st := []) (MP_left S s9 i9 m9 hW hM9 (G.2.1.2.2.2 (5 * n + 1)) (G.2.1.2.2.2 (5 * n + 2))  ) hM9.1 rfl rfl rfl (by decide) (by decide) (by omega) (by omega) dL_law_2224 ?_ (fun _ _ _ _ h _ => h.elim)
  rintro v7 s7 i7 m7 ⟨b, rfl, hm, hg⟩ -
  obtain ⟨j1, j2, T, hT⟩ := zl_join (P := fun _ => True) hI (fun hA hB hC => U_left hW (G.2.1.2.2.2 (5 * n + 1)) (G.2.1.2.2.2 (5 * n + 2))  hA hB hC) ⟨Or.inr (by decide), Or.inr (by decide), Or.inl trivial⟩ trivial hw h89 hf hm hg
  have hM7 := hT.2.2.1.1
  have h87 := hT.2.2.2.1
  refine zz_istore (ls' := [(0, .ref 10), (1, .ref 2), (2, .ref 1), (3, .ref 8), (4, .int (nI (5 * n))), (5, .int k), (6, .int b)]) hX dL_law_2227 h6 rfl ?_
  refine zz_aload_n hX dL_law_2229 2 rfl rfl ?_
  refine zz_vI (x := i7 1 30) hX zf_M_L_124 (As := []) (st := []) (M_thrown s7 i7 m7 hM7) hM7 rfl rfl rfl (by decide) (by decide) (by omega) (by omega) dL_law_2230 ?_
  refine zz_iload hX dL_law_2233 5 rfl ?_
  refine zz_icmp_eq hX 2240 dL_law_2235 rfl (fun _ => ?_) (fun c => absurd j1 c)
  refine zz_iload hX dL_law_2240 5 rfl ?_
  have fin : ∀ c s, c ≤ cells + 60 → s ≤ slots + 1460 → zz Γ G Q c s s7 i7 m7 2257 [(0, .ref 10), (1, .ref 2), (2, .ref 1), (3, .ref 8), (4, .int (nI (5 * n))), (5, .int k), (6, .int b)] [] := fun c s hc hs => zz_goto hX 2329 dL_law_2257 rfl (zz_pick [0, 1, 2, 3, 4] rfl (hN T s7 i7 m7 c s hT hc hs))
  refine zz_if_ne hX 2257 dL_law_2242 rfl (fun _ => fin _ _ (by omega) (by omega)) (fun c0k => ?_)
  obtain ⟨j3, j4⟩ := j2 c0k
  refine zz_aload_n hX dL_law_2245 3 rfl rfl ?_
  refine zz_iconst (v := nI 0) hX dL_law_2246 rfl ?_
  refine zz_lald hX h87 0 rfl (by decide) (by decide) dL_law_2247 ?_
  refine zz_iload hX dL_law_2248 6 rfl ?_
  refine zz_i2l hX dL_law_2250 ?_
  refine zz_lcmp hX dL_law_2251 ?_
  exact zz_if_eq hX 2257 dL_law_2252 rfl (fun _ => fin _ _ (by omega) (by omega)) (fun c => absurd (by rw [j3]; exact lg_cmp_self _) c)
theorem L_light (hX : zz_X Γ G RL cL_law 12 mc ms) (hml : G.2.2.1 = 7) (S : zS) (sh : zm_Sh) (mi : zm_Mi) (mr : zm_Mr) (n : Nat) (hl : 5 * n + 5 ≤ G.2.1.2.2.1) (hL : G.2.1.2.2.1 ≤ 2560) (hI : zl_I S sh mi mr) (hc : cells + 60 ≤ mc) (hs : slots + 1460 ≤ ms) (hN : zl_N Γ G Q n cells slots) : zz Γ G Q cells slots sh mi mr 2260 (zl_ls n) [] := by
  obtain ⟨hW, hR, hM, h8, h10⟩ := id hI
  refine zz_aload_n hX dL_law_2260 1 rfl rfl ?_
  refine zz_callV hX zf_M_L_223 (As := []) (st := []) (P_light S sh mi mr hW hR) hR.1.1 rfl rfl rfl (by decide) (by decide) (by omega) (by omega) dL_law_2261 ?_ ?_
  rotate_left
  · rintro e9 s9 i9 m9 ⟨hq, -⟩ -
    rcases hq with ⟨-, q1⟩ | ⟨-, -, q2⟩ | ⟨-, -, -, q3⟩
    · exact absurd trivial q1
    · exact absurd trivial q2
    · exact absurd trivial q3
  rintro v9 s9 i9 m9 ⟨-, rfl, hR9, hS9⟩ -
  have hW9 : zW _ := U_light hW trivial trivial trivial
  have hM9 : zM S s9 i9 m9 := zM_same hM (fun l hl => hS9 l (by unfold zr_out; omega))
  refine zz_aload_n hX dL_law_2264 2 rfl rfl ?_
  refine zz_callV hX zf_M_L_226 (As := []) (st := [.int (zp_light S)]) (MP_light S s9 i9 m9 hW hM9) hM9.1 rfl rfl rfl (by decide) (Nat.le_of_ble_eq_true rfl) (by omega) (by omega) dL_law_2265 ?_ (fun _ _ _ _ h _ => h.elim)
  rintro v7 s7 i7 m7 ⟨b, rfl, hm, hg⟩ -
  rcases hm with ⟨-, -, -, f1, f2, q⟩ | ⟨x, -⟩ | ⟨-, x, -⟩ | ⟨-, -, x, -⟩
  rotate_left
  · exact absurd trivial x
  · exact absurd trivial x
  · exact absurd trivial x
  refine zz_icmp_eq hX 2329 dL_law_2268 rfl (fun _ => ?_) (fun c => absurd f2.symm c)
  refine hN _ _ _ _ _ _ ⟨hW9, zR_same hW9 hR9 (fun l hl => hg l (by unfold zr_cl at hl; unfold zr_mout; omega)), q, ?_, ?_⟩ (by omega) (by omega)
  · exact (hg 8 ⟨by decide, by decide⟩).1.trans ((hS9 8 (Or.inr ⟨by decide, by decide⟩)).1.trans h8)
  · exact (hg 10 ⟨by decide, by decide⟩).1.trans ((hS9 10 (Or.inr ⟨by decide, by decide⟩)).1.trans h10)
theorem L_film (hX : zz_X Γ G RL cL_law 12 mc ms) (hml : G.2.2.1 = 7) (S : zS) (sh : zm_Sh) (mi : zm_Mi) (mr : zm_Mr) (n : Nat) (hl : 5 * n + 5 ≤ G.2.1.2.2.1) (hL : G.2.1.2.2.1 ≤ 2560) (hI : zl_I S sh mi mr) (hc : cells + 60 ≤ mc) (hs : slots + 1460 ≤ ms) (hN : zl_N Γ G Q n cells slots) : zz Γ G Q cells slots sh mi mr 2273 (zl_ls n) [] := by
  obtain ⟨hW, hR, hM, h8, h10⟩ := id hI
  have h5 : 5 < G.2.2.1 := by rw [hml]; decide
  have h6 : 6 < G.2.2.1 := by rw [hml]; decide
  refine zz_aload_n hX dL_law_2273 1 rfl rfl ?_
  refine zz_aload_n hX dL_law_2274 0 rfl rfl ?_
  refine zz_iload hX dL_law_2275 4 rfl ?_
  refine zz_iconst (v := nI 1) hX dL_law_2277 rfl ?_
  refine zz_iadd (z := nI (5 * n + 1)) hX dL_law_2278 (nI_add _ _) ?_
  refine zz_sld hX h10 (5 * n + 1) rfl (by omega) (by omega) dL_law_2279 ?_
  refine zz_aload_n hX dL_law_2280 3 rfl rfl ?_
  refine zz_callSH hX zf_M_L_227 (As := [.ref 2, .int (G.2.1.2.2.2 (5 * n + 1)), .ref 8]) (st := []) (W_film S sh mi mr hW hR h8 (G.2.1.2.2.2 (5 * n + 1)) ) rfl rfl (by decide) (by decide) (by omega) (by omega) dL_law_2281 ?_ (fun _ _ _ _ h _ => h.elim)
  rintro v9 s9 i9 m9 ⟨k, rfl, hw, h89, hf⟩ -
  have hM9 : zM S s9 i9 m9 := zM_same hM (fun l hl => hf l (by omega))
  have h10b : s9 10 = some (9, 0) := (hf 10 (Or.inr ⟨by decide, by decide⟩)).1.trans h10
  refine zz_istore (ls' := [(0, .ref 10), (1, .ref 2), (2, .ref 1), (3, .ref 8), (4, .int (nI (5 * n))), (5, .int k)]) hX dL_law_2284 h5 rfl ?_
  refine zz_aload_n hX dL_law_2286 2 rfl rfl ?_
  refine zz_aload_n hX dL_law_2287 0 rfl rfl ?_
  refine zz_iload hX dL_law_2288 4 rfl ?_
  refine zz_iconst (v := nI 1) hX dL_law_2290 rfl ?_
  refine zz_iadd (z := nI (5 * n + 1)) hX dL_law_2291 (nI_add _ _) ?_
  refine zz_sld hX h10b (5 * n + 1) rfl (by omega) (by omega) dL_law_2292 ?_
  refine zz_callV hX zf_M_L_229 (As := [.int (G.2.1.2.2.2 (5 * n + 1))]) (st := []) (MP_film S s9 i9 m9 hW hM9 (G.2.1.2.2.2 (5 * n + 1))  ) hM9.1 rfl rfl rfl (by decide) (by decide) (by omega) (by omega) dL_law_2293 ?_ (fun _ _ _ _ h _ => h.elim)
  rintro v7 s7 i7 m7 ⟨b, rfl, hm, hg⟩ -
  obtain ⟨j1, j2, T, hT⟩ := zl_join (P := fun _ => True) hI (fun hA hB hC => U_film hW (G.2.1.2.2.2 (5 * n + 1))  hA hB hC) ⟨Or.inr (by decide), Or.inl trivial, Or.inl trivial⟩ trivial hw h89 hf hm hg
  have hM7 := hT.2.2.1.1
  have h87 := hT.2.2.2.1
  refine zz_istore (ls' := [(0, .ref 10), (1, .ref 2), (2, .ref 1), (3, .ref 8), (4, .int (nI (5 * n))), (5, .int k), (6, .int b)]) hX dL_law_2296 h6 rfl ?_
  refine zz_aload_n hX dL_law_2298 2 rfl rfl ?_
  refine zz_vI (x := i7 1 30) hX zf_M_L_124 (As := []) (st := []) (M_thrown s7 i7 m7 hM7) hM7 rfl rfl rfl (by decide) (by decide) (by omega) (by omega) dL_law_2299 ?_
  refine zz_iload hX dL_law_2302 5 rfl ?_
  refine zz_icmp_eq hX 2309 dL_law_2304 rfl (fun _ => ?_) (fun c => absurd j1 c)
  refine zz_iload hX dL_law_2309 5 rfl ?_
  have fin : ∀ c s, c ≤ cells + 60 → s ≤ slots + 1460 → zz Γ G Q c s s7 i7 m7 2326 [(0, .ref 10), (1, .ref 2), (2, .ref 1), (3, .ref 8), (4, .int (nI (5 * n))), (5, .int k), (6, .int b)] [] := fun c s hc hs => zz_goto hX 2329 dL_law_2326 rfl (zz_pick [0, 1, 2, 3, 4] rfl (hN T s7 i7 m7 c s hT hc hs))
  refine zz_if_ne hX 2326 dL_law_2311 rfl (fun _ => fin _ _ (by omega) (by omega)) (fun c0k => ?_)
  obtain ⟨j3, j4⟩ := j2 c0k
  refine zz_aload_n hX dL_law_2314 3 rfl rfl ?_
  refine zz_iconst (v := nI 0) hX dL_law_2315 rfl ?_
  refine zz_lald hX h87 0 rfl (by decide) (by decide) dL_law_2316 ?_
  refine zz_iload hX dL_law_2317 6 rfl ?_
  refine zz_i2l hX dL_law_2319 ?_
  refine zz_lcmp hX dL_law_2320 ?_
  exact zz_if_eq hX 2326 dL_law_2321 rfl (fun _ => fin _ _ (by omega) (by omega)) (fun c => absurd (by rw [j3]; exact lg_cmp_self _) c)
end ZLL
