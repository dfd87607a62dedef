/-! ===== a shot is made ===== -/
theorem zr_T_same {s s' : zm_Sh} {m m' : zm_Mr} {t n : Nat} (h : zr_T s m t n) (e : ∀ l, t ≤ l → l ≤ t + 2 → s' l = s l ∧ m' l = m l) : zr_T s' m' t n := by
  obtain ⟨h1, h2, h3, h4, h5⟩ := h
  have a0 := e t (by omega) (by omega)
  have a1 := e (t + 1) (by omega) (by omega)
  have a2 := e (t + 2) (by omega) (by omega)
  exact ⟨a0.1.trans h1, (congrFun a0.2 _).trans h2, (congrFun a0.2 _).trans h3, a1.1.trans h4, a2.1.trans h5⟩
theorem zr_R_same {s s' : zm_Sh} {m m' : zm_Mr} {b jn n : Nat} (h : zr_R s m b jn n) (e : ∀ l, b + 5 ≤ l → l < b + 40 + jn → s' l = s l ∧ m' l = m l) : zr_R s' m' b jn n := by
  obtain ⟨h1, h2, h3, h4, h5, h6, h7, h8, h9, h10, h11, h12, h13, h14, h15⟩ := h
  have a5 := e (b + 5) (by omega) (by omega)
  have a6 := e (b + 6) (by omega) (by omega)
  have a7 := e (b + 7) (by omega) (by omega)
  have a8 := e (b + 8) (by omega) (by omega)
  have a9 := e (b + 9) (by omega) (by omega)
  have a10 := e (b + 10) (by omega) (by omega)
  have a11 := e (b + 11) (by omega) (by omega)
  exact ⟨a5.1.trans h1, (congrFun a5.2 _).trans h2, (congrFun a5.2 _).trans h3, (congrFun a5.2 _).trans h4, (congrFun a5.2 _).trans h5, (congrFun a5.2 _).trans h6, (congrFun a5.2 _).trans h7, a6.1.trans h8, a7.1.trans h9, a8.1.trans h10, a9.1.trans h11, a10.1.trans h12, a11.1.trans h13, fun j hj => (congrFun a6.2 _).trans (h14 j hj), fun j hj => (e _ (by omega) (by omega)).1.trans (h15 j hj)⟩
def zk_L (sh : zm_Sh) (mi : zm_Mi) (mr : zm_Mr) (b p jn n : Nat) (stp vo : Int32) (j : Nat) (s : zm_Sh) (i : zm_Mi) (m : zm_Mr) : Prop := (s b = some (0, 2) ∧ m b 0 = some p ∧ m b 6 = some (b + 1) ∧ s (b + 1) = some (6, jn) ∧ s p = some (0, 0) ∧ i p 0 = nI jn) ∧ (i b 1 = nI n ∧ i b 2 = stp ∧ i b 3 = vo ∧ i b 4 = -1 ∧ i b 5 = nI 0) ∧
  (∀ q, q < j → m (b + 1) q = some (b + 20 + 3 * q) ∧ zr_T s m (b + 20 + 3 * q) n ∧ i (b + 20 + 3 * q) 0 = nI 1 ∧ ∀ k, i (b + 20 + 3 * q + 2) k = 0) ∧ (∀ l, (b + 1 < l ∧ l < b + 20) ∨ (b + 20 + 3 * j ≤ l ∧ l < b + 100) → s l = none) ∧ zr_same (zr_ot b (b + 99)) sh mi mr s i m
def zk_pS (sh : zm_Sh) (mi : zm_Mi) (mr : zm_Mr) (b p jn n : Nat) (stp vo : Int32) : Option Value → zm_Sh → zm_Mi → zm_Mr → Prop := fun v s i m => v = none ∧ zr_S s m b p jn n ∧ (i b 1 = nI n ∧ i b 2 = stp ∧ i b 3 = vo ∧ i b 4 = -1 ∧ i b 5 = nI 0) ∧ i (b + 5) 6 = nI 0 ∧ (∀ j, j < jn → i (b + 20 + 3 * j) 0 = nI 1 ∧ ∀ k, i (b + 20 + 3 * j + 2) k = 0) ∧ i (b + 2) 0 = nI 0 ∧ (∀ k, i (b + 2 + 2) k = 0) ∧ zr_same (zr_ot b (b + 99)) sh mi mr s i m
theorem zk_L_step {sh s s9 : zm_Sh} {mi i i9 : zm_Mi} {mr m m9 : zm_Mr} {b p jn n j : Nat} {stp vo : Int32} (hL : zk_L sh mi mr b p jn n stp vo j s i m) (hp : p + 3 < b) (hj : j < jn) (hj6 : jn ≤ 6) (h9 : zr_same (zr_ot (b + 20 + 3 * j) (b + 20 + 3 * j + 2)) (zm_u1 s (b + 20 + 3 * j) (some (0, 3))) (zm_u1 i (b + 20 + 3 * j) (fun _ => 0)) (zm_u1 m (b + 20 + 3 * j) (fun _ => none)) s9 i9 m9) (hT : zr_T s9 m9 (b + 20 + 3 * j) n) (hg : i9 (b + 20 + 3 * j) 0 = nI 1) (hz : ∀ k, i9 (b + 20 + 3 * j + 2) k = 0) :
    zk_L sh mi mr b p jn n stp vo (j + 1) s9 i9 (zm_u2 m9 (b + 1) j (some (b + 20 + 3 * j))) := by
  obtain ⟨⟨l1, l2, l3, l4, l5, l6⟩, ⟨v1, v2, v3, v4, v5⟩, hq, hf, hs⟩ := hL
  have A : ∀ l, zr_ot (b + 20 + 3 * j) (b + 20 + 3 * j + 2) l → s9 l = s l ∧ i9 l = i l ∧ m9 l = m l := fun l hl => by
    obtain ⟨e1, e2, e3⟩ := h9 l hl
    unfold zr_ot at hl
    rw [zm_u1n (by omega)] at e1 e2 e3
    exact ⟨e1, e2, e3⟩
  have ab := A b (by unfold zr_ot; omega)
  have ab1 := A (b + 1) (by unfold zr_ot; omega)
  have ap := A p (by unfold zr_ot; omega)
  refine ⟨⟨ab.1.trans l1, ?_, ?_, ab1.1.trans l4, ap.1.trans l5, (congrFun ap.2.1 _).trans l6⟩, ⟨(congrFun ab.2.1 _).trans v1, (congrFun ab.2.1 _).trans v2, (congrFun ab.2.1 _).trans v3, (congrFun ab.2.1 _).trans v4, (congrFun ab.2.1 _).trans v5⟩, fun q hq9 => ?_, fun l hl => ?_, fun l hl => ?_⟩
  · rw [zm_u2l (by omega), ab.2.2]; exact l2
  · rw [zm_u2l (by omega), ab.2.2]; exact l3
  · by_cases e : q = j
    · rw [e]
      refine ⟨zm_u2s, zr_T_same hT (fun l h1 h2 => ⟨rfl, zm_u2r (by omega)⟩), hg, hz⟩
    · obtain ⟨a1, a2, a3, a4⟩ := hq q (by omega)
      refine ⟨?_, zr_T_same a2 (fun l h1 h2 => ?_), ?_, fun k => ?_⟩
      · rw [zm_u2k e, ab1.2.2]; exact a1
      · obtain ⟨e1, e2, e3⟩ := A l (by unfold zr_ot; omega)
        exact ⟨e1, (zm_u2r (by omega)).trans e3⟩
      · rw [(A (b + 20 + 3 * q) (by unfold zr_ot; omega)).2.1]; exact a3
      · rw [(A (b + 20 + 3 * q + 2) (by unfold zr_ot; omega)).2.1]; exact a4 k
  · rw [(A l (by unfold zr_ot; omega)).1]
    exact hf l (by omega)
  · obtain ⟨e1, e2, e3⟩ := hs l hl
    unfold zr_ot at hl
    obtain ⟨f1, f2, f3⟩ := A l (by unfold zr_ot; omega)
    exact ⟨f1.trans e1, f2.trans e2, (zm_u2r (by omega)).trans (f3.trans e3)⟩
theorem zk_S_end {sh s s2 s5 : zm_Sh} {mi i i2 i5 : zm_Mi} {mr m m2 m5 : zm_Mr} {b p jn n : Nat} {stp vo : Int32} (hL : zk_L sh mi mr b p jn n stp vo jn s i m) (hj6 : jn ≤ 6) (h2 : zr_same (zr_ot (b + 2) (b + 2 + 2)) (zm_u1 s (b + 2) (some (0, 3))) (zm_u1 i (b + 2) (fun _ => 0)) (zm_u1 m (b + 2) (fun _ => none)) s2 i2 m2) (hT : zr_T s2 m2 (b + 2) n) (hg : i2 (b + 2) 0 = nI 0) (hz : ∀ k, i2 (b + 2 + 2) k = 0)
    (h5 : zr_same (zr_oR b jn) (zm_u1 s2 (b + 5) (some (0, 1))) (zm_u1 i2 (b + 5) (fun _ => 0)) (zm_u1 (zm_u2 m2 b 7 (some (b + 2))) (b + 5) (fun _ => none)) s5 i5 m5) (hR : zr_R s5 m5 b jn n) (hc : i5 (b + 5) 6 = nI 0) : zk_pS sh mi mr b p jn n stp vo none s5 i5 (zm_u2 m5 b 8 (some (b + 5))) := by
  obtain ⟨⟨l1, l2, l3, l4, l5, l6⟩, ⟨v1, v2, v3, v4, v5⟩, hq, hf, hs⟩ := hL
  have B : ∀ l, zr_oR b jn l → s5 l = s2 l ∧ i5 l = i2 l ∧ ∀ k, ¬ (l = b ∧ k = 7) → m5 l k = m2 l k := fun l hl => by
    obtain ⟨e1, e2, e3⟩ := h5 l hl
    unfold zr_oR at hl
    rw [zm_u1n (by omega)] at e1 e2 e3
    exact ⟨e1, e2, fun k hk => (congrFun e3 k).trans (if_neg hk)⟩
  have b7 : m5 b 7 = some (b + 2) := by
    have e3 := (h5 b (by unfold zr_oR; omega)).2.2
    rw [zm_u1n (by omega)] at e3
    exact (congrFun e3 7).trans zm_u2s
  have A : ∀ l, zr_ot (b + 2) (b + 2 + 2) l → s2 l = s l ∧ i2 l = i l ∧ m2 l = m l := fun l hl => by
    obtain ⟨e1, e2, e3⟩ := h2 l hl
    unfold zr_ot at hl
    rw [zm_u1n (by omega)] at e1 e2 e3
    exact ⟨e1, e2, e3⟩
  have C : ∀ l, l ≠ b → zr_ot (b + 2) (b + 2 + 2) l → zr_oR b jn l → s5 l = s l ∧ i5 l = i l ∧ zm_u2 m5 b 8 (some (b + 5)) l = m l := fun l h0 ha hb => by
    obtain ⟨e1, e2, e3⟩ := A l ha
    obtain ⟨f1, f2, f3⟩ := B l hb
    exact ⟨f1.trans e1, f2.trans e2, (zm_u2r h0).trans ((funext fun k => f3 k (fun q => h0 q.1)).trans e3)⟩
  have ab := A b (by unfold zr_ot; omega)
  have bb := B b (by unfold zr_oR; omega)
  have cb1 := C (b + 1) (by omega) (by unfold zr_ot; omega) (by unfold zr_oR; omega)
  refine ⟨rfl, ⟨bb.1.trans (ab.1.trans l1), ?_, ?_, ?_, zm_u2s, cb1.1.trans l4, fun j hj => (congrFun cb1.2.2 _).trans (hq j hj).1, fun j hj => zr_T_same (hq j hj).2.1 (fun l h1 h2 => ?_), zr_T_same hT (fun l h1 h2 => ?_), zr_R_same hR (fun l h1 _ => ⟨rfl, zm_u2r (by omega)⟩)⟩, ⟨?_, ?_, ?_, ?_, ?_⟩, hc, fun j hj => ⟨?_, fun k => ?_⟩, ?_, fun k => ?_, fun l hl => ?_⟩
  · rw [zm_u2k (by decide), bb.2.2 0 (by omega), ab.2.2]; exact l2
  · rw [zm_u2k (by decide), bb.2.2 6 (by omega), ab.2.2]; exact l3
  · rw [zm_u2k (by decide)]; exact b7
  · have := C l (by omega) (by unfold zr_ot; omega) (by unfold zr_oR; omega)
    exact ⟨this.1, this.2.2⟩
  · obtain ⟨f1, f2, f3⟩ := B l (by unfold zr_oR; omega)
    exact ⟨f1, (zm_u2r (by omega)).trans (funext fun k => f3 k (by omega))⟩
  · rw [bb.2.1, ab.2.1]; exact v1
  · rw [bb.2.1, ab.2.1]; exact v2
  · rw [bb.2.1, ab.2.1]; exact v3
  · rw [bb.2.1, ab.2.1]; exact v4
  · rw [bb.2.1, ab.2.1]; exact v5
  · rw [(C (b + 20 + 3 * j) (by omega) (by unfold zr_ot; omega) (by unfold zr_oR; omega)).2.1]; exact (hq j hj).2.2.1
  · rw [(C (b + 20 + 3 * j + 2) (by omega) (by unfold zr_ot; omega) (by unfold zr_oR; omega)).2.1]; exact (hq j hj).2.2.2 k
  · rw [(B (b + 2) (by unfold zr_oR; omega)).2.1]; exact hg
  · rw [(B (b + 2 + 2) (by unfold zr_oR; omega)).2.1]; exact hz k
  · obtain ⟨e1, e2, e3⟩ := hs l hl
    unfold zr_ot at hl
    obtain ⟨f1, f2, f3⟩ := C l (by omega) (by unfold zr_ot; omega) (by unfold zr_oR; omega)
    exact ⟨f1.trans e1, f2.trans e2, f3.trans e3⟩

set_option maxRecDepth 20000 in
theorem k_initS (sh : zm_Sh) (mi : zm_Mi) (mr : zm_Mr) (b p jn n : Nat) (stp vo : Int32) (hpb : p + 3 < b) (hj : 1 ≤ jn ∧ jn ≤ 6) (hn : n ≤ 48) (hP : zr_P sh mr p jn) (hjn : mi p 0 = nI jn) (ht : sh b = some (0, 2)) (hf : ∀ l, b < l → l < b + 100 → sh l = none) : zz_Con yX2_init (.code yX2_init cX2_init 6 none) 2 40 1260 [.ref b, .ref p, .int (nI n), .int stp, .int vo] sh mi mr (zk_pS sh mi mr b p jn n stp vo) zz_none := by
  refine zz_begin RX2 [(0, .ref b), (1, .ref p), (2, .int (nI n)), (3, .int stp), (4, .int vo)] (by decide) rfl rfl (Nat.le_of_ble_eq_true rfl) rfl ?_
  intro Γ D E ad hX hr hN hT
  refine zz_aload_n hX dX2_init_0 0 rfl rfl ?_
  refine zz_objInit hX zf_M_X2_3 zw_oi zw_oc (by decide) (Nat.le_of_ble_eq_true rfl) dX2_init_1 ?_
  refine zz_aload_n hX dX2_init_4 0 rfl rfl ?_
  refine zz_iconst (v := (-1)) hX dX2_init_5 rfl ?_
  refine zz_putI hX zf_F_X2_9 ht rfl rfl rfl dX2_init_6 ?_
  refine zz_aload_n hX dX2_init_9 0 rfl rfl ?_
  refine zz_iconst (v := nI 0) hX dX2_init_10 rfl ?_
  refine zz_putI hX zf_F_X2_15 ht rfl rfl rfl dX2_init_11 ?_
  refine zz_aload_n hX dX2_init_14 0 rfl rfl ?_
  refine zz_aload_n hX dX2_init_15 1 rfl rfl ?_
  refine zz_putRF hX hN zf_F_X2_18 ht rfl (fun _ => rfl) (fun _ => rfl) dX2_init_16 ?_
  refine zz_aload_n hX dX2_init_19 0 rfl rfl ?_
  refine zz_iload_n hX dX2_init_20 2 rfl rfl ?_
  refine zz_putIF hX hN zf_F_X2_22 ht rfl rfl rfl dX2_init_21 ?_
  refine zz_aload_n hX dX2_init_24 0 rfl rfl ?_
  refine zz_iload_n hX dX2_init_25 3 rfl rfl ?_
  refine zz_putIF hX hN zf_F_X2_25 ht rfl rfl rfl dX2_init_26 ?_
  refine zz_aload_n hX dX2_init_29 0 rfl rfl ?_
  refine zz_iload hX dX2_init_30 4 rfl ?_
  refine zz_putI hX zf_F_X2_28 ht rfl rfl rfl dX2_init_32 ?_
  refine zz_aload_n hX dX2_init_35 0 rfl rfl ?_
  refine zz_aload_n hX dX2_init_36 1 rfl rfl ?_
  refine zz_getI (x := nI jn) hX zf_F_X2_31 hP.1 rfl (((zm_u2l (by omega))).trans (((zm_u2l (by omega))).trans (((zm_u2l (by omega))).trans (((zm_u2l (by omega))).trans (((zm_u2l (by omega))).trans (hjn)))))) dX2_init_37 ?_
  refine zz_newq hX (b + 1) (hf _ (by omega) (by omega)) (kd := 6) (n := jn) (by decide) (by decide) (List.Mem.tail _ (List.Mem.tail _ (List.Mem.head _))) rfl zw_cl_X2_36 rfl (by omega) (by omega) (by omega) dX2_init_40 ?_
  refine zz_putRF hX hN zf_F_X2_38 ((zm_u1n (by omega)).trans ht) rfl (fun _ => rfl) (fun _ => rfl) dX2_init_43 ?_
  refine zz_iconst (v := nI 0) hX dX2_init_46 rfl ?_
  refine zz_istore (ls' := [(0, .ref b), (1, .ref p), (2, .int (nI n)), (3, .int stp), (4, .int vo), (5, .int (nI 0))]) hX dX2_init_47 (Nat.le_of_ble_eq_true rfl) rfl ?_
  have hL0 : zk_L sh mi mr b p jn n stp vo 0 (zm_u1 sh (b + 1) (some (6, jn))) (zm_u1 (zm_u2 (zm_u2 (zm_u2 (zm_u2 (zm_u2 mi b 4 (-1)) b 5 (nI 0)) b 1 (nI n)) b 2 stp) b 3 vo) (b + 1) (fun _ => 0)) (zm_u2 (zm_u1 (zm_u2 mr b 0 (some p)) (b + 1) (fun _ => none)) b 6 (some (b + 1))) := ⟨⟨((zm_u1n (by omega)).trans ht), ((zm_u2k (by decide)).trans ((congrFun (zm_u1n (by omega)) _).trans zm_u2s)), zm_u2s, zm_u1s, ((zm_u1n (by omega)).trans hP.1), (((congrFun (zm_u1n (by omega)) _)).trans (((zm_u2l (by omega))).trans (((zm_u2l (by omega))).trans (((zm_u2l (by omega))).trans (((zm_u2l (by omega))).trans (((zm_u2l (by omega))).trans (hjn)))))))⟩, ⟨(((congrFun (zm_u1n (by omega)) _)).trans (((zm_u2k (by decide))).trans (((zm_u2k (by decide))).trans (zm_u2s)))), (((congrFun (zm_u1n (by omega)) _)).trans (((zm_u2k (by decide))).trans (zm_u2s))), (((congrFun (zm_u1n (by omega)) _)).trans (zm_u2s)), (((congrFun (zm_u1n (by omega)) _)).trans (((zm_u2k (by decide))).trans (((zm_u2k (by decide))).trans (((zm_u2k (by decide))).trans (((zm_u2k (by decide))).trans (zm_u2s)))))), (((congrFun (zm_u1n (by omega)) _)).trans (((zm_u2k (by decide))).trans (((zm_u2k (by decide))).trans (((zm_u2k (by decide))).trans (zm_u2s)))))⟩, (fun q hq => absurd hq (Nat.not_lt_zero _)), (fun l hl => ((zm_u1n (by omega)).trans (hf l (by omega) (by omega)))), (fun l hl => by unfold zr_ot at hl; exact ⟨((zm_u1n (by omega))), (((zm_u1n (by omega))).trans (((zm_u2r (by omega))).trans (((zm_u2r (by omega))).trans (((zm_u2r (by omega))).trans (((zm_u2r (by omega))).trans ((zm_u2r (by omega)))))))), (((zm_u2r (by omega))).trans (((zm_u1n (by omega))).trans ((zm_u2r (by omega)))))⟩)⟩
  refine zz_widen (k := 1 + 3 * 0) (n := 6 + 99 * 0) (by omega) (by omega) ?_
  have L49 : ∀ (k49 : Nat) (j : Nat) (sj : zm_Sh) (ij : zm_Mi) (mj : zm_Mr), jn - j < k49 → (j ≤ jn) → (zk_L sh mi mr b p jn n stp vo j sj ij mj) → zz Γ (D, E, 6, ad, sh) (zz_End Γ (D, E, 6, ad, sh) (zk_pS sh mi mr b p jn n stp vo) zz_none 40 1260) (1 + 3 * j) (6 + 99 * j) sj ij mj 49 [(0, .ref b), (1, .ref p), (2, .int (nI n)), (3, .int stp), (4, .int vo), (5, .int (nI j))] [] := by
    intro k49
    induction k49 with
    | zero => intro j sj ij mj hk49; exact absurd hk49 (Nat.not_lt_zero _)
    | succ k49 ih49 =>
      intro j sj ij mj hk49 hj9 hL
      obtain ⟨⟨g1a, g1b, g1c, g1d, g1e, g1f⟩, g2, g3, g4, g5⟩ := id hL
      refine zz_iload hX dX2_init_49 5 rfl ?_
      refine zz_aload_n hX dX2_init_51 1 rfl rfl ?_
      refine zz_getI (x := nI jn) hX zf_F_X2_31 g1e rfl (g1f) dX2_init_52 ?_
      refine zz_icmp_geN hX (by omega) (by omega) 80 dX2_init_55 (by decide) (fun c55 => ?_) (fun c55 => ?_)
      · skip
        have ejn : j = jn := by omega
        rw [ejn] at hL
        refine zz_aload_n hX dX2_init_80 0 rfl rfl ?_
        refine zz_new hX (b + 2) (g4 _ (by omega)) zf_CL3 zw_cl_X2_36 zw_inst_X3 zw_init_X3 (by omega) (by omega) dX2_init_81 ?_
        refine zz_dup hX dX2_init_84 rfl ?_
        refine zz_iload_n hX dX2_init_85 2 rfl rfl ?_
        refine zz_iconst (v := nI 0) hX dX2_init_86 rfl ?_
        refine zz_callI hX zf_M_X2_42 (b := b + 2) (As := [.int (nI n), .int (nI 0)]) (st := [.ref (b + 2), .ref b]) (k_initT (zm_u1 sj (b + 2) (some (0, 3))) (zm_u1 ij (b + 2) (fun _ => 0)) (zm_u1 mj (b + 2) (fun _ => none)) (b + 2) n 0 (by decide) hn zm_u1s (fun l h1 h2 => (zm_u1n (by omega)).trans (g4 l (by omega)))) rfl rfl (by decide) (Nat.le_of_ble_eq_true rfl) (by omega) (by omega) dX2_init_87 ?_ (fun _ _ _ _ h _ => h.elim)
        rintro v9 s87 i87 m87 ⟨rfl, hT87, hg87, hz87, hs87⟩ -
        refine zz_putRF hX hN zf_F_X2_45 ((hs87 _ (by unfold zr_ot; omega)).1.trans ((zm_u1n (by omega)).trans g1a)) rfl (fun _ => rfl) (fun _ => rfl) dX2_init_90 ?_
        refine zz_aload_n hX dX2_init_93 0 rfl rfl ?_
        refine zz_new hX (b + 5) ((hs87 _ (by unfold zr_ot; omega)).1.trans ((zm_u1n (by omega)).trans (g4 _ (by omega)))) zf_CL1 zw_cl_X2_49 zw_inst_X1 zw_init_X1 (by omega) (by omega) dX2_init_94 ?_
        refine zz_dup hX dX2_init_97 rfl ?_
        refine zz_aload_n hX dX2_init_98 1 rfl rfl ?_
        refine zz_getI (x := nI jn) hX zf_F_X2_31 ((zm_u1n (by omega)).trans ((hs87 _ (by unfold zr_ot; omega)).1.trans ((zm_u1n (by omega)).trans g1e))) rfl (((congrFun (zm_u1n (by omega)) _)).trans (((congrFun ((hs87 _ (by unfold zr_ot; omega)).2.1.trans (zm_u1n (by omega))) _).trans g1f))) dX2_init_99 ?_
        refine zz_iload_n hX dX2_init_102 2 rfl rfl ?_
        refine zz_callI hX zf_M_X2_51 (b := b + 5) (As := [.int (nI jn), .int (nI n)]) (st := [.ref (b + 5), .ref b]) (k_initR (zm_u1 s87 (b + 5) (some (0, 1))) (zm_u1 i87 (b + 5) (fun _ => 0)) (zm_u1 (zm_u2 m87 b 7 (some (b + 2))) (b + 5) (fun _ => none)) b jn n hj.2 hn zm_u1s (fun l hl => (zm_u1n (by omega)).trans ((hs87 l (by unfold zr_ot; omega)).1.trans ((zm_u1n (by omega)).trans (g4 l (by omega)))))) rfl rfl (by decide) (Nat.le_of_ble_eq_true rfl) (by omega) (by omega) dX2_init_103 ?_ (fun _ _ _ _ h _ => h.elim)
        rintro v9 s103 i103 m103 ⟨rfl, hR103, hc103, hs103⟩ -
        refine zz_putRF hX hN zf_F_X2_54 ((hs103 _ (by unfold zr_oR; omega)).1.trans ((zm_u1n (by omega)).trans ((hs87 _ (by unfold zr_ot; omega)).1.trans ((zm_u1n (by omega)).trans g1a)))) rfl (fun _ => rfl) (fun _ => rfl) dX2_init_106 ?_
        refine zz_vret hX hr (by omega) (by omega) dX2_init_109 ?_
        exact zk_S_end hL hj.2 hs87 hT87 hg87 hz87 hs103 hR103 hc103
      · skip
        refine zz_aload_n hX dX2_init_58 0 rfl rfl ?_
        refine zz_getR (y := (b + 1)) hX zf_F_X2_38.r g1a rfl g1c dX2_init_59 ?_
        refine zz_iload hX dX2_init_62 5 rfl ?_
        refine zz_new hX (b + 20 + 3 * j) (g4 _ (by omega)) zf_CL3 zw_cl_X2_36 zw_inst_X3 zw_init_X3 (by omega) (by omega) dX2_init_64 ?_
        refine zz_dup hX dX2_init_67 rfl ?_
        refine zz_iload_n hX dX2_init_68 2 rfl rfl ?_
        refine zz_iconst (v := nI 1) hX dX2_init_69 rfl ?_
        refine zz_callI hX zf_M_X2_42 (b := b + 20 + 3 * j) (As := [.int (nI n), .int (nI 1)]) (st := [.ref (b + 20 + 3 * j), .int (nI j), .ref (b + 1)]) (k_initT (zm_u1 sj (b + 20 + 3 * j) (some (0, 3))) (zm_u1 ij (b + 20 + 3 * j) (fun _ => 0)) (zm_u1 mj (b + 20 + 3 * j) (fun _ => none)) (b + 20 + 3 * j) n 1 (by decide) hn zm_u1s (fun l h1 h2 => (zm_u1n (by omega)).trans (g4 l (by omega)))) rfl rfl (by decide) (Nat.le_of_ble_eq_true rfl) (by omega) (by omega) dX2_init_70 ?_ (fun _ _ _ _ h _ => h.elim)
        rintro v9 s70 i70 m70 ⟨rfl, hT70, hg70, hz70, hs70⟩ -
        refine zz_aast hX ((hs70 _ (by unfold zr_ot; omega)).1.trans ((zm_u1n (by omega)).trans g1d)) (by decide) (by decide) rfl rfl hT70.1 j rfl (by omega) (by omega) dX2_init_73 ?_
        refine zz_iinc (v := nI (j + 1)) (ls' := [(0, .ref b), (1, .ref p), (2, .int (nI n)), (3, .int stp), (4, .int vo), (5, .int (nI (j + 1)))]) hX dX2_init_74 5 rfl (nI_1 _) (Nat.le_of_ble_eq_true rfl) rfl ?_
        refine zz_goto hX 49 dX2_init_77 (by decide) ?_
        refine zz_widen (k := 1 + 3 * (j + 1)) (n := 6 + 99 * (j + 1)) (by omega) (by omega) ?_
        exact ih49 (j + 1) s70 i70 (zm_u2 m70 (b + 1) j (some (b + 20 + 3 * j))) (by omega) (by omega) (zk_L_step hL hpb c55 hj.2 hs70 hT70 hg70 hz70)
  exact L49 ((jn - 0 + 1)) 0 (zm_u1 sh (b + 1) (some (6, jn))) (zm_u1 (zm_u2 (zm_u2 (zm_u2 (zm_u2 (zm_u2 mi b 4 (-1)) b 5 (nI 0)) b 1 (nI n)) b 2 stp) b 3 vo) (b + 1) (fun _ => 0)) (zm_u2 (zm_u1 (zm_u2 mr b 0 (some p)) (b + 1) (fun _ => none)) b 6 (some (b + 1))) (by omega) (Nat.zero_le _) hL0

