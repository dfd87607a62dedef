/-! ===== of whole: the state's order behind every call ===== -/
theorem zt_pj_w {S : zS} (hW : zW S) {p i j f : Nat} {d : Int32} (hp : p < zv_np S) (hj : j < 6) (hd : zv_in d 0 359) : zW (zt_pj S p i j f d) := by
  unfold zt_pj
  generalize S 3 (6 * p + j) + zs_abs (zs_sw (S 2 (6 * p + j)) d) = x
  have w1 : zW (zm_u2 S 3 (6 * p + j) x) := zW_set hW (by unfold zs_str; omega) (fun h => by omega) (fun _ => by omega) (fun h => by omega) (fun h => by omega) (fun h => by omega) (fun h => by omega) (by omega) (fun h => by omega)
  have hn1 : 6 * p + j < 6 * zv_np (zm_u2 S 3 (6 * p + j) x) := by
    show 6 * p + j < 6 * zn (zm_u2 S 3 (6 * p + j) x 0 0)
    rw [show zm_u2 S 3 (6 * p + j) x 0 = S 0 from zm_u2r (by decide)]
    have : 6 * p + j < 6 * zv_np S := by omega
    exact this
  have w2 : zW (zm_u2 (zm_u2 S 3 (6 * p + j) x) 2 (6 * p + j) d) := zW_set w1 (by unfold zs_str; omega) (fun h => ⟨hd, hn1⟩) (fun h => by omega) (fun h => by omega) (fun h => by omega) (fun h => by omega) (fun h => by omega) (by omega) (fun h => by omega)
  exact zW_set w2 (by unfold zs_str; omega) (fun h => by omega) (fun h => by omega) (fun h => by omega) (fun h => by omega) (fun h => by omega) (fun h => by omega) (by omega) (fun h => by omega)
theorem zt_pose_w {S : zS} (hW : zW S) {p i f : Nat} (hp : p < zv_np S) (hf : f < 48) : ∀ j, j ≤ 6 → zW (zt_pose S p i f j)
  | 0, _ => hW
  | j + 1, h => by
    have ih := zt_pose_w hW (i := i) hp hf j (by omega)
    refine zt_pj_w ih ?_ (by omega) (zp_deg_in hW i j f hf)
    show p < zn (zt_pose S p i f j 0 0)
    rw [zt_pose_r S p i f (by decide) (by decide) (by decide) j]
    exact hp
theorem zt_hj_w {S : zS} (hW : zW S) {i f : Nat} (hi : i < zv_ns S) (hf : f = zv_sk S i) (hk : f < zv_fr S i) : ∀ j, zW (zt_hj S i f j)
  | 0 => by subst hf; exact zW_nf hW hi hk (by omega)
  | j + 1 => zW_set (zt_hj_w hW hi hf hk j) (by unfold zs_str; omega) (fun h => by omega) (fun h => by omega) (fun h => by omega) (fun h => by omega) (fun h => by omega) (fun h => by omega) (by omega) (fun h => by omega)
theorem zt_want_w {S : zS} (hW : zW S) {i : Nat} (hi : i < zv_ns S) : zW (zt_want S i) := by
  unfold zt_want
  by_cases h : zp_want S i (zv_sk S i) = -1
  · rw [if_pos h]; exact hW
  · rw [if_neg h]
    have hm9 := zs_ix_zn ((zp_want_in hW hi (zv_sk S i)).resolve_left h) (by omega)
    have b2 := (hW.2.2.1.2.2.1 i hi).2.1
    exact zW_set hW (by unfold zs_str; omega) (fun h => by omega) (fun h => by omega) (fun _ => by omega) (fun h => by omega) (fun h => by omega) (fun h => by omega) (by omega) (fun h => by omega)
theorem zt_pz_w {S : zS} (hW : zW S) {i : Nat} (hi : i < zv_ns S) (hk : zv_sk S i < zv_fr S i) : zW (zt_pz S i) := by
  obtain ⟨b1, b2, b3, b4, b5, b6⟩ := hW.2.2.1.2.2.1 i hi
  have hj6 := (hW.1.2.2.1 _ b2).2.2
  have w := zW_nf (r := 23) (x := zp_mouth S i (zv_sk S i)) hW hi hk (by omega)
  refine zt_pose_w w ?_ (by omega) _ hj6
  show zv_pu S i < zn (zm_u2 S 23 (48 * i + zv_sk S i) (zp_mouth S i (zv_sk S i)) 0 0)
  rw [show zm_u2 S 23 (48 * i + zv_sk S i) (zp_mouth S i (zv_sk S i)) 0 = S 0 from zm_u2r (by decide)]
  exact b2
theorem zW_nfc {S T : zS} (hW : zW T) {i r : Nat} {x : Int32} (e9 : T 9 = S 9) (e11 : T 11 = S 11) (e15 : T 15 = S 15) (hi : i < zv_ns S) (hk : zv_sk S i < zv_fr S i) (hr : 22 < r ∧ r < 28) : zW (zm_u2 T r (48 * i + zv_sk S i) x) := by
  have hs : zv_sk T i = zv_sk S i := by unfold zv_sk; rw [e15]
  have h := zW_nf (x := x) (i := i) hW (by show i < zn (T 9 0); rw [e9]; exact hi) (by show zn (T 15 i) < zn (T 11 i); rw [e15, e11]; exact hk) hr
  rw [hs] at h
  exact h
/-! ===== the law's own: catching, the two sides beside each other ===== -/
section ZCA
variable {Γ : zz_C} {G : zz_G} {Q : State → Prop} {cells slots : Nat} {sh : zm_Sh} {mi : zm_Mi} {mr : zm_Mr} {pc : Nat} {ls : List (Nat × Value)} {st : List Value} {own : String} {cc : ByteArray} {d mc ms : Nat}
/-- caught by the table's row (a, b, h, k) behind the rows pre; the handler puts it into the local i -/
theorem zz_catch (X : zz_X Γ G own cc d mc ms) {hh pre suf : List (Nat × Nat × Nat × Nat)} (hT : (zz_c Γ).exceptionTable.toList = tableOf hh) {a b h9 k : Nat} (hs : hh = pre ++ (a, b, h9, k) :: suf) {En : String} (hpre : ∀ z ∈ pre, ∃ nm, z.2.2.2 ≠ 0 ∧ Cond.classLink own z.2.2.2 nm ∈ lw_tbl ∧ (En, nm) ∈ zk_nc) (hx : a ≤ pc ∧ pc < b) (h0 : k ≠ 0)
    (hlink : Cond.classLink own k En ∈ lw_tbl) (hcast : Cond.castable En En ∈ lw_tbl) {i len : Nat} (hds : (∃ q : Fin 4, (q : Nat) = i ∧ decode cc h9 = .ok (.astore_n q, 1) ∧ len = 1) ∨ (decode cc h9 = .ok (.astore i, 2) ∧ len = 2)) (hn : i < G.2.2.1) (kk : zz Γ G Q cells slots sh mi mr (h9 + len) [] []) : zzx Γ G Q cells slots sh mi mr pc ls st En := by
  intro ad H locs la q ce h h1 h2 h3
  have K := X.2.2.2.2.2.2.1
  have hsp : (zz_c Γ).exceptionTable.toList = (pre.map fun q => (⟨q.1, q.2.1, q.2.2.1, q.2.2.2⟩ : ExceptionTableEntry)) ++ (⟨a, b, h9, k⟩ : ExceptionTableEntry) :: (suf.map fun q => (⟨q.1, q.2.1, q.2.2.1, q.2.2.2⟩ : ExceptionTableEntry)) := by
    rw [hT, hs]
    unfold tableOf
    rw [List.map_append, List.map_cons]
  have hz : zz_H Γ G sh mi mr [] [] ad H locs la := ⟨h.1, h.2.1, h.2.2.1, fun _ hq => (nomatch hq), zm_on, h.2.2.2.2.2.1, h.2.2.2.2.2.2.1, fun _ hq => (nomatch hq)⟩
  refine vx_catch X.2.2.2.1 _ ⟨a, b, h9, k⟩ _ hsp (fun z hz9 => Or.inr ?_) ?_ h0 (zk_w K hlink rfl) (zk_w K hcast rfl) h1 h2 h3 ?_
  · obtain ⟨w, hw, rfl⟩ := List.mem_map.mp hz9
    obtain ⟨nm, g0, g1, g2⟩ := hpre w hw
    exact ⟨g0, nm, zk_w K g1 rfl, K.2.2.2.2.2.2.2.1 _ g2⟩
  · unfold covers
    simp [hx.1, hx.2]
  · have k2 : ∀ la' : Array Slot, lv_has la' G.2.2.1 [(i, Value.ref q)] → zz_W Γ H locs cells slots Q (F0 (zz_m Γ) (h9 + len) la' []) := fun la' hl => kk ad H locs la' ⟨h.1, h.2.1, h.2.2.1, fun _ hq => (nomatch hq), zm_on, hl.1, hl.2.1, fun _ hq => (nomatch hq)⟩
    rcases hds with ⟨q4, e4, hd4, rfl⟩ | ⟨hd4, rfl⟩
    · exact lv_astore_n X.1 X.2.1 hd4 e4 hz.2.2.2.2.2 hn rfl k2
    · exact lv_astore X.1 X.2.1 hd4 hz.2.2.2.2.2 hn rfl k2
theorem zz_beginH {y : MethodName} {bytes : ByteArray} {maxL : Nat} {ret : Option FieldType} {hh : List (Nat × Nat × Nat × Nat)} {d mc ms : Nat} {args : List Value} {sh : zm_Sh} {mi : zm_Mi} {mr : zm_Mr} {Qr : Option Value → zm_Sh → zm_Mi → zm_Mr → Prop} {Qx : String → zm_Sh → zm_Mi → zm_Mr → Prop} (own : String) (ls : List (Nat × Value))
    (hy : plainName y.cls = true) (ho : y.cls = own) (hc1 : (args.all fun v => decide (v.category = 1)) = true) (hlen : args.length ≤ maxL) (hls : zz_args 0 args = ls)
    (body : ∀ (Γ : zz_C) (D : zz_D) (E : zz_E) (ad : Nat → Nat), zz_X Γ (D, E, maxL, ad, sh) own bytes d mc ms → (zz_h Γ).sig.returnType = ret → (zz_c Γ).exceptionTable.toList = tableOf hh →
      zz Γ (D, E, maxL, ad, sh) (zz_End Γ (D, E, maxL, ad, sh) Qr Qx mc ms) 0 0 sh mi mr 0 ls []) : zz_Con y (.codeWith y bytes maxL ret hh) d mc ms args sh mi mr Qr Qx := by
  subst hls; subst ho
  exact zz_introH hy (fun v hv => of_decide_eq_true (List.all_eq_true.mp hc1 v hv)) hlen body
end ZCA
def zq_w (A B C : Prop) (kI kA kS a : Int32) (S S' : zS) (sh : zm_Sh) (mi : zm_Mi) (mr : zm_Mr) : Option Value → zm_Sh → zm_Mi → zm_Mr → Prop := fun v s i m => ∃ k, v = some (.int k) ∧ ((A ∧ B ∧ C ∧ k = nI 0 ∧ i 8 0 = a ∧ zR S' s i m) ∨ (¬ A ∧ k = kI ∧ zR S s i m) ∨ (A ∧ ¬ B ∧ k = kA ∧ zR S s i m) ∨ (A ∧ B ∧ ¬ C ∧ k = kS ∧ zR S s i m)) ∧ s 8 = some (3, 1) ∧ ∀ l, l < 2 ∨ (9 ≤ l ∧ l < 200) → s l = sh l ∧ i l = mi l ∧ m l = mr l
section ZSB
variable {S : zS} {sh s : zm_Sh} {mi i : zm_Mi} {mr m : zm_Mr}
theorem zR_same (hW : zW S) (h : zR S sh mi mr) (e : ∀ l, zr_cl l → s l = sh l ∧ i l = mi l ∧ m l = mr l) : zR S s i m := by
  obtain ⟨hm, hp, ⟨hv1, hv2⟩, hs, hf⟩ := h
  have n1 := hW.1.2.1
  have n2 := hW.2.1.2.1
  have n3 := hW.2.2.1.2.1
  have E : ∀ l, (2 ≤ l ∧ l ≤ 7) ∨ 200 ≤ l → s l = sh l ∧ i l = mi l ∧ m l = mr l := e
  have a2 := E 2 (by omega)
  have a3 := E 3 (by omega)
  have a4 := E 4 (by omega)
  have a5 := E 5 (by omega)
  refine ⟨?_, fun p hp9 => zR_p_same (hp p hp9) (fun l h1 h2 => E l (by omega)) (congrFun a3.2.2 _) rfl rfl rfl rfl, ⟨fun v hv => (congrFun a4.2.2 _).trans (hv1 v hv), fun v hv => zR_v_same (hv2 v hv) (fun l h1 h2 => E l (by omega)) rfl rfl rfl⟩, fun a ha => ?_, fun l h1 h2 => (E l (by omega)).1.trans (hf.1 l h1 h2), fun l h1 h2 => (E l (by omega)).1.trans (hf.2.1 l h1 h2), fun l h1 => (E l (by omega)).1.trans (hf.2.2 l h1)⟩
  · obtain ⟨m1, m2, m3, m4, m5, m6, m7, m8, m9, m10, m11, m12, m13, m14, m15, m16, m17, m18, m19, m20⟩ := hm
    have a6 := E 6 (by omega)
    have a7 := E 7 (by omega)
    exact ⟨a2.1.trans m1, (congrFun a2.2.2 _).trans m2, (congrFun a2.2.2 _).trans m3, (congrFun a2.2.2 _).trans m4, (congrFun a2.2.2 _).trans m5, (congrFun a2.2.2 _).trans m6, (congrFun a2.2.2 _).trans m7, a3.1.trans m8, a4.1.trans m9, a5.1.trans m10, a6.1.trans m11, a7.1.trans m12, (congrFun a2.2.1 _).trans m13, (congrFun a2.2.1 _).trans m14, (congrFun a2.2.1 _).trans m15, (congrFun a2.2.1 _).trans m16, (congrFun a2.2.1 _).trans m17, (congrFun a2.2.1 _).trans m18, fun q hq => (congrFun a6.2.1 _).trans (m19 q hq), fun q hq => (congrFun a7.2.1 _).trans (m20 q hq)⟩
  · have hj6 := (hW.1.2.2.1 _ (hW.2.2.1.2.2.1 a ha).2.1).2.2
    exact zR_s_same hj6 (hs a ha) (fun l h1 h2 => E l (by omega)) (congrFun a5.2.2 _) rfl rfl rfl rfl rfl rfl rfl rfl (fun _ _ => rfl)
end ZSB
/-! the state's order behind every call -/
theorem zW_row {S T : zS} (hW : zW S) {r : Nat} (hT : ∀ q, q ≠ r → T q = S q) (hr : r = 18 ∨ r = 19) (hk : zW_k T) : zW T := by
  have E : ∀ q, q ≠ 18 ∧ q ≠ 19 → T q = S q := fun q hq => hT q (by omega)
  obtain ⟨hWp, hWv, hWs, hWk, hWr, hWf⟩ := hW
  refine ⟨?_, ?_, ?_, hk, ?_, ?_⟩
  · unfold zW_p zv_np zv_jn
    rw [E 0 (by omega), E 1 (by omega), E 2 (by omega), E 3 (by omega), E 4 (by omega)]
    exact hWp
  · unfold zW_v zv_nv zv_sc
    rw [E 5 (by omega), E 6 (by omega), E 7 (by omega), E 8 (by omega)]
    exact hWv
  · unfold zW_s zv_ns zv_pu zv_np zv_fr zv_st zv_nv zv_sk
    rw [E 0 (by omega), E 5 (by omega), E 9 (by omega), E 10 (by omega), E 11 (by omega), E 12 (by omega), E 13 (by omega), E 14 (by omega), E 15 (by omega), E 16 (by omega)]
    exact hWs
  · unfold zW_r zv_ns zv_sk
    rw [E 9 (by omega), E 15 (by omega), E 24 (by omega), E 26 (by omega)]
    exact hWr
  · unfold zW_f zv_nf zv_fl zv_ns
    rw [E 9 (by omega), E 17 (by omega), E 28 (by omega), E 29 (by omega)]
    exact hWf
theorem zW_key {S : zS} (hW : zW S) {i j f : Nat} {d : Int32} (hi : i < zv_ns S) (hj : j < zv_jn S (zv_pu S i)) (hf : f < zv_fr S i) (hd : zv_in d 0 359) : zW (zm_u2 S 18 (48 * (6 * i + j) + f) d) := by
  have hj6 := (hW.1.2.2.1 _ (hW.2.2.1.2.2.1 i hi).2.1).2.2
  have hfr := (hW.2.2.1.2.2.1 i hi).2.2.2.2.1
  refine zW_row hW (r := 18) (fun q hq => zm_u2r hq) (Or.inl rfl) ?_
  obtain ⟨k1, k2, k3, k4, k5, k6⟩ := hW.2.2.2.1
  have e9 : zm_u2 S 18 (48 * (6 * i + j) + f) d 9 = S 9 := zm_u2r (by decide)
  have e11 : zm_u2 S 18 (48 * (6 * i + j) + f) d 11 = S 11 := zm_u2r (by decide)
  have e19 : zm_u2 S 18 (48 * (6 * i + j) + f) d 19 = S 19 := zm_u2r (by decide)
  unfold zW_k zv_ns zv_fr
  rw [e9, e11, e19]
  refine ⟨fun x => ?_, fun x hx => ?_, fun a b c ha hb h1 h2 => ?_, k4, k5, k6⟩
  · by_cases e : x = 48 * (6 * i + j) + f
    · rw [e, zm_u2s]; exact Or.inr hd
    · rw [zm_u2k e]; exact k1 x
  · have hx2 : 288 * zv_ns S ≤ x := hx
    rw [zm_u2k (by omega)]; exact k2 x hx
  · have hc : zv_fr S a ≤ c := h1
    rw [zm_u2k (fun q => by
      have : a = i := by omega
      rw [this] at hc
      omega)]
    exact k3 a b c ha hb h1 h2
theorem zW_cam {S : zS} (hW : zW S) {i f : Nat} {d : Int32} (hi : i < zv_ns S) (hf : f < zv_fr S i) (hd : zv_in d (-999) 999) : zW (zm_u2 S 19 (48 * i + f) d) := by
  have hfr := (hW.2.2.1.2.2.1 i hi).2.2.2.2.1
  refine zW_row hW (r := 19) (fun q hq => zm_u2r hq) (Or.inr rfl) ?_
  obtain ⟨k1, k2, k3, k4, k5, k6⟩ := hW.2.2.2.1
  have e9 : zm_u2 S 19 (48 * i + f) d 9 = S 9 := zm_u2r (by decide)
  have e11 : zm_u2 S 19 (48 * i + f) d 11 = S 11 := zm_u2r (by decide)
  have e18 : zm_u2 S 19 (48 * i + f) d 18 = S 18 := zm_u2r (by decide)
  unfold zW_k zv_ns zv_fr
  rw [e9, e11, e18]
  refine ⟨k1, k2, k3, fun x => ?_, fun x hx => ?_, fun a c ha h1 h2 => ?_⟩
  · by_cases e : x = 48 * i + f
    · rw [e, zm_u2s]; exact Or.inr hd
    · rw [zm_u2k e]; exact k4 x
  · have hx2 : 48 * zv_ns S ≤ x := hx
    rw [zm_u2k (by omega)]; exact k5 x hx
  · have hc : zv_fr S a ≤ c := h1
    rw [zm_u2k (fun q => by
      have : a = i := by omega
      rw [this] at hc
      omega)]
    exact k6 a c ha h1 h2
theorem zW_less {S : zS} (hW : zW S) {i k : Nat} (hi : i < zv_ns S) (hk : k < zv_sk S i) : zW (zm_u2 S 15 i (nI k)) := by
  obtain ⟨hWp, hWv, ⟨s0, s1, s2, s3⟩, hWk, hWr, hWf⟩ := hW
  obtain ⟨b1, b2, b3, b4, b5, b6, b7, b8, b9, b10, b11, b12, b13⟩ := s2 i hi
  have E : ∀ q, q ≠ 15 → zm_u2 S 15 i (nI k) q = S q := fun q hq => zm_u2r hq
  have hzn : zn (nI k) = k := nI_clamp (n := k) (by omega)
  have hsk : ∀ a, (a ≠ i → zm_u2 S 15 i (nI k) 15 a = S 15 a) ∧ (a = i → zm_u2 S 15 i (nI k) 15 a = nI k) := fun a => ⟨fun e => zm_u2k e, fun e => by rw [e]; exact zm_u2s⟩
  generalize zm_u2 S 15 i (nI k) = T at *
  refine ⟨?_, ?_, ?_, ?_, ?_, ?_⟩
  · unfold zW_p zv_np zv_jn
    rw [E 0 (by omega), E 1 (by omega), E 2 (by omega), E 3 (by omega), E 4 (by omega)]
    exact hWp
  · unfold zW_v zv_nv zv_sc
    rw [E 5 (by omega), E 6 (by omega), E 7 (by omega), E 8 (by omega)]
    exact hWv
  · unfold zW_s zv_ns zv_pu zv_np zv_fr zv_st zv_nv zv_sk
    rw [E 0 (by omega), E 5 (by omega), E 9 (by omega), E 10 (by omega), E 11 (by omega), E 12 (by omega), E 13 (by omega), E 14 (by omega), E 16 (by omega)]
    refine ⟨s0, s1, fun a h => ?_, fun a h => ?_⟩
    · obtain ⟨c1, c2, c3, c4, c5, c6, c7, c8, c9, c10, c11, c12, c13⟩ := s2 a h
      by_cases e : a = i
      · rw [(hsk a).2 e, hzn]
        have hkf : k ≤ zn (S 11 a) := by rw [e]; show k ≤ zv_fr S i; omega
        exact ⟨c1, c2, c3, c4, c5, c6, c7, c8, c9, c10, rfl, hkf, fun _ => by rw [e]; exact b13 (by omega)⟩
      · rw [(hsk a).1 e]
        exact ⟨c1, c2, c3, c4, c5, c6, c7, c8, c9, c10, c11, c12, c13⟩
    · have hi2 : i < zn (S 9 0) := hi
      rw [(hsk a).1 (by omega)]
      exact s3 a h
  · unfold zW_k zv_ns zv_fr
    rw [E 9 (by omega), E 11 (by omega), E 18 (by omega), E 19 (by omega)]
    exact hWk
  · intro a f ha hf
    have ha2 : a < zn (T 9 0) := ha
    have hf2 : f < zn (T 15 a) := hf
    rw [E 9 (by omega)] at ha2
    rw [E 24 (by omega), E 26 (by omega)]
    refine hWr a f ha2 ?_
    by_cases e : a = i
    · rw [(hsk a).2 e, hzn] at hf2
      rw [e]; omega
    · rw [(hsk a).1 e] at hf2; exact hf2
  · unfold zW_f zv_nf zv_fl zv_ns
    rw [E 9 (by omega), E 17 (by omega), E 28 (by omega), E 29 (by omega)]
    exact hWf
theorem zW_0 : zW zt_0 := by
  have z0 : zv_np zt_0 = 0 := by decide
  have z5 : zv_nv zt_0 = 0 := by decide
  have z9 : zv_ns zt_0 = 0 := by decide
  have z28 : zv_nf zt_0 = 0 := by decide
  have z6 : ∀ v, zv_sc zt_0 v = 0 := fun v => by show zn (0 : Int32) = 0; decide
  have i0 : zv_in 0 0 359 := by unfold zv_in; rw [Int32.toInt_zero]; omega
  refine ⟨⟨by decide, by omega, fun p hp => by omega, fun a => i0, fun a _ => ⟨rfl, rfl⟩, fun a _ => rfl⟩, ⟨by decide, by omega, fun v _ => ?_, fun v _ _ => rfl, fun v k _ hk => ?_⟩, ⟨by decide, by omega, fun i hi => by omega, fun i _ => ⟨rfl, rfl⟩⟩, ⟨fun x => Or.inl rfl, fun x _ => rfl, fun i j f hi => by omega, fun x => Or.inl rfl, fun x _ => rfl, fun i f hi => by omega⟩, fun i f hi => by omega, ⟨by decide, by omega, fun k hk => by omega, fun a b ha => by omega, fun a => Or.inl rfl⟩⟩
  · rw [z6]; exact ⟨rfl, by omega⟩
  · rw [z6] at hk; omega
theorem zW_voice {S : zS} (hW : zW S) (hn : zv_nv S < 6) : zW (zt_voice S) := by
  obtain ⟨hWp, ⟨v0, v1, v2, v3, v4⟩, ⟨s0, s1, s2, s3⟩, hWk, hWr, hWf⟩ := hW
  have hnv : zv_nv (zt_voice S) = zv_nv S + 1 := by show zn (zm_u2 S 5 0 (nI (zv_nv S + 1)) 5 0) = _; rw [zm_u2s]; exact nI_clamp (n := zv_nv S + 1) (by omega)
  have E : ∀ q, q ≠ 5 → zt_voice S q = S q := fun q hq => zm_u2r hq
  have e50 : zt_voice S 5 0 = nI (zv_nv S + 1) := zm_u2s
  generalize zt_voice S = T at *
  refine ⟨?_, ?_, ?_, ?_, ?_, ?_⟩
  · unfold zW_p zv_np zv_jn
    rw [E 0 (by omega), E 1 (by omega), E 2 (by omega), E 3 (by omega), E 4 (by omega)]
    exact hWp
  · unfold zW_v
    rw [hnv, e50]
    unfold zv_sc
    rw [E 6 (by omega), E 7 (by omega), E 8 (by omega)]
    exact ⟨rfl, by omega, v2, fun v h1 h2 => v3 v (by omega) h2, v4⟩
  · unfold zW_s
    rw [hnv]
    unfold zv_ns zv_pu zv_np zv_fr zv_st zv_sk
    rw [E 0 (by omega), E 9 (by omega), E 10 (by omega), E 11 (by omega), E 12 (by omega), E 13 (by omega), E 14 (by omega), E 15 (by omega), E 16 (by omega)]
    refine ⟨s0, s1, fun i hi => ?_, s3⟩
    obtain ⟨b1, b2, b3, b4, b5, b6, b7, b8, b9, b10, b11, b12, b13⟩ := s2 i hi
    exact ⟨b1, b2, b3, b4, b5, b6, b7, b8, b9.imp id (fun h => ⟨h.1, by have := h.2; omega⟩), b10, b11, b12, b13⟩
  · unfold zW_k zv_ns zv_fr
    rw [E 9 (by omega), E 11 (by omega), E 18 (by omega), E 19 (by omega)]
    exact hWk
  · unfold zW_r zv_ns zv_sk
    rw [E 9 (by omega), E 15 (by omega), E 24 (by omega), E 26 (by omega)]
    exact hWr
  · unfold zW_f zv_nf zv_fl zv_ns
    rw [E 9 (by omega), E 17 (by omega), E 28 (by omega), E 29 (by omega)]
    exact hWf
theorem zW_puppet {S : zS} (hW : zW S) (hn : zv_np S < 5) {jn : Nat} (hj : 1 ≤ jn ∧ jn ≤ 6) : zW (zt_puppet S (nI jn)) := by
  obtain ⟨⟨p0, p1, p2, p3, p4, p5⟩, hWv, ⟨s0, s1, s2, s3⟩, hWk, hWr, hWf⟩ := hW
  have hnp : zv_np (zt_puppet S (nI jn)) = zv_np S + 1 := by show zn (zm_u2 (zm_u2 S 1 (zv_np S) (nI jn)) 0 0 (nI (zv_np S + 1)) 0 0) = _; rw [zm_u2s]; exact nI_clamp (n := zv_np S + 1) (by omega)
  have E : ∀ r, r ≠ 0 → r ≠ 1 → zt_puppet S (nI jn) r = S r := fun r h h' => (zm_u2r h).trans (zm_u2r h')
  have e00 : zt_puppet S (nI jn) 0 0 = nI (zv_np S + 1) := zm_u2s
  have e1n : zt_puppet S (nI jn) 1 (zv_np S) = nI jn := (zm_u2l (by decide)).trans zm_u2s
  have e1 : ∀ p, p ≠ zv_np S → zt_puppet S (nI jn) 1 p = S 1 p := fun p h => (zm_u2l (by decide)).trans (zm_u2k h)
  have hzn : zn (nI jn) = jn := nI_clamp (n := jn) (by omega)
  generalize zt_puppet S (nI jn) = T at *
  refine ⟨?_, ?_, ?_, ?_, ?_, ?_⟩
  · unfold zW_p
    rw [hnp, e00, E 2 (by omega) (by omega), E 3 (by omega) (by omega), E 4 (by omega) (by omega)]
    refine ⟨rfl, by omega, fun p hp => ?_, p3, fun a ha => p4 a (by omega), fun a ha => p5 a (by omega)⟩
    unfold zv_jn
    by_cases e : p = zv_np S
    · rw [e, e1n, hzn]; exact ⟨rfl, hj.1, hj.2⟩
    · rw [e1 p e]; exact p2 p (by omega)
  · unfold zW_v zv_nv zv_sc
    rw [E 5 (by omega) (by omega), E 6 (by omega) (by omega), E 7 (by omega) (by omega), E 8 (by omega) (by omega)]
    exact hWv
  · unfold zW_s
    rw [hnp]
    unfold zv_ns zv_pu zv_nv zv_fr zv_st zv_sk
    rw [E 5 (by omega) (by omega), E 9 (by omega) (by omega), E 10 (by omega) (by omega), E 11 (by omega) (by omega), E 12 (by omega) (by omega), E 13 (by omega) (by omega), E 14 (by omega) (by omega), E 15 (by omega) (by omega), E 16 (by omega) (by omega)]
    refine ⟨s0, s1, fun i hi => ?_, s3⟩
    obtain ⟨b1, b2, b3, b4, b5, b6, b7, b8, b9, b10, b11, b12, b13⟩ := s2 i hi
    have b2' : zn (S 10 i) < zv_np S + 1 := Nat.lt_succ_of_lt b2
    exact ⟨b1, b2', b3, b4, b5, b6, b7, b8, b9, b10, b11, b12, b13⟩
  · unfold zW_k zv_ns zv_fr
    rw [E 9 (by omega) (by omega), E 11 (by omega) (by omega), E 18 (by omega) (by omega), E 19 (by omega) (by omega)]
    exact hWk
  · unfold zW_r zv_ns zv_sk
    rw [E 9 (by omega) (by omega), E 15 (by omega) (by omega), E 24 (by omega) (by omega), E 26 (by omega) (by omega)]
    exact hWr
  · unfold zW_f zv_nf zv_fl zv_ns
    rw [E 9 (by omega) (by omega), E 17 (by omega) (by omega), E 28 (by omega) (by omega), E 29 (by omega) (by omega)]
    exact hWf
theorem zW_sound {S : zS} (hW : zW S) {x f : Int32} (hx : nI 0 ≤ x ∧ x ≤ nI 9) (hf : nI 1 ≤ f ∧ f ≤ nI 24) (hc : zv_sc S (zv_nv S) < 12) : zW (zt_sound S x f) := by
  obtain ⟨hWp, ⟨v0, v1, v2, v3, v4⟩, hWs, hWk, hWr, hWf⟩ := hW
  have t6 := fun v => @zt_sound_6 S x f v
  have t7 := fun v => @zt_sound_7 S x f v
  have t8 := fun v => @zt_sound_8 S x f v
  have tc := fun v => @zt_sound_sc S x f v hc
  have E : ∀ r, r ≠ 6 → r ≠ 7 → r ≠ 8 → zt_sound S x f r = S r := fun r => zt_sound_r
  have hx2 : zv_in x 0 9 := by
    obtain ⟨h1, h2⟩ := hx
    rw [zs_le, nI_toInt (by decide)] at h1 h2
    exact ⟨h1, h2⟩
  have hf2 : zv_in f 1 24 := by
    obtain ⟨h1, h2⟩ := hf
    rw [zs_le, nI_toInt (by decide)] at h1 h2
    exact ⟨h1, h2⟩
  generalize zt_sound S x f = T at *
  have hnv : zv_nv T = zv_nv S := by unfold zv_nv; rw [E 5 (by omega) (by omega) (by omega)]
  refine ⟨?_, ?_, ?_, ?_, ?_, ?_⟩
  · unfold zW_p zv_np zv_jn
    rw [E 0 (by omega) (by omega) (by omega), E 1 (by omega) (by omega) (by omega), E 2 (by omega) (by omega) (by omega), E 3 (by omega) (by omega) (by omega), E 4 (by omega) (by omega) (by omega)]
    exact hWp
  · unfold zW_v
    rw [hnv, E 5 (by omega) (by omega) (by omega)]
    refine ⟨v0, v1, fun v hv => ?_, fun v h1 h2 => ?_, fun v k hv hk => ?_⟩
    · rw [tc, t6]
      by_cases e : v = zv_nv S
      · rw [if_pos e, if_pos e]; exact ⟨rfl, by omega⟩
      · rw [if_neg e, if_neg e]; exact v2 v hv
    · rw [t6, if_neg (by omega)]; exact v3 v h1 h2
    · rw [tc] at hk
      rw [t7, t8]
      have hm := (v2 v hv).2
      have hm2 := (v2 (zv_nv S) (by omega)).2
      by_cases e : 12 * v + k = 12 * zv_nv S + zv_sc S (zv_nv S)
      · rw [if_pos e, if_pos e]; exact ⟨hx2, hf2⟩
      · rw [if_neg e, if_neg e]
        refine v4 v k hv ?_
        by_cases e2 : v = zv_nv S
        · rw [if_pos e2] at hk
          rw [e2] at e ⊢
          omega
        · rw [if_neg e2] at hk; exact hk
  · unfold zW_s zv_ns zv_pu zv_np zv_fr zv_st zv_nv zv_sk
    rw [E 0 (by omega) (by omega) (by omega), E 5 (by omega) (by omega) (by omega), E 9 (by omega) (by omega) (by omega), E 10 (by omega) (by omega) (by omega), E 11 (by omega) (by omega) (by omega), E 12 (by omega) (by omega) (by omega), E 13 (by omega) (by omega) (by omega), E 14 (by omega) (by omega) (by omega), E 15 (by omega) (by omega) (by omega), E 16 (by omega) (by omega) (by omega)]
    exact hWs
  · unfold zW_k zv_ns zv_fr
    rw [E 9 (by omega) (by omega) (by omega), E 11 (by omega) (by omega) (by omega), E 18 (by omega) (by omega) (by omega), E 19 (by omega) (by omega) (by omega)]
    exact hWk
  · unfold zW_r zv_ns zv_sk
    rw [E 9 (by omega) (by omega) (by omega), E 15 (by omega) (by omega) (by omega), E 24 (by omega) (by omega) (by omega), E 26 (by omega) (by omega) (by omega)]
    exact hWr
  · unfold zW_f zv_nf zv_fl zv_ns
    rw [E 9 (by omega) (by omega) (by omega), E 17 (by omega) (by omega) (by omega), E 28 (by omega) (by omega) (by omega), E 29 (by omega) (by omega) (by omega)]
    exact hWf

/-! ===== the state's order behind every call: a shot, a frame struck ===== -/
theorem zW_shot {S : zS} (hW : zW S) (hn : zv_ns S < 8) {p n stp : Nat} {v : Int32} (hp : p < zv_np S) (hn1 : 1 ≤ n ∧ n ≤ 48) (hst : 1 ≤ stp ∧ stp ≤ 2) (hv : v = -1 ∨ zs_ix v (zv_nv S)) : zW (zt_shot S (nI p) (nI n) (nI stp) v) := by
  obtain ⟨⟨p0, p1, p2, p3, p4, p5⟩, hWv, ⟨s0, s1, s2, s3⟩, ⟨k1, k2, k3, k4, k5, k6⟩, hWr, ⟨f0, f1, f2, f3, f4⟩⟩ := hW
  have hns : zv_ns (zt_shot S (nI p) (nI n) (nI stp) v) = zv_ns S + 1 := by
    show zn (zm_u2 (zm_u2 (zm_u2 (zm_u2 (zm_u2 (zm_u2 S 10 (zv_ns S) (nI p)) 11 (zv_ns S) (nI n)) 12 (zv_ns S) (nI stp)) 13 (zv_ns S) v) 14 (zv_ns S) (-1)) 9 0 (nI (zv_ns S + 1)) 9 0) = _
    rw [zm_u2s]; exact nI_clamp (n := zv_ns S + 1) (by omega)
  have E : ∀ r, ¬ (9 ≤ r ∧ r ≤ 14) → zt_shot S (nI p) (nI n) (nI stp) v r = S r := fun r h => (zm_u2r (by omega)).trans ((zm_u2r (by omega)).trans ((zm_u2r (by omega)).trans ((zm_u2r (by omega)).trans ((zm_u2r (by omega)).trans (zm_u2r (by omega))))))
  have e9 : zt_shot S (nI p) (nI n) (nI stp) v 9 0 = nI (zv_ns S + 1) := zm_u2s
  have e10 : ∀ a, zt_shot S (nI p) (nI n) (nI stp) v 10 a = if a = zv_ns S then nI p else S 10 a := fun a => by
    unfold zt_shot
    rw [zm_u2l (by decide), zm_u2l (by decide), zm_u2l (by decide), zm_u2l (by decide), zm_u2l (by decide)]
    by_cases h : a = zv_ns S
    · rw [if_pos h, h, zm_u2s]
    · rw [if_neg h, zm_u2k h]
  have e11 : ∀ a, zt_shot S (nI p) (nI n) (nI stp) v 11 a = if a = zv_ns S then nI n else S 11 a := fun a => by
    unfold zt_shot
    rw [zm_u2l (by decide), zm_u2l (by decide), zm_u2l (by decide), zm_u2l (by decide)]
    by_cases h : a = zv_ns S
    · rw [if_pos h, h, zm_u2s]
    · rw [if_neg h, zm_u2k h, zm_u2l (by decide)]
  have e12 : ∀ a, zt_shot S (nI p) (nI n) (nI stp) v 12 a = if a = zv_ns S then nI stp else S 12 a := fun a => by
    unfold zt_shot
    rw [zm_u2l (by decide), zm_u2l (by decide), zm_u2l (by decide)]
    by_cases h : a = zv_ns S
    · rw [if_pos h, h, zm_u2s]
    · rw [if_neg h, zm_u2k h, zm_u2l (by decide), zm_u2l (by decide)]
  have e13 : ∀ a, zt_shot S (nI p) (nI n) (nI stp) v 13 a = if a = zv_ns S then v else S 13 a := fun a => by
    unfold zt_shot
    rw [zm_u2l (by decide), zm_u2l (by decide)]
    by_cases h : a = zv_ns S
    · rw [if_pos h, h, zm_u2s]
    · rw [if_neg h, zm_u2k h, zm_u2l (by decide), zm_u2l (by decide), zm_u2l (by decide)]
  have e14 : ∀ a, zt_shot S (nI p) (nI n) (nI stp) v 14 a = if a = zv_ns S then -1 else S 14 a := fun a => by
    unfold zt_shot
    rw [zm_u2l (by decide)]
    by_cases h : a = zv_ns S
    · rw [if_pos h, h, zm_u2s]
    · rw [if_neg h, zm_u2k h, zm_u2l (by decide), zm_u2l (by decide), zm_u2l (by decide), zm_u2l (by decide)]
  have hz10 : zn (nI p) = p := nI_clamp (n := p) (by omega)
  have hz11 : zn (nI n) = n := nI_clamp (n := n) (by omega)
  have hz12 : zn (nI stp) = stp := nI_clamp (n := stp) (by omega)
  generalize zt_shot S (nI p) (nI n) (nI stp) v = T at *
  have E0 := E 0 (by omega)
  have E1 := E 1 (by omega)
  have E2 := E 2 (by omega)
  have E3 := E 3 (by omega)
  have E4 := E 4 (by omega)
  have E5 := E 5 (by omega)
  have E6 := E 6 (by omega)
  have E7 := E 7 (by omega)
  have E8 := E 8 (by omega)
  have E15 := E 15 (by omega)
  have E16 := E 16 (by omega)
  have E17 := E 17 (by omega)
  have E18 := E 18 (by omega)
  have E19 := E 19 (by omega)
  have E24 := E 24 (by omega)
  have E26 := E 26 (by omega)
  have E28 := E 28 (by omega)
  have E29 := E 29 (by omega)
  have hfr : ∀ a, a ≠ zv_ns S → zv_fr T a = zv_fr S a := fun a h => by unfold zv_fr; rw [e11, if_neg h]
  have hfr2 : zv_fr T (zv_ns S) = n := by unfold zv_fr; rw [e11, if_pos rfl]; exact hz11
  have hsk : ∀ a, zv_sk T a = zv_sk S a := fun a => by unfold zv_sk; rw [E15]
  have hsk0 : zv_sk S (zv_ns S) = 0 := by unfold zv_sk; rw [(s3 (zv_ns S) (Nat.le_refl _)).1]; decide
  refine ⟨?_, ?_, ?_, ?_, ?_, ?_⟩
  · unfold zW_p zv_np zv_jn
    rw [E0, E1, E2, E3, E4]
    exact ⟨p0, p1, p2, p3, p4, p5⟩
  · unfold zW_v zv_nv zv_sc
    rw [E5, E6, E7, E8]
    exact hWv
  · unfold zW_s
    rw [hns, e9]
    refine ⟨rfl, by omega, fun a ha => ?_, fun a ha => ?_⟩
    · by_cases e : a = zv_ns S
      · have c15 : T 15 a = nI 0 := by rw [E15, e]; exact (s3 _ (Nat.le_refl _)).1
        have hs0 : zv_sk T a = 0 := by rw [hsk, e]; exact hsk0
        unfold zv_pu zv_st zv_np zv_nv
        rw [e10, e12, e13, e14, if_pos e, if_pos e, if_pos e, if_pos e, hz10, hz12, hs0, c15, E0, E5, e, hfr2, e11, if_pos rfl]
        exact ⟨rfl, hp, rfl, by omega, by omega, rfl, by omega, by omega, hv, Or.inl rfl, rfl, by omega, fun h => absurd h (by omega)⟩
      · obtain ⟨b1, b2, b3, b4, b5, b6, b7, b8, b9, b10, b11, b12, b13⟩ := s2 a (by omega)
        unfold zv_pu zv_st zv_np zv_nv
        rw [hfr a e, hsk, e10, e11, e12, e13, e14, if_neg e, if_neg e, if_neg e, if_neg e, if_neg e, E0, E5, E15]
        exact ⟨b1, b2, b3, b4, b5, b6, b7, b8, b9, b10, b11, b12, b13⟩
    · rw [E15, E16]; exact s3 a (by omega)
  · unfold zW_k
    rw [hns, E18, E19]
    refine ⟨k1, fun x hx => k2 x (by omega), fun a j f ha hj hf hf2 => ?_, k4, fun x hx => k5 x (by omega), fun a f ha hf hf2 => ?_⟩
    · by_cases e : a = zv_ns S
      · exact k2 _ (by omega)
      · rw [hfr a e] at hf; exact k3 a j f (by omega) hj hf hf2
    · by_cases e : a = zv_ns S
      · exact k5 _ (by omega)
      · rw [hfr a e] at hf; exact k6 a f (by omega) hf hf2
  · intro a f ha hf
    rw [hns] at ha
    rw [hsk] at hf
    rw [E24, E26]
    by_cases e : a = zv_ns S
    · rw [e, hsk0] at hf; omega
    · exact hWr a f (by omega) hf
  · unfold zW_f zv_nf zv_fl
    rw [hns, E17, E28, E29]
    exact ⟨f0, f1, fun k hk => ⟨(f2 k hk).1, by have h : zn (S 29 k) < zv_ns S := (f2 k hk).2; omega⟩, f3, f4⟩
theorem zW_keep {S : zS} (hW : zW S) {i : Nat} (hi : i < zv_ns S) (hk : zv_sk S i < zv_fr S i) (ha : zs_ix (S 14 i) 5) : zW (zt_keep S i) := by
  have hfr := (hW.2.2.1.2.2.1 i hi).2.2.2.2.1
  have hpl := zp_place_in hW i (zv_sk S i) (by omega)
  have hli := zp_light_in S
  unfold zt_keep zt_kp
  generalize zs_cam (fun k => zm_u2 S 24 (48 * i + zv_sk S i) (zp_place S i (zv_sk S i)) 24 (48 * i + k)) (zv_sk S i) (S 20 0) = cam
  generalize zp_place S i (zv_sk S i) = told at *
  generalize zp_light S = light at *
  have x16 : ∃ t, S 16 i = t := ⟨_, rfl⟩
  obtain ⟨tab, x16⟩ := x16
  rw [x16]
  have w1 := zW_nf (x := told) hW hi hk (r := 24) (by omega)
  have w2 := zW_nfc (S := S) (x := cam) w1 (zm_u2r (by decide)) (zm_u2r (by decide)) (zm_u2r (by decide)) hi hk (r := 25) (by omega)
  have w3 := zW_nfc (S := S) (x := light) w2 ((zm_u2r (by decide)).trans (zm_u2r (by decide))) ((zm_u2r (by decide)).trans (zm_u2r (by decide))) ((zm_u2r (by decide)).trans (zm_u2r (by decide))) hi hk (r := 26) (by omega)
  have w4 := zW_nfc (S := S) (x := tab) w3 ((zm_u2r (by decide)).trans ((zm_u2r (by decide)).trans (zm_u2r (by decide)))) ((zm_u2r (by decide)).trans ((zm_u2r (by decide)).trans (zm_u2r (by decide)))) ((zm_u2r (by decide)).trans ((zm_u2r (by decide)).trans (zm_u2r (by decide)))) hi hk (r := 27) (by omega)
  have E : ∀ q, ¬ (24 ≤ q ∧ q ≤ 27) → zm_u2 (zm_u2 (zm_u2 (zm_u2 S 24 (48 * i + zv_sk S i) told) 25 (48 * i + zv_sk S i) cam) 26 (48 * i + zv_sk S i) light) 27 (48 * i + zv_sk S i) tab q = S q := fun q hq => (zm_u2r (by omega)).trans ((zm_u2r (by omega)).trans ((zm_u2r (by omega)).trans (zm_u2r (by omega))))
  have E24 : zm_u2 (zm_u2 (zm_u2 (zm_u2 S 24 (48 * i + zv_sk S i) told) 25 (48 * i + zv_sk S i) cam) 26 (48 * i + zv_sk S i) light) 27 (48 * i + zv_sk S i) tab 24 (48 * i + zv_sk S i) = told := by rw [zm_u2l (by decide), zm_u2l (by decide), zm_u2l (by decide), zm_u2s]
  have E26 : zm_u2 (zm_u2 (zm_u2 (zm_u2 S 24 (48 * i + zv_sk S i) told) 25 (48 * i + zv_sk S i) cam) 26 (48 * i + zv_sk S i) light) 27 (48 * i + zv_sk S i) tab 26 (48 * i + zv_sk S i) = light := by rw [zm_u2l (by decide), zm_u2s]
  generalize zm_u2 (zm_u2 (zm_u2 (zm_u2 S 24 (48 * i + zv_sk S i) told) 25 (48 * i + zv_sk S i) cam) 26 (48 * i + zv_sk S i) light) 27 (48 * i + zv_sk S i) tab = T at *
  obtain ⟨q1, q2, q3, q4, q5, q6⟩ := zv_same (S := S) (T := T) (i := i) (E 1 (by omega)) (E 9 (by omega)) (E 10 (by omega)) (E 11 (by omega)) (E 14 (by omega)) (E 15 (by omega))
  have w5 := zW_count w4 (by rw [q1]; exact hi) (by rw [q2, q3]; exact hk) (by rw [q6]; exact ha) (by rw [q2, E24]; exact hpl) (by rw [q2, E26]; exact hli)
  rw [q2] at w5
  exact zW_set w5 (by unfold zs_str; omega) (fun h => by omega) (fun h => by omega) (fun h => by omega) (fun h => by omega) (fun h => by omega) (fun h => by omega) (by omega) (fun h => by omega)
theorem zW_strike {S : zS} (hW : zW S) {i : Nat} (hi : i < zv_ns S) (hb : zp_bar S i = 0) : zW (zt_strike S i) := by
  obtain ⟨-, hk, h14⟩ := zp_bar_0 (congrArg nI hb)
  have ha : zs_ix (S 14 i) 5 := (hW.2.2.1.2.2.1 i hi).2.2.2.2.2.2.2.2.2.1.resolve_left h14
  unfold zt_strike
  by_cases c : zp_held S i (zv_sk S i)
  · rw [if_pos c]
    have d : ∀ r, r = 1 ∨ (9 ≤ r ∧ r ≤ 15) → zt_hold S i r = S r := fun r h => zt_hold_r (by omega) (by omega)
    obtain ⟨q1, q2, q3, q4, q5, q6⟩ := zv_same (S := S) (T := zt_hold S i) (i := i) (d 1 (by omega)) (d 9 (by omega)) (d 10 (by omega)) (d 11 (by omega)) (d 14 (by omega)) (d 15 (by omega))
    exact zW_keep (S := zt_hold S i) (zt_hj_w hW hi rfl hk _) (by rw [q1]; exact hi) (by rw [q2, q3]; exact hk) (by rw [q6]; exact ha)
  · rw [if_neg c]
    have d : ∀ r, r = 1 ∨ (9 ≤ r ∧ r ≤ 15) → zt_pz (zt_want S i) i r = S r := fun r h => (zt_pz_r (by omega) (by omega) (by omega) (by omega)).trans (zt_want_r (by omega))
    obtain ⟨q1, q2, q3, q4, q5, q6⟩ := zv_same (S := S) (T := zt_pz (zt_want S i) i) (i := i) (d 1 (by omega)) (d 9 (by omega)) (d 10 (by omega)) (d 11 (by omega)) (d 14 (by omega)) (d 15 (by omega))
    exact zW_keep (zt_pz_w (zt_want_w hW hi) (by show i < zn (zt_want S i 9 0); rw [zt_want_r (by decide)]; exact hi) (by show zn (zt_want S i 15 i) < zn (zt_want S i 11 i); rw [zt_want_r (by decide), zt_want_r (by decide)]; exact hk)) (by rw [q1]; exact hi) (by rw [q2, q3]; exact hk) (by rw [q6]; exact ha)

theorem zs_ofrng {x : Int32} {a b : Nat} (h : nI a ≤ x ∧ x ≤ nI b) (ha : a < 2 ^ 31 := by decide) (hb : b < 2 ^ 31 := by decide) : zv_in x a b := by
  have h1 := zs_le.mp h.1
  have h2 := zs_le.mp h.2
  rw [nI_toInt ha] at h1
  rw [nI_toInt hb] at h2
  exact ⟨h1, h2⟩
theorem zs_ofrngn {x : Int32} {a b : Nat} (h : nI a ≤ x ∧ x ≤ nI b) (ha : a < 2 ^ 31) (hb : b < 2 ^ 31) : ∃ n, a ≤ n ∧ n ≤ b ∧ x = nI n := by
  obtain ⟨h1, h2⟩ := zs_ofrng h ha hb
  obtain ⟨n, hn, rfl⟩ := zs_ix_of (p := x) (n := b + 1) ⟨by omega, by omega⟩ (by omega)
  rw [nI_toInt (by omega)] at h1 h2
  exact ⟨n, by omega, by omega, rfl⟩
theorem U_bars {S : zS} (hW : zW S) (s : Int32) (hA : (zs_ix s (zv_ns S))) (hB : True) (hC : True) : zW S := hW
theorem U_struck {S : zS} (hW : zW S) (s : Int32) (hA : (zs_ix s (zv_ns S))) (hB : True) (hC : True) : zW S := hW
theorem U_light {S : zS} (hW : zW S)  (hA : True) (hB : True) (hC : True) : zW S := hW
theorem U_degree {S : zS} (hW : zW S) (s jx fx : Int32) (hA : (zs_ix s (zv_ns S)) ∧ (zs_ix jx (zv_jn S (zv_pu S (zn s)))) ∧ (zs_ix fx (zv_fr S (zn s)))) (hB : True) (hC : True) : zW S := hW
theorem U_mouth {S : zS} (hW : zW S) (s fx : Int32) (hA : (zs_ix s (zv_ns S)) ∧ (zs_ix fx (zv_fr S (zn s)))) (hB : True) (hC : True) : zW S := hW
theorem U_place {S : zS} (hW : zW S) (s fx : Int32) (hA : (zs_ix s (zv_ns S)) ∧ (zs_ix fx (zv_fr S (zn s)))) (hB : True) (hC : True) : zW S := hW
theorem U_mouths {S : zS} (hW : zW S) (px s n : Int32) (hA : (zs_ix px (zv_np S))) (hB : (nI 0 ≤ s ∧ s ≤ nI 9) ∧ (nI 1 ≤ n ∧ n ≤ nI 9)) (hC : (S 4 (10 * zn px + zn s) + n ≤ nI 9)) : zW ((zm_u2 S 4 (10 * zn px + zn s) (S 4 (10 * zn px + zn s) + n))) := by
  have n1 := hW.1.2.1
  have n2 := hW.2.1.2.1
  have n3 := hW.2.2.1.2.1
  have hp := (zs_ix_zn hA (by omega)).1
  have ht := (zs_ix_zn (zs_rng_of hB.1 (by omega)) (by omega)).1
  exact zW_set hW (by unfold zs_str; omega) (fun h => absurd h (by decide)) (fun h => absurd h (by decide)) (fun _ => by omega) (fun h => absurd h (by decide)) (fun h => absurd h (by decide)) (fun h => absurd h (by decide)) (by decide) (fun h => absurd h (by decide))
theorem U_left {S : zS} (hW : zW S) (px s : Int32) (hA : (zs_ix px (zv_np S))) (hB : (nI 0 ≤ s ∧ s ≤ nI 9)) (hC : True) : zW S := hW
theorem U_ofJoint {S : zS} (hW : zW S) (px jx x : Int32) (hA : (zs_ix px (zv_np S)) ∧ (zs_ix jx (zv_jn S (zn px)))) (hB : (nI 0 ≤ x ∧ x ≤ nI 1)) (hC : True) : zW S := hW
theorem U_mend {S : zS} (hW : zW S) (px jx : Int32) (hA : (zs_ix px (zv_np S)) ∧ (zs_ix jx (zv_jn S (zn px)))) (hB : True) (hC : True) : zW ((zm_u2 S 3 (6 * zn px + zn jx) (0))) := by
  have n1 := hW.1.2.1
  have n2 := hW.2.1.2.1
  have n3 := hW.2.2.1.2.1
  have hp := (zs_ix_zn hA.1 (by omega)).1
  have j6 := (hW.1.2.2.1 _ hp).2.2
  have hj := (zs_ix_zn hA.2 (by omega)).1
  exact zW_set hW (by unfold zs_str; omega) (fun h => absurd h (by decide)) (fun _ => by omega) (fun h => absurd h (by decide)) (fun h => absurd h (by decide)) (fun h => absurd h (by decide)) (fun h => absurd h (by decide)) (by decide) (fun h => absurd h (by decide))
theorem U_assign {S : zS} (hW : zW S) (s ax : Int32) (hA : (zs_ix s (zv_ns S)) ∧ (zs_ix ax 5)) (hB : True) (hC : (¬ zv_fr S (zn s) ≤ zv_sk S (zn s)) ∧ (0 < zv_sk S (zn s) → (¬ S 14 (zn s) = -1 ∧ ¬ S 17 (zn (S 14 (zn s))) = 0))) : zW ((zm_u2 S 14 (zn s) (ax))) := by
  have n1 := hW.1.2.1
  have n2 := hW.2.1.2.1
  have n3 := hW.2.2.1.2.1
  have hi := (zs_ix_zn hA.1 (by omega)).1
  exact zW_set hW (by unfold zs_str; omega) (fun h => absurd h (by decide)) (fun h => absurd h (by decide)) (fun h => absurd h (by decide)) (fun h => absurd h (by decide)) (fun _ => hA.2) (fun h => absurd h (by decide)) (by decide) (fun h => absurd h (by decide))
theorem U_dub {S : zS} (hW : zW S) (s v : Int32) (hA : (zs_ix s (zv_ns S)) ∧ (v = -1 ∨ zs_ix v (zv_nv S))) (hB : True) (hC : True) : zW ((zm_u2 S 13 (zn s) (v))) := by
  have n1 := hW.1.2.1
  have n2 := hW.2.1.2.1
  have n3 := hW.2.2.1.2.1
  exact zW_set hW (by unfold zs_str; omega) (fun h => absurd h (by decide)) (fun h => absurd h (by decide)) (fun h => absurd h (by decide)) (fun _ => hA.2) (fun h => absurd h (by decide)) (fun h => absurd h (by decide)) (by decide) (fun h => absurd h (by decide))
theorem U_play {S : zS} (hW : zW S) (u : Int32) (hA : True) (hB : (nI 0 ≤ u ∧ u ≤ nI 20)) (hC : True) : zW ((zm_u2 S 20 (0) (u))) := by
  have n1 := hW.1.2.1
  have n2 := hW.2.1.2.1
  have n3 := hW.2.2.1.2.1
  exact zW_set hW (by unfold zs_str; omega) (fun h => absurd h (by decide)) (fun h => absurd h (by decide)) (fun h => absurd h (by decide)) (fun h => absurd h (by decide)) (fun h => absurd h (by decide)) (fun h => absurd h (by decide)) (by decide) (fun h => absurd h (by decide))
theorem U_bump {S : zS} (hW : zW S) (s u : Int32) (hA : (zs_ix s (zv_ns S))) (hB : ((-99) ≤ u ∧ u ≤ nI 99)) (hC : (0 < zv_sk S (zn s))) : zW ((zm_u2 S 16 (zn s) (S 16 (zn s) + u))) := by
  have n1 := hW.1.2.1
  have n2 := hW.2.1.2.1
  have n3 := hW.2.2.1.2.1
  have hi := (zs_ix_zn hA (by omega)).1
  exact zW_set hW (by unfold zs_str; omega) (fun h => absurd h (by decide)) (fun h => absurd h (by decide)) (fun h => absurd h (by decide)) (fun h => absurd h (by decide)) (fun h => absurd h (by decide)) (fun _ => hi) (by decide) (fun h => absurd h (by decide))
theorem U_level {S : zS} (hW : zW S) (s : Int32) (hA : (zs_ix s (zv_ns S))) (hB : True) (hC : True) : zW ((zm_u2 S 16 (zn s) (0))) := by
  have n1 := hW.1.2.1
  have n2 := hW.2.1.2.1
  have n3 := hW.2.2.1.2.1
  have hi := (zs_ix_zn hA (by omega)).1
  exact zW_set hW (by unfold zs_str; omega) (fun h => absurd h (by decide)) (fun h => absurd h (by decide)) (fun h => absurd h (by decide)) (fun h => absurd h (by decide)) (fun h => absurd h (by decide)) (fun _ => hi) (by decide) (fun h => absurd h (by decide))
theorem U_lamp {S : zS} (hW : zW S)  (hA : True) (hB : True) (hC : True) : zW ((zm_u2 S 21 (0) (0))) := by
  have n1 := hW.1.2.1
  have n2 := hW.2.1.2.1
  have n3 := hW.2.2.1.2.1
  exact zW_set hW (by unfold zs_str; omega) (fun h => absurd h (by decide)) (fun h => absurd h (by decide)) (fun h => absurd h (by decide)) (fun h => absurd h (by decide)) (fun h => absurd h (by decide)) (fun h => absurd h (by decide)) (by decide) (fun h => absurd h (by decide))
theorem U_ill {S : zS} (hW : zW S) (ax x : Int32) (hx : x = 0 ∨ x = 1) (hA : (zs_ix ax 5)) (hB : True) (hC : True) : zW ((zm_u2 S 17 (zn ax) (x))) := by
  have n1 := hW.1.2.1
  have n2 := hW.2.1.2.1
  have n3 := hW.2.2.1.2.1
  exact zW_set hW (by unfold zs_str; omega) (fun h => absurd h (by decide)) (fun h => absurd h (by decide)) (fun h => absurd h (by decide)) (fun h => absurd h (by decide)) (fun h => absurd h (by decide)) (fun h => absurd h (by decide)) (by decide) (fun _ => hx)
theorem U_pose {S : zS} (hW : zW S) (s jx fx : Int32) (hA : (zs_ix s (zv_ns S)) ∧ (zs_ix jx (zv_jn S (zv_pu S (zn s)))) ∧ (zs_ix fx (zv_sk S (zn s)))) (hB : True) (hC : True) : zW S := hW
theorem U_ofFrame {S : zS} (hW : zW S) (s fx x : Int32) (hA : (zs_ix s (zv_ns S)) ∧ (zs_ix fx (zv_sk S (zn s)))) (hB : (nI 0 ≤ x ∧ x ≤ nI 3)) (hC : True) : zW S := hW
theorem U_key {S : zS} (hW : zW S) (s jx fx d : Int32) (hA : (zs_ix s (zv_ns S)) ∧ (zs_ix jx (zv_jn S (zv_pu S (zn s)))) ∧ (zs_ix fx (zv_fr S (zn s)))) (hB : (nI 0 ≤ d ∧ d ≤ nI 359)) (hC : (¬ fx < nI (zv_sk S (zn s))) ∧ (¬ zp_held S (zn s) (zn fx))) : zW (zm_u2 S 18 (48 * (6 * zn s + zn jx) + zn fx) d) := by
  have n1 := hW.1.2.1
  have n2 := hW.2.1.2.1
  have n3 := hW.2.2.1.2.1
  have hi := (zs_ix_zn hA.1 (by omega)).1
  have b12 := (hW.2.2.1.2.2.1 _ hi).2.1
  have j6 := (hW.1.2.2.1 _ b12).2.2
  have f48 := (hW.2.2.1.2.2.1 _ hi).2.2.2.2.1
  have hj := (zs_ix_zn hA.2.1 (by omega)).1
  have hf := (zs_ix_zn hA.2.2 (by omega)).1
  have h1 := zs_le.mp hB.1
  have h2 := zs_le.mp hB.2
  rw [nI_toInt (by omega)] at h1 h2
  exact zW_key hW hi hj hf ⟨by omega, by omega⟩
theorem U_camera {S : zS} (hW : zW S) (s fx x : Int32) (hA : (zs_ix s (zv_ns S)) ∧ (zs_ix fx (zv_fr S (zn s)))) (hB : ((-999) ≤ x ∧ x ≤ nI 999)) (hC : (¬ fx < nI (zv_sk S (zn s)))) : zW (zm_u2 S 19 (48 * zn s + zn fx) x) := by
  have n1 := hW.1.2.1
  have n2 := hW.2.1.2.1
  have n3 := hW.2.2.1.2.1
  have hi := (zs_ix_zn hA.1 (by omega)).1
  have b12 := (hW.2.2.1.2.2.1 _ hi).2.1
  have j6 := (hW.1.2.2.1 _ b12).2.2
  have f48 := (hW.2.2.1.2.2.1 _ hi).2.2.2.2.1
  have hf := (zs_ix_zn hA.2 (by omega)).1
  have h1 := zs_le.mp hB.1
  have h2 := zs_le.mp hB.2
  rw [show ((-999) : Int32).toInt = -999 from by decide] at h1
  rw [nI_toInt (by omega)] at h2
  exact zW_cam hW hi hf ⟨by omega, by omega⟩
theorem U_film {S : zS} (hW : zW S) (x : Int32) (hA : ((0 : Int32) ≤ x)) (hB : True) (hC : True) : zW S := hW
theorem U_wants {S : zS} (hW : zW S) (s x : Int32) (hA : (zs_ix s (zv_ns S))) (hB : (nI 0 ≤ x ∧ x ≤ nI 9)) (hC : True) : zW S := hW
theorem U_wears {S : zS} (hW : zW S) (s jx : Int32) (hA : (zs_ix s (zv_ns S)) ∧ (zs_ix jx (zv_jn S (zv_pu S (zn s))))) (hB : True) (hC : True) : zW S := hW
theorem U_faults {S : zS} (hW : zW S) (s fx : Int32) (hA : (zs_ix s (zv_ns S)) ∧ (zs_ix fx (zv_sk S (zn s)))) (hB : True) (hC : True) : zW S := hW
theorem U_anew {S : zS} (hW : zW S) (s fx : Int32) (hA : (zs_ix s (zv_ns S)) ∧ (zs_ix fx (zv_fr S (zn s)))) (hB : True) (hC : (fx < nI (zv_sk S (zn s))) ∧ (zp_cut S s = -1)) : zW (zm_u2 S 15 (zn s) (nI (zn fx))) := by
  have n1 := hW.1.2.1
  have n2 := hW.2.1.2.1
  have n3 := hW.2.2.1.2.1
  have hi := (zs_ix_zn hA.1 (by omega)).1
  have b12 := (hW.2.2.1.2.2.1 _ hi).2.1
  have j6 := (hW.1.2.2.1 _ b12).2.2
  have f48 := (hW.2.2.1.2.2.1 _ hi).2.2.2.2.1
  have k12 := (hW.2.2.1.2.2.1 _ hi).2.2.2.2.2.2.2.2.2.2.2.1
  obtain ⟨hf, ef⟩ := zs_ix_zn hA.2 (by omega)
  have h1 := hC.1
  rw [ef] at h1
  have h2 := zs_lt.mp h1
  rw [nI_toInt (by omega), nI_toInt (by omega)] at h2
  exact zW_less hW hi (by omega)
theorem U_cut {S : zS} (hW : zW S) (s : Int32) (hA : (zs_ix s (zv_ns S))) (hB : True) (hC : (zv_fr S (zn s) ≤ zv_sk S (zn s)) ∧ (zp_cut S s = -1)) : zW (zt_cut S (zn s)) := by
  have n1 := hW.1.2.1
  have n2 := hW.2.1.2.1
  have n3 := hW.2.2.1.2.1
  have hi := (zs_ix_zn hA (by omega)).1
  obtain ⟨c1, c2⟩ := zp_cut_none hW hi (by rw [← (zs_ix_zn hA (by omega)).2]; exact hC.2)
  exact zW_cut hW hi c1 c2
theorem U_cutOut {S : zS} (hW : zW S) (s : Int32) (hA : (zs_ix s (zv_ns S))) (hB : True) (hC : (¬ zp_cut S s = -1)) : zW (zt_out S (zn (zp_cut S s))) := by
  have n1 := hW.1.2.1
  have n2 := hW.2.1.2.1
  have n3 := hW.2.2.1.2.1
  obtain ⟨q, hq, eq⟩ := zp_cut_some hW hC
  have f8 := hW.2.2.2.2.2.2.1
  rw [eq, show zn (nI q) = q from nI_clamp (n := q) (by omega)]
  exact zW_out hW hq
theorem U_sound {S : zS} (hW : zW S) (x f : Int32) (hA : True) (hB : (nI 0 ≤ x ∧ x ≤ nI 9) ∧ (nI 1 ≤ f ∧ f ≤ nI 24)) (hC : (zv_sc S (zv_nv S) < 12)) : zW (zt_sound S x f) := by
  have n1 := hW.1.2.1
  have n2 := hW.2.1.2.1
  have n3 := hW.2.2.1.2.1
  exact zW_sound hW hB.1 hB.2 hC
theorem U_voice {S : zS} (hW : zW S)  (hA : True) (hB : True) (hC : (¬ zv_sc S (zv_nv S) = 0) ∧ (zv_nv S < 6)) : zW (zt_voice S) := by
  have n1 := hW.1.2.1
  have n2 := hW.2.1.2.1
  have n3 := hW.2.2.1.2.1
  exact zW_voice hW hC.2
theorem U_puppet {S : zS} (hW : zW S) (x : Int32) (hA : True) (hB : (nI 1 ≤ x ∧ x ≤ nI 6)) (hC : (zv_np S < 5)) : zW (zt_puppet S x) := by
  have n1 := hW.1.2.1
  have n2 := hW.2.1.2.1
  have n3 := hW.2.2.1.2.1
  obtain ⟨j, h1, h2, rfl⟩ := zs_ofrngn hB (by omega) (by omega)
  exact zW_puppet hW hC ⟨h1, h2⟩
theorem U_shot {S : zS} (hW : zW S) (px nx tx v : Int32) (hA : (zs_ix px (zv_np S)) ∧ (v = -1 ∨ zs_ix v (zv_nv S))) (hB : (nI 1 ≤ nx ∧ nx ≤ nI 48) ∧ (nI 1 ≤ tx ∧ tx ≤ nI 2)) (hC : (zv_ns S < 8)) : zW (zt_shot S px nx tx v) := by
  have n1 := hW.1.2.1
  have n2 := hW.2.1.2.1
  have n3 := hW.2.2.1.2.1
  obtain ⟨hp, ep⟩ := zs_ix_zn hA.1 (by omega)
  obtain ⟨n, h1, h2, rfl⟩ := zs_ofrngn hB.1 (by omega) (by omega)
  obtain ⟨t, h3, h4, rfl⟩ := zs_ofrngn hB.2 (by omega) (by omega)
  rw [ep]
  exact zW_shot hW hC hp ⟨h1, h2⟩ ⟨h3, h4⟩ hA.2
theorem U_strike {S : zS} (hW : zW S) (s : Int32) (hA : (zs_ix s (zv_ns S))) (hB : True) (hC : (zp_bar S (zn s) = 0)) : zW (zt_strike S (zn s)) := by
  have n1 := hW.1.2.1
  have n2 := hW.2.1.2.1
  have n3 := hW.2.2.1.2.1
  have hi := (zs_ix_zn hA (by omega)).1
  exact zW_strike hW hi hC
