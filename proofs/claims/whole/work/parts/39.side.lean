/-! ===== the law's own: catching, the two sides beside each other ===== -/
section ZCA
variable {Γ : zz_C} {G : zz_G} {Q : State → Prop} {cells slots : Nat} {sh : zm_Sh} {mi : zm_Mi} {mr : zm_Mr} {pc : Nat} {ls : List (Nat × Value)} {st : List Value} {own : String} {cc : ByteArray} {d mc ms : Nat}
/-- caught by the table's row (a, b, h, k) behind the rows pre; the handler puts it into the local i -/
theorem zz_catch (X : zz_X Γ G own cc d mc ms) {hh pre suf : List (Nat × Nat × Nat × Nat)} (hT : (zz_c Γ).exceptionTable.toList = tableOf hh) {a b h9 k : Nat} (hs : hh = pre ++ (a, b, h9, k) :: suf) {En : String} (hpre : ∀ z ∈ pre, ∃ nm, z.2.2.2 ≠ 0 ∧ Cond.classLink own z.2.2.2 nm ∈ lw_tbl ∧ (En, nm) ∈ zk_nc) (hx : a ≤ pc ∧ pc < b) (h0 : k ≠ 0)
    (hlink : Cond.classLink own k En ∈ lw_tbl) (hcast : Cond.castable En En ∈ lw_tbl) {i len : Nat} (hds : (∃ q : Fin 4, (q : Nat) = i ∧ decode cc h9 = .ok (.astore_n q, 1) ∧ len = 1) ∨ (decode cc h9 = .ok (.astore i, 2) ∧ len = 2)) (hn : i < G.2.2.1) (kk : zz Γ G Q cells slots sh mi mr (h9 + len) [] []) : zzx Γ G Q cells slots sh mi mr pc ls st En := by
  intro ad H locs la q ce h h1 h2 h3
  have K := X.2.2.2.2.2.2.1
  have hsp : (zz_c Γ).exceptionTable.toList = (pre.map fun q => (⟨q.1, q.2.1, q.2.2.1, q.2.2.2⟩ : ExceptionTableEntry)) ++ (⟨a, b, h9, k⟩ : ExceptionTableEntry) :: (suf.map fun q => (⟨q.1, q.2.1, q.2.2.1, q.2.2.2⟩ : ExceptionTableEntry)) := by
    rw [hT, hs]
    unfold tableOf
    rw [List.map_append, List.map_cons]
  have hz : zz_H Γ G sh mi mr [] [] ad H locs la := ⟨h.1, h.2.1, h.2.2.1, fun _ hq => (nomatch hq), zm_on, h.2.2.2.2.2.1, h.2.2.2.2.2.2.1, fun _ hq => (nomatch hq)⟩
  refine vx_catch X.2.2.2.1 _ ⟨a, b, h9, k⟩ _ hsp (fun z hz9 => Or.inr ?_) ?_ h0 (zk_w K hlink rfl) (zk_w K hcast rfl) h1 h2 h3 ?_
  · obtain ⟨w, hw, rfl⟩ := List.mem_map.mp hz9
    obtain ⟨nm, g0, g1, g2⟩ := hpre w hw
    exact ⟨g0, nm, zk_w K g1 rfl, K.2.2.2.2.2.2.2.1 _ g2⟩
  · unfold covers
    simp [hx.1, hx.2]
  · have k2 : ∀ la' : Array Slot, lv_has la' G.2.2.1 [(i, Value.ref q)] → zz_W Γ H locs cells slots Q (F0 (zz_m Γ) (h9 + len) la' []) := fun la' hl => kk ad H locs la' ⟨h.1, h.2.1, h.2.2.1, fun _ hq => (nomatch hq), zm_on, hl.1, hl.2.1, fun _ hq => (nomatch hq)⟩
    rcases hds with ⟨q4, e4, hd4, rfl⟩ | ⟨hd4, rfl⟩
    · exact lv_astore_n X.1 X.2.1 hd4 e4 hz.2.2.2.2.2 hn rfl k2
    · exact lv_astore X.1 X.2.1 hd4 hz.2.2.2.2.2 hn rfl k2
theorem zz_beginH {y : MethodName} {bytes : ByteArray} {maxL : Nat} {ret : Option FieldType} {hh : List (Nat × Nat × Nat × Nat)} {d mc ms : Nat} {args : List Value} {sh : zm_Sh} {mi : zm_Mi} {mr : zm_Mr} {Qr : Option Value → zm_Sh → zm_Mi → zm_Mr → Prop} {Qx : String → zm_Sh → zm_Mi → zm_Mr → Prop} (own : String) (ls : List (Nat × Value))
    (hy : plainName y.cls = true) (ho : y.cls = own) (hc1 : (args.all fun v => decide (v.category = 1)) = true) (hlen : args.length ≤ maxL) (hls : zz_args 0 args = ls)
    (body : ∀ (Γ : zz_C) (D : zz_D) (E : zz_E) (ad : Nat → Nat), zz_X Γ (D, E, maxL, ad, sh) own bytes d mc ms → (zz_h Γ).sig.returnType = ret → (zz_c Γ).exceptionTable.toList = tableOf hh →
      zz Γ (D, E, maxL, ad, sh) (zz_End Γ (D, E, maxL, ad, sh) Qr Qx mc ms) 0 0 sh mi mr 0 ls []) : zz_Con y (.codeWith y bytes maxL ret hh) d mc ms args sh mi mr Qr Qx := by
  subst hls; subst ho
  exact zz_introH hy (fun v hv => of_decide_eq_true (List.all_eq_true.mp hc1 v hv)) hlen body
end ZCA
def zq_w (A B C : Prop) (kI kA kS a : Int32) (S S' : zS) (sh : zm_Sh) (mi : zm_Mi) (mr : zm_Mr) : Option Value → zm_Sh → zm_Mi → zm_Mr → Prop := fun v s i m => ∃ k, v = some (.int k) ∧ ((A ∧ B ∧ C ∧ k = nI 0 ∧ i 8 0 = a ∧ zR S' s i m) ∨ (¬ A ∧ k = kI ∧ zR S s i m) ∨ (A ∧ ¬ B ∧ k = kA ∧ zR S s i m) ∨ (A ∧ B ∧ ¬ C ∧ k = kS ∧ zR S s i m)) ∧ s 8 = some (3, 1) ∧ ∀ l, l < 2 ∨ (9 ≤ l ∧ l < 200) → s l = sh l ∧ i l = mi l ∧ m l = mr l
section ZSB
variable {S : zS} {sh s : zm_Sh} {mi i : zm_Mi} {mr m : zm_Mr}
theorem zR_same (hW : zW S) (h : zR S sh mi mr) (e : ∀ l, zr_cl l → s l = sh l ∧ i l = mi l ∧ m l = mr l) : zR S s i m := by
  obtain ⟨hm, hp, ⟨hv1, hv2⟩, hs, hf⟩ := h
  have n1 := hW.1.2.1
  have n2 := hW.2.1.2.1
  have n3 := hW.2.2.1.2.1
  have E : ∀ l, (2 ≤ l ∧ l ≤ 7) ∨ 200 ≤ l → s l = sh l ∧ i l = mi l ∧ m l = mr l := e
  have a2 := E 2 (by omega)
  have a3 := E 3 (by omega)
  have a4 := E 4 (by omega)
  have a5 := E 5 (by omega)
  refine ⟨?_, fun p hp9 => zR_p_same (hp p hp9) (fun l h1 h2 => E l (by omega)) (congrFun a3.2.2 _) rfl rfl rfl rfl, ⟨fun v hv => (congrFun a4.2.2 _).trans (hv1 v hv), fun v hv => zR_v_same (hv2 v hv) (fun l h1 h2 => E l (by omega)) rfl rfl rfl⟩, fun a ha => ?_, fun l h1 h2 => (E l (by omega)).1.trans (hf.1 l h1 h2), fun l h1 h2 => (E l (by omega)).1.trans (hf.2.1 l h1 h2), fun l h1 => (E l (by omega)).1.trans (hf.2.2 l h1)⟩
  · obtain ⟨m1, m2, m3, m4, m5, m6, m7, m8, m9, m10, m11, m12, m13, m14, m15, m16, m17, m18, m19, m20⟩ := hm
    have a6 := E 6 (by omega)
    have a7 := E 7 (by omega)
    exact ⟨a2.1.trans m1, (congrFun a2.2.2 _).trans m2, (congrFun a2.2.2 _).trans m3, (congrFun a2.2.2 _).trans m4, (congrFun a2.2.2 _).trans m5, (congrFun a2.2.2 _).trans m6, (congrFun a2.2.2 _).trans m7, a3.1.trans m8, a4.1.trans m9, a5.1.trans m10, a6.1.trans m11, a7.1.trans m12, (congrFun a2.2.1 _).trans m13, (congrFun a2.2.1 _).trans m14, (congrFun a2.2.1 _).trans m15, (congrFun a2.2.1 _).trans m16, (congrFun a2.2.1 _).trans m17, (congrFun a2.2.1 _).trans m18, fun q hq => (congrFun a6.2.1 _).trans (m19 q hq), fun q hq => (congrFun a7.2.1 _).trans (m20 q hq)⟩
  · have hj6 := (hW.1.2.2.1 _ (hW.2.2.1.2.2.1 a ha).2.1).2.2
    exact zR_s_same hj6 (hs a ha) (fun l h1 h2 => E l (by omega)) (congrFun a5.2.2 _) rfl rfl rfl rfl rfl rfl rfl rfl (fun _ _ => rfl)
theorem zM_same (h : zM S sh mi mr) (e : ∀ l, l = 1 ∨ (100 ≤ l ∧ l < 131) → s l = sh l ∧ i l = mi l ∧ m l = mr l) : zM S s i m := by
  obtain ⟨h1, h2, h3, h4⟩ := h
  have a1 := e 1 (by omega)
  refine ⟨a1.1.trans h1, fun r hr => ?_, fun r k hr hk => ?_, fun r h30 h0 => (congrFun a1.2.1 _).trans (h4 r h30 h0)⟩
  · have h31 := zM_l31 hr
    exact ⟨(congrFun a1.2.2 _).trans (h2 r hr).1, (e (100 + r) (by omega)).1.trans (h2 r hr).2⟩
  · have h31 := zM_l31 hr
    exact (congrFun (e (100 + r) (by omega)).2.1 _).trans (h3 r k hr hk)
end ZSB
/-! the state's order behind every call -/
theorem zW_row {S T : zS} (hW : zW S) {r : Nat} (hT : ∀ q, q ≠ r → T q = S q) (hr : r = 18 ∨ r = 19) (hk : zW_k T) : zW T := by
  have E : ∀ q, q ≠ 18 ∧ q ≠ 19 → T q = S q := fun q hq => hT q (by omega)
  obtain ⟨hWp, hWv, hWs, hWk, hWr, hWf⟩ := hW
  refine ⟨?_, ?_, ?_, hk, ?_, ?_⟩
  · unfold zW_p zv_np zv_jn
    rw [E 0 (by omega), E 1 (by omega), E 2 (by omega), E 3 (by omega), E 4 (by omega)]
    exact hWp
  · unfold zW_v zv_nv zv_sc
    rw [E 5 (by omega), E 6 (by omega), E 7 (by omega), E 8 (by omega)]
    exact hWv
  · unfold zW_s zv_ns zv_pu zv_np zv_fr zv_st zv_nv zv_sk
    rw [E 0 (by omega), E 5 (by omega), E 9 (by omega), E 10 (by omega), E 11 (by omega), E 12 (by omega), E 13 (by omega), E 14 (by omega), E 15 (by omega), E 16 (by omega)]
    exact hWs
  · unfold zW_r zv_ns zv_sk
    rw [E 9 (by omega), E 15 (by omega), E 24 (by omega), E 26 (by omega)]
    exact hWr
  · unfold zW_f zv_nf zv_fl zv_ns
    rw [E 9 (by omega), E 17 (by omega), E 28 (by omega), E 29 (by omega)]
    exact hWf
theorem zW_key {S : zS} (hW : zW S) {i j f : Nat} {d : Int32} (hi : i < zv_ns S) (hj : j < zv_jn S (zv_pu S i)) (hf : f < zv_fr S i) (hd : zv_in d 0 359) : zW (zm_u2 S 18 (48 * (6 * i + j) + f) d) := by
  have hj6 := (hW.1.2.2.1 _ (hW.2.2.1.2.2.1 i hi).2.1).2.2
  have hfr := (hW.2.2.1.2.2.1 i hi).2.2.2.2.1
  refine zW_row hW (r := 18) (fun q hq => zm_u2r hq) (Or.inl rfl) ?_
  obtain ⟨k1, k2, k3, k4, k5, k6⟩ := hW.2.2.2.1
  have e9 : zm_u2 S 18 (48 * (6 * i + j) + f) d 9 = S 9 := zm_u2r (by decide)
  have e11 : zm_u2 S 18 (48 * (6 * i + j) + f) d 11 = S 11 := zm_u2r (by decide)
  have e19 : zm_u2 S 18 (48 * (6 * i + j) + f) d 19 = S 19 := zm_u2r (by decide)
  unfold zW_k zv_ns zv_fr
  rw [e9, e11, e19]
  refine ⟨fun x => ?_, fun x hx => ?_, fun a b c ha hb h1 h2 => ?_, k4, k5, k6⟩
  · by_cases e : x = 48 * (6 * i + j) + f
    · rw [e, zm_u2s]; exact Or.inr hd
    · rw [zm_u2k e]; exact k1 x
  · have hx2 : 288 * zv_ns S ≤ x := hx
    rw [zm_u2k (by omega)]; exact k2 x hx
  · have hc : zv_fr S a ≤ c := h1
    rw [zm_u2k (fun q => by
      have : a = i := by omega
      rw [this] at hc
      omega)]
    exact k3 a b c ha hb h1 h2
theorem zW_cam {S : zS} (hW : zW S) {i f : Nat} {d : Int32} (hi : i < zv_ns S) (hf : f < zv_fr S i) (hd : zv_in d (-999) 999) : zW (zm_u2 S 19 (48 * i + f) d) := by
  have hfr := (hW.2.2.1.2.2.1 i hi).2.2.2.2.1
  refine zW_row hW (r := 19) (fun q hq => zm_u2r hq) (Or.inr rfl) ?_
  obtain ⟨k1, k2, k3, k4, k5, k6⟩ := hW.2.2.2.1
  have e9 : zm_u2 S 19 (48 * i + f) d 9 = S 9 := zm_u2r (by decide)
  have e11 : zm_u2 S 19 (48 * i + f) d 11 = S 11 := zm_u2r (by decide)
  have e18 : zm_u2 S 19 (48 * i + f) d 18 = S 18 := zm_u2r (by decide)
  unfold zW_k zv_ns zv_fr
  rw [e9, e11, e18]
  refine ⟨k1, k2, k3, fun x => ?_, fun x hx => ?_, fun a c ha h1 h2 => ?_⟩
  · by_cases e : x = 48 * i + f
    · rw [e, zm_u2s]; exact Or.inr hd
    · rw [zm_u2k e]; exact k4 x
  · have hx2 : 48 * zv_ns S ≤ x := hx
    rw [zm_u2k (by omega)]; exact k5 x hx
  · have hc : zv_fr S a ≤ c := h1
    rw [zm_u2k (fun q => by
      have : a = i := by omega
      rw [this] at hc
      omega)]
    exact k6 a c ha h1 h2
theorem zW_less {S : zS} (hW : zW S) {i k : Nat} (hi : i < zv_ns S) (hk : k < zv_sk S i) : zW (zm_u2 S 15 i (nI k)) := by
  obtain ⟨hWp, hWv, ⟨s0, s1, s2, s3⟩, hWk, hWr, hWf⟩ := hW
  obtain ⟨b1, b2, b3, b4, b5, b6, b7, b8, b9, b10, b11, b12, b13⟩ := s2 i hi
  have E : ∀ q, q ≠ 15 → zm_u2 S 15 i (nI k) q = S q := fun q hq => zm_u2r hq
  have hzn : zn (nI k) = k := nI_clamp (n := k) (by omega)
  have hsk : ∀ a, (a ≠ i → zm_u2 S 15 i (nI k) 15 a = S 15 a) ∧ (a = i → zm_u2 S 15 i (nI k) 15 a = nI k) := fun a => ⟨fun e => zm_u2k e, fun e => by rw [e]; exact zm_u2s⟩
  generalize zm_u2 S 15 i (nI k) = T at *
  refine ⟨?_, ?_, ?_, ?_, ?_, ?_⟩
  · unfold zW_p zv_np zv_jn
    rw [E 0 (by omega), E 1 (by omega), E 2 (by omega), E 3 (by omega), E 4 (by omega)]
    exact hWp
  · unfold zW_v zv_nv zv_sc
    rw [E 5 (by omega), E 6 (by omega), E 7 (by omega), E 8 (by omega)]
    exact hWv
  · unfold zW_s zv_ns zv_pu zv_np zv_fr zv_st zv_nv zv_sk
    rw [E 0 (by omega), E 5 (by omega), E 9 (by omega), E 10 (by omega), E 11 (by omega), E 12 (by omega), E 13 (by omega), E 14 (by omega), E 16 (by omega)]
    refine ⟨s0, s1, fun a h => ?_, fun a h => ?_⟩
    · obtain ⟨c1, c2, c3, c4, c5, c6, c7, c8, c9, c10, c11, c12, c13⟩ := s2 a h
      by_cases e : a = i
      · rw [(hsk a).2 e, hzn]
        have hkf : k ≤ zn (S 11 a) := by rw [e]; show k ≤ zv_fr S i; omega
        exact ⟨c1, c2, c3, c4, c5, c6, c7, c8, c9, c10, rfl, hkf, fun _ => by rw [e]; exact b13 (by omega)⟩
      · rw [(hsk a).1 e]
        exact ⟨c1, c2, c3, c4, c5, c6, c7, c8, c9, c10, c11, c12, c13⟩
    · have hi2 : i < zn (S 9 0) := hi
      rw [(hsk a).1 (by omega)]
      exact s3 a h
  · unfold zW_k zv_ns zv_fr
    rw [E 9 (by omega), E 11 (by omega), E 18 (by omega), E 19 (by omega)]
    exact hWk
  · intro a f ha hf
    have ha2 : a < zn (T 9 0) := ha
    have hf2 : f < zn (T 15 a) := hf
    rw [E 9 (by omega)] at ha2
    rw [E 24 (by omega), E 26 (by omega)]
    refine hWr a f ha2 ?_
    by_cases e : a = i
    · rw [(hsk a).2 e, hzn] at hf2
      rw [e]; omega
    · rw [(hsk a).1 e] at hf2; exact hf2
  · unfold zW_f zv_nf zv_fl zv_ns
    rw [E 9 (by omega), E 17 (by omega), E 28 (by omega), E 29 (by omega)]
    exact hWf
theorem zW_0 : zW zt_0 := by
  have z0 : zv_np zt_0 = 0 := by decide
  have z5 : zv_nv zt_0 = 0 := by decide
  have z9 : zv_ns zt_0 = 0 := by decide
  have z28 : zv_nf zt_0 = 0 := by decide
  have z6 : ∀ v, zv_sc zt_0 v = 0 := fun v => by show zn (0 : Int32) = 0; decide
  have i0 : zv_in 0 0 359 := by unfold zv_in; rw [Int32.toInt_zero]; omega
  refine ⟨⟨by decide, by omega, fun p hp => by omega, fun a => i0, fun a _ => ⟨rfl, rfl⟩, fun a _ => rfl⟩, ⟨by decide, by omega, fun v _ => ?_, fun v _ _ => rfl, fun v k _ hk => ?_⟩, ⟨by decide, by omega, fun i hi => by omega, fun i _ => ⟨rfl, rfl⟩⟩, ⟨fun x => Or.inl rfl, fun x _ => rfl, fun i j f hi => by omega, fun x => Or.inl rfl, fun x _ => rfl, fun i f hi => by omega⟩, fun i f hi => by omega, ⟨by decide, by omega, fun k hk => by omega, fun a b ha => by omega, fun a => Or.inl rfl⟩⟩
  · rw [z6]; exact ⟨rfl, by omega⟩
  · rw [z6] at hk; omega
theorem zW_voice {S : zS} (hW : zW S) (hn : zv_nv S < 6) : zW (zt_voice S) := by
  obtain ⟨hWp, ⟨v0, v1, v2, v3, v4⟩, ⟨s0, s1, s2, s3⟩, hWk, hWr, hWf⟩ := hW
  have hnv : zv_nv (zt_voice S) = zv_nv S + 1 := by show zn (zm_u2 S 5 0 (nI (zv_nv S + 1)) 5 0) = _; rw [zm_u2s]; exact nI_clamp (n := zv_nv S + 1) (by omega)
  have E : ∀ q, q ≠ 5 → zt_voice S q = S q := fun q hq => zm_u2r hq
  have e50 : zt_voice S 5 0 = nI (zv_nv S + 1) := zm_u2s
  generalize zt_voice S = T at *
  refine ⟨?_, ?_, ?_, ?_, ?_, ?_⟩
  · unfold zW_p zv_np zv_jn
    rw [E 0 (by omega), E 1 (by omega), E 2 (by omega), E 3 (by omega), E 4 (by omega)]
    exact hWp
  · unfold zW_v
    rw [hnv, e50]
    unfold zv_sc
    rw [E 6 (by omega), E 7 (by omega), E 8 (by omega)]
    exact ⟨rfl, by omega, v2, fun v h1 h2 => v3 v (by omega) h2, v4⟩
  · unfold zW_s
    rw [hnv]
    unfold zv_ns zv_pu zv_np zv_fr zv_st zv_sk
    rw [E 0 (by omega), E 9 (by omega), E 10 (by omega), E 11 (by omega), E 12 (by omega), E 13 (by omega), E 14 (by omega), E 15 (by omega), E 16 (by omega)]
    refine ⟨s0, s1, fun i hi => ?_, s3⟩
    obtain ⟨b1, b2, b3, b4, b5, b6, b7, b8, b9, b10, b11, b12, b13⟩ := s2 i hi
    exact ⟨b1, b2, b3, b4, b5, b6, b7, b8, b9.imp id (fun h => ⟨h.1, by have := h.2; omega⟩), b10, b11, b12, b13⟩
  · unfold zW_k zv_ns zv_fr
    rw [E 9 (by omega), E 11 (by omega), E 18 (by omega), E 19 (by omega)]
    exact hWk
  · unfold zW_r zv_ns zv_sk
    rw [E 9 (by omega), E 15 (by omega), E 24 (by omega), E 26 (by omega)]
    exact hWr
  · unfold zW_f zv_nf zv_fl zv_ns
    rw [E 9 (by omega), E 17 (by omega), E 28 (by omega), E 29 (by omega)]
    exact hWf
theorem zW_puppet {S : zS} (hW : zW S) (hn : zv_np S < 5) {jn : Nat} (hj : 1 ≤ jn ∧ jn ≤ 6) : zW (zt_puppet S (nI jn)) := by
  obtain ⟨⟨p0, p1, p2, p3, p4, p5⟩, hWv, ⟨s0, s1, s2, s3⟩, hWk, hWr, hWf⟩ := hW
  have hnp : zv_np (zt_puppet S (nI jn)) = zv_np S + 1 := by show zn (zm_u2 (zm_u2 S 1 (zv_np S) (nI jn)) 0 0 (nI (zv_np S + 1)) 0 0) = _; rw [zm_u2s]; exact nI_clamp (n := zv_np S + 1) (by omega)
  have E : ∀ r, r ≠ 0 → r ≠ 1 → zt_puppet S (nI jn) r = S r := fun r h h' => (zm_u2r h).trans (zm_u2r h')
  have e00 : zt_puppet S (nI jn) 0 0 = nI (zv_np S + 1) := zm_u2s
  have e1n : zt_puppet S (nI jn) 1 (zv_np S) = nI jn := (zm_u2l (by decide)).trans zm_u2s
  have e1 : ∀ p, p ≠ zv_np S → zt_puppet S (nI jn) 1 p = S 1 p := fun p h => (zm_u2l (by decide)).trans (zm_u2k h)
  have hzn : zn (nI jn) = jn := nI_clamp (n := jn) (by omega)
  generalize zt_puppet S (nI jn) = T at *
  refine ⟨?_, ?_, ?_, ?_, ?_, ?_⟩
  · unfold zW_p
    rw [hnp, e00, E 2 (by omega) (by omega), E 3 (by omega) (by omega), E 4 (by omega) (by omega)]
    refine ⟨rfl, by omega, fun p hp => ?_, p3, fun a ha => p4 a (by omega), fun a ha => p5 a (by omega)⟩
    unfold zv_jn
    by_cases e : p = zv_np S
    · rw [e, e1n, hzn]; exact ⟨rfl, hj.1, hj.2⟩
    · rw [e1 p e]; exact p2 p (by omega)
  · unfold zW_v zv_nv zv_sc
    rw [E 5 (by omega) (by omega), E 6 (by omega) (by omega), E 7 (by omega) (by omega), E 8 (by omega) (by omega)]
    exact hWv
  · unfold zW_s
    rw [hnp]
    unfold zv_ns zv_pu zv_nv zv_fr zv_st zv_sk
    rw [E 5 (by omega) (by omega), E 9 (by omega) (by omega), E 10 (by omega) (by omega), E 11 (by omega) (by omega), E 12 (by omega) (by omega), E 13 (by omega) (by omega), E 14 (by omega) (by omega), E 15 (by omega) (by omega), E 16 (by omega) (by omega)]
    refine ⟨s0, s1, fun i hi => ?_, s3⟩
    obtain ⟨b1, b2, b3, b4, b5, b6, b7, b8, b9, b10, b11, b12, b13⟩ := s2 i hi
    have b2' : zn (S 10 i) < zv_np S + 1 := Nat.lt_succ_of_lt b2
    exact ⟨b1, b2', b3, b4, b5, b6, b7, b8, b9, b10, b11, b12, b13⟩
  · unfold zW_k zv_ns zv_fr
    rw [E 9 (by omega) (by omega), E 11 (by omega) (by omega), E 18 (by omega) (by omega), E 19 (by omega) (by omega)]
    exact hWk
  · unfold zW_r zv_ns zv_sk
    rw [E 9 (by omega) (by omega), E 15 (by omega) (by omega), E 24 (by omega) (by omega), E 26 (by omega) (by omega)]
    exact hWr
  · unfold zW_f zv_nf zv_fl zv_ns
    rw [E 9 (by omega) (by omega), E 17 (by omega) (by omega), E 28 (by omega) (by omega), E 29 (by omega) (by omega)]
    exact hWf
theorem zW_sound {S : zS} (hW : zW S) {x f : Int32} (hx : nI 0 ≤ x ∧ x ≤ nI 9) (hf : nI 1 ≤ f ∧ f ≤ nI 24) (hc : zv_sc S (zv_nv S) < 12) : zW (zt_sound S x f) := by
  obtain ⟨hWp, ⟨v0, v1, v2, v3, v4⟩, hWs, hWk, hWr, hWf⟩ := hW
  have t6 := fun v => @zt_sound_6 S x f v
  have t7 := fun v => @zt_sound_7 S x f v
  have t8 := fun v => @zt_sound_8 S x f v
  have tc := fun v => @zt_sound_sc S x f v hc
  have E : ∀ r, r ≠ 6 → r ≠ 7 → r ≠ 8 → zt_sound S x f r = S r := fun r => zt_sound_r
  have hx2 : zv_in x 0 9 := by
    obtain ⟨h1, h2⟩ := hx
    rw [zs_le, nI_toInt (by decide)] at h1 h2
    exact ⟨h1, h2⟩
  have hf2 : zv_in f 1 24 := by
    obtain ⟨h1, h2⟩ := hf
    rw [zs_le, nI_toInt (by decide)] at h1 h2
    exact ⟨h1, h2⟩
  generalize zt_sound S x f = T at *
  have hnv : zv_nv T = zv_nv S := by unfold zv_nv; rw [E 5 (by omega) (by omega) (by omega)]
  refine ⟨?_, ?_, ?_, ?_, ?_, ?_⟩
  · unfold zW_p zv_np zv_jn
    rw [E 0 (by omega) (by omega) (by omega), E 1 (by omega) (by omega) (by omega), E 2 (by omega) (by omega) (by omega), E 3 (by omega) (by omega) (by omega), E 4 (by omega) (by omega) (by omega)]
    exact hWp
  · unfold zW_v
    rw [hnv, E 5 (by omega) (by omega) (by omega)]
    refine ⟨v0, v1, fun v hv => ?_, fun v h1 h2 => ?_, fun v k hv hk => ?_⟩
    · rw [tc, t6]
      by_cases e : v = zv_nv S
      · rw [if_pos e, if_pos e]; exact ⟨rfl, by omega⟩
      · rw [if_neg e, if_neg e]; exact v2 v hv
    · rw [t6, if_neg (by omega)]; exact v3 v h1 h2
    · rw [tc] at hk
      rw [t7, t8]
      have hm := (v2 v hv).2
      have hm2 := (v2 (zv_nv S) (by omega)).2
      by_cases e : 12 * v + k = 12 * zv_nv S + zv_sc S (zv_nv S)
      · rw [if_pos e, if_pos e]; exact ⟨hx2, hf2⟩
      · rw [if_neg e, if_neg e]
        refine v4 v k hv ?_
        by_cases e2 : v = zv_nv S
        · rw [if_pos e2] at hk
          rw [e2] at e ⊢
          omega
        · rw [if_neg e2] at hk; exact hk
  · unfold zW_s zv_ns zv_pu zv_np zv_fr zv_st zv_nv zv_sk
    rw [E 0 (by omega) (by omega) (by omega), E 5 (by omega) (by omega) (by omega), E 9 (by omega) (by omega) (by omega), E 10 (by omega) (by omega) (by omega), E 11 (by omega) (by omega) (by omega), E 12 (by omega) (by omega) (by omega), E 13 (by omega) (by omega) (by omega), E 14 (by omega) (by omega) (by omega), E 15 (by omega) (by omega) (by omega), E 16 (by omega) (by omega) (by omega)]
    exact hWs
  · unfold zW_k zv_ns zv_fr
    rw [E 9 (by omega) (by omega) (by omega), E 11 (by omega) (by omega) (by omega), E 18 (by omega) (by omega) (by omega), E 19 (by omega) (by omega) (by omega)]
    exact hWk
  · unfold zW_r zv_ns zv_sk
    rw [E 9 (by omega) (by omega) (by omega), E 15 (by omega) (by omega) (by omega), E 24 (by omega) (by omega) (by omega), E 26 (by omega) (by omega) (by omega)]
    exact hWr
  · unfold zW_f zv_nf zv_fl zv_ns
    rw [E 9 (by omega) (by omega) (by omega), E 17 (by omega) (by omega) (by omega), E 28 (by omega) (by omega) (by omega), E 29 (by omega) (by omega) (by omega)]
    exact hWf
