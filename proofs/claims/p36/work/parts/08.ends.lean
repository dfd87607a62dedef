/-! ===== ends, throws, catches, the JDK's own ===== -/
theorem va_F.of {E : zz_E} {u t : State} {H : Heap} {locs : List Loc} (h : va_S (zz_A E) u.heap H locs) (ht : t.heap = H) : va_F (zz_A E) u t := ⟨by rw [ht]; exact h.1, fun q h1 h2 => by rw [ht]; exact h.2.1 q h1 h2⟩
theorem zm_P.kept {D : zz_D} {E : zz_E} {ad : Nat → Nat} {sh : zm_Sh} {mi : zm_Mi} {mr : zm_Mr} {H H1 : Heap} (h : zm_P D E ad sh mi mr H) (hq : ∀ q : Nat, q < H.size → H1[q]? = H[q]?) : zm_P D E ad sh mi mr H1 := by
  obtain ⟨⟨L, hL, hP, hD⟩, hr, h9⟩ := h
  exact ⟨⟨L, hL, hP.kept (fun k q hk => hq q.1 ((hP k q hk).lt)), hD⟩, hr, h9⟩
/-- the words of a throw of the class cls at the pool's places -/
def zz_T (own : String) (ik is ic : Nat) (cls text : String) : Prop :=
  Bundle.fit cls = true ∧ Cond.classLink own ik cls ∈ lw_tbl ∧ Cond.initialized cls ∈ lw_tbl ∧ (own, is, text) ∈ zk_str ∧ (vx_atS own ic cls ["java/lang/RuntimeException", "java/lang/Exception"]).all (fun w => decide (w ∈ lw_tbl) && zk_ok w && vx_ot w) = true ∧ vx_ot (Cond.classLink own ik cls) = true ∧ vx_ot (Cond.initialized cls) = true
section ZE
variable {Γ : zz_C} {G : zz_G} {cells slots : Nat} {sh : zm_Sh} {mi : zm_Mi} {mr : zm_Mr} {pc : Nat} {ls : List (Nat × Value)} {st : List Value} {own : String} {cc : ByteArray} {d mc ms : Nat} {Qr : Option Value → zm_Sh → zm_Mi → zm_Mr → Prop} {Qx : String → zm_Sh → zm_Mi → zm_Mr → Prop}
theorem zz_iret (X : zz_X Γ G own cc d mc ms) {v : Int32} {ty : FieldType} (hr : (zz_h Γ).sig.returnType = some ty) (hn : narrow ty (.int v) = .int v) (hc : cells ≤ mc) (hs : slots ≤ ms) (hdg : decode cc pc = .ok (.ireturn, 1)) (hq : Qr (some (.int v)) sh mi mr) : zz Γ G (zz_End Γ G Qr Qx mc ms) cells slots sh mi mr pc ls [.int v] := by
  intro ad H locs la h
  refine W.widen hc hs (vx_ret ?_)
  exact W.zret X.1 X.2.1 hr hn (fun t ht _ => ⟨some (.int v), ad, sh, mi, mr, rfl, hq, by rw [ht]; exact h.1, h.2.2.1, fun w hw => (by cases hw; trivial), va_F.of h.2.1 ht⟩) h.2.1.2.2 hdg X.2.2.2.2.1
theorem zz_vret (X : zz_X Γ G own cc d mc ms) (hr : (zz_h Γ).sig.returnType = none) (hc : cells ≤ mc) (hs : slots ≤ ms) (hdg : decode cc pc = .ok (.return_, 1)) (hq : Qr none sh mi mr) : zz Γ G (zz_End Γ G Qr Qx mc ms) cells slots sh mi mr pc ls [] := by
  intro ad H locs la h
  refine W.widen hc hs (vx_ret ?_)
  exact W.vret X.1 X.2.1 hr (fun t ht _ => ⟨none, ad, sh, mi, mr, rfl, hq, by rw [ht]; exact h.1, h.2.2.1, (fun w hw => nomatch hw), va_F.of h.2.1 ht⟩) h.2.1.2.2 hdg X.2.2.2.2.1
theorem zz_aret (X : zz_X Γ G own cc d mc ms) {l : Nat} {ty : FieldType} (hr : (zz_h Γ).sig.returnType = some ty) (hty : (∃ n, ty = .object n) ∨ ∃ t, ty = .array t) (hc : cells ≤ mc) (hs : slots ≤ ms) (hdg : decode cc pc = .ok (.areturn, 1)) (hq : Qr (some (.ref l)) sh mi mr) : zz Γ G (zz_End Γ G Qr Qx mc ms) cells slots sh mi mr pc ls [.ref l] := by
  intro ad H locs la h
  refine W.widen hc hs (vx_ret ?_)
  exact W.aret (v := .ref (ad l)) X.1 X.2.1 hr hty (Or.inr ⟨_, rfl⟩) (fun t ht _ => ⟨some (.ref l), ad, sh, mi, mr, rfl, hq, by rw [ht]; exact h.1, h.2.2.1, fun w hw => (by cases hw; exact zm_oh h.oks), va_F.of h.2.1 ht⟩) h.2.1.2.2 hdg X.2.2.2.2.1
/-- not caught here -/
theorem zz_out (X : zz_X Γ G own cc d mc ms) (hT : ∀ x ∈ (zz_c Γ).exceptionTable.toList, False) {En : String} (hc : cells ≤ mc) (hs : slots ≤ ms) (hq : Qx En sh mi mr) : zzx Γ G (zz_End Γ G Qr Qx mc ms) cells slots sh mi mr pc ls st En := by
  intro ad H locs la q ce h h1 h2 h3
  exact vx_out (fun x hx => absurd hx (hT x)) X.2.2.2.2.1 h1 h2 h3 (fun t ht _ => ⟨ad, sh, mi, mr, hq, by rw [ht]; exact h.1, h.2.2.1, va_F.of h.2.1 ht⟩) h.2.1.2.2 hc hs
theorem zz_throw (X : zz_X Γ G own cc d mc ms) (hT : ∀ x ∈ (zz_c Γ).exceptionTable.toList, False) {ik is ic : Nat} {cls text : String} (V : zz_T own ik is ic cls text) (d0 : decode cc pc = .ok (.new ik, 3)) (d3 : decode cc (pc + 3) = .ok (.dup, 1)) (d4 : decode cc (pc + 4) = .ok (.ldc is, 2)) (d6 : decode cc (pc + 6) = .ok (.invokespecial ic, 3)) (d9 : decode cc (pc + 9) = .ok (.athrow, 1))
    (hd : 6 ≤ d) (hr : (st.map fun v => v.category).sum ≤ 8) (hc : cells + 1 ≤ mc) (hs : slots + 6 ≤ ms) (hq : Qx cls sh mi mr) : zz Γ G (zz_End Γ G Qr Qx mc ms) cells slots sh mi mr pc ls st := by
  intro ad H locs la h
  obtain ⟨t1, t2, t3, t4, t5, t6, t7⟩ := V
  have K := X.2.2.2.2.2.2.1
  have hR := X.2.2.2.2.2.2.2
  obtain ⟨sa, hsa⟩ := K.2.2.2.2.2.2.1 _ t4
  have t5' : ∀ w ∈ vx_atS own ic cls ["java/lang/RuntimeException", "java/lang/Exception"], w ∈ lw_tbl ∧ zk_ok w = true ∧ vx_ot w = true := fun w hw => by
    have h5 := List.all_eq_true.mp t5 w hw
    simp only [Bool.and_eq_true, decide_eq_true_eq] at h5
    exact ⟨h5.1.1, h5.1.2, h5.2⟩
  refine vx_throwS (names := ["java/lang/RuntimeException", "java/lang/Exception"]) X.1 X.2.1 X.2.2.2.2.2.1 X.2.2.2.1 t1 (fun n hn => ?_) (zk_w K t2 rfl) (zk_w K t3 rfl) hsa (fun w hw => zk_w K (t5' w hw).1 (t5' w hw).2.1) (fun w hw => ?_) K.2.1 K.2.2.1 h.2.1 (zz_sz X h) d0 d3 d4 d6 d9 (fun x hx => absurd hx (hT x)) ?_ ?_ (by rw [hR]; exact hc) (by rw [hR]; exact hs) X.2.2.2.2.1 (fun t _ hz ho => ⟨ad, sh, mi, mr, hq, h.1.kept ho, h.2.2.1, ?_⟩) h.2.1.2.2 hc hs
  · rcases List.mem_cons.mp hn with rfl | hn
    · decide +kernel
    · rcases List.mem_singleton.mp hn with rfl
      decide +kernel
  · rcases List.mem_cons.mp hw with rfl | hw
    · exact t6
    · rcases List.mem_cons.mp hw with rfl | hw
      · exact t7
      · exact (t5' w hw).2.2
  · rw [hR]
    show 2 + 3 < d
    omega
  · rw [hR, zm_cv_cats]
    show _ + (13 * (2 + 1) + 43) ≤ 36 * d + 74 * (d / 13)
    omega
  · exact ⟨Nat.le_trans h.2.1.1 hz, fun q h1 h2 => (ho q (Nat.lt_of_lt_of_le h1 h.2.1.1)).trans (h.2.1.2.1 q h1 h2)⟩
theorem zz_throwW (X : zz_X Γ G own cc d mc ms) (hT : ∀ x ∈ (zz_c Γ).exceptionTable.toList, False) {ik is ic : Nat} {cls text : String} (V : zz_T own ik is ic cls text) (d0 : decode cc pc = .ok (.new ik, 3)) (d3 : decode cc (pc + 3) = .ok (.dup, 1)) (d4 : decode cc (pc + 4) = .ok (.ldc_w is, 3)) (d6 : decode cc (pc + 7) = .ok (.invokespecial ic, 3)) (d9 : decode cc (pc + 10) = .ok (.athrow, 1))
    (hd : 6 ≤ d) (hr : (st.map fun v => v.category).sum ≤ 8) (hc : cells + 1 ≤ mc) (hs : slots + 6 ≤ ms) (hq : Qx cls sh mi mr) : zz Γ G (zz_End Γ G Qr Qx mc ms) cells slots sh mi mr pc ls st := by
  intro ad H locs la h
  obtain ⟨t1, t2, t3, t4, t5, t6, t7⟩ := V
  have K := X.2.2.2.2.2.2.1
  have hR := X.2.2.2.2.2.2.2
  obtain ⟨sa, hsa⟩ := K.2.2.2.2.2.2.1 _ t4
  have t5' : ∀ w ∈ vx_atS own ic cls ["java/lang/RuntimeException", "java/lang/Exception"], w ∈ lw_tbl ∧ zk_ok w = true ∧ vx_ot w = true := fun w hw => by
    have h5 := List.all_eq_true.mp t5 w hw
    simp only [Bool.and_eq_true, decide_eq_true_eq] at h5
    exact ⟨h5.1.1, h5.1.2, h5.2⟩
  refine vx_throwSW (names := ["java/lang/RuntimeException", "java/lang/Exception"]) X.1 X.2.1 X.2.2.2.2.2.1 X.2.2.2.1 t1 (fun n hn => ?_) (zk_w K t2 rfl) (zk_w K t3 rfl) hsa (fun w hw => zk_w K (t5' w hw).1 (t5' w hw).2.1) (fun w hw => ?_) K.2.1 K.2.2.1 h.2.1 (zz_sz X h) d0 d3 d4 d6 d9 (fun x hx => absurd hx (hT x)) ?_ ?_ (by rw [hR]; exact hc) (by rw [hR]; exact hs) X.2.2.2.2.1 (fun t _ hz ho => ⟨ad, sh, mi, mr, hq, h.1.kept ho, h.2.2.1, ?_⟩) h.2.1.2.2 hc hs
  · rcases List.mem_cons.mp hn with rfl | hn
    · decide +kernel
    · rcases List.mem_singleton.mp hn with rfl
      decide +kernel
  · rcases List.mem_cons.mp hw with rfl | hw
    · exact t6
    · rcases List.mem_cons.mp hw with rfl | hw
      · exact t7
      · exact (t5' w hw).2.2
  · rw [hR]
    show 2 + 3 < d
    omega
  · rw [hR, zm_cv_cats]
    show _ + (13 * (2 + 1) + 43) ≤ 36 * d + 74 * (d / 13)
    omega
  · exact ⟨Nat.le_trans h.2.1.1 hz, fun q h1 h2 => (ho q (Nat.lt_of_lt_of_le h1 h.2.1.1)).trans (h.2.1.2.1 q h1 h2)⟩
variable {Q : State → Prop}
theorem zz_max (X : zz_X Γ G own cc d mc ms) {idx : Nat} (hl : Cond.methodLink own idx Lib.Math.max.name ∈ lw_tbl) (hst : Cond.static Lib.Math.max.name ∈ lw_tbl) (hini : Cond.initialized "java/lang/Math" ∈ lw_tbl) (hcd : Cond.code Lib.Math.max.name Lib.Math.max.code 2 (some .int) ∈ lw_tbl) (hd : 1 ≤ d) (hr : (st.map fun v => v.category).sum ≤ 8) (hc : cells ≤ mc) (hs : slots ≤ ms) {x y z : Int32} (hz : (if x < y then y else x) = z) (hdg : decode cc pc = .ok (.invokestatic idx, 3)) (kk : zz Γ G Q cells slots sh mi mr (pc + 3) ls (.int z :: st)) : zz Γ G Q cells slots sh mi mr pc ls (.int y :: .int x :: st) := by
  subst hz
  intro ad H locs la h
  have K := X.2.2.2.2.2.2.1
  have hR := X.2.2.2.2.2.2.2
  exact va_mmax X.1 X.2.1 (zz_sz X h).symm X.2.2.2.1 (zk_w K hl rfl) (zk_w K hst rfl) (zk_w K hini rfl) (zk_w K hcd rfl) (by rw [hR]; exact hd) (by rw [hR, zm_cv_cats]; show _ ≤ 36 * d + 74 * (d / 13); omega) (by rw [hR]; exact hc) (by rw [hR]; exact hs) hdg (kk ad H locs la (h.ws (zm_oc trivial (zm_ot (zm_ot h.oks)))))
theorem zz_abs (X : zz_X Γ G own cc d mc ms) {idx : Nat} (hl : Cond.methodLink own idx Lib.Math.abs.name ∈ lw_tbl) (hst : Cond.static Lib.Math.abs.name ∈ lw_tbl) (hini : Cond.initialized "java/lang/Math" ∈ lw_tbl) (hcd : Cond.code Lib.Math.abs.name Lib.Math.abs.code 1 (some .int) ∈ lw_tbl) (hd : 1 ≤ d) (hr : (st.map fun v => v.category).sum ≤ 8) (hc : cells ≤ mc) (hs : slots ≤ ms) {x z : Int32} (hz : (if 0 ≤ x then x else 0 - x) = z) (hdg : decode cc pc = .ok (.invokestatic idx, 3)) (kk : zz Γ G Q cells slots sh mi mr (pc + 3) ls (.int z :: st)) : zz Γ G Q cells slots sh mi mr pc ls (.int x :: st) := by
  subst hz
  intro ad H locs la h
  have K := X.2.2.2.2.2.2.1
  have hR := X.2.2.2.2.2.2.2
  exact va_mabs X.1 X.2.1 (zz_sz X h).symm X.2.2.2.1 (zk_w K hl rfl) (zk_w K hst rfl) (zk_w K hini rfl) (zk_w K hcd rfl) (by rw [hR]; exact hd) (by rw [hR, zm_cv_cats]; show _ ≤ 36 * d + 74 * (d / 13); omega) (by rw [hR]; exact hc) (by rw [hR]; exact hs) hdg (kk ad H locs la (h.ws (zm_oc trivial (zm_ot h.oks))))
theorem zz_ldc (X : zz_X Γ G own cc d mc ms) {idx : Nat} {v : Int32} (hcn : Cond.constant own idx v ∈ lw_tbl) (hdg : decode cc pc = .ok (.ldc idx, 2)) (kk : zz Γ G Q cells slots sh mi mr (pc + 2) ls (.int v :: st)) : zz Γ G Q cells slots sh mi mr pc ls st :=
  fun ad H locs la h => lv_ldc X.1 X.2.1 X.2.2.2.1 (zk_w X.2.2.2.2.2.2.1 hcn rfl) hdg (kk ad H locs la (h.ws (zm_oc trivial h.oks)))
end ZE
