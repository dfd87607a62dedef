/-! ===== a static method of many locals ===== -/
def zz_SB (own : String) (idx : Nat) (y : MethodName) (bytes : ByteArray) (maxL : Nat) (ret : Option FieldType) (n : Nat) : Prop :=
  Cond.methodLink own idx y ∈ lw_tbl ∧ Cond.static y ∈ lw_tbl ∧ Cond.code y bytes maxL ret ∈ lw_tbl ∧ Cond.initialized y.cls ∈ lw_tbl ∧ (y.cls ≠ "java/lang/invoke/MethodHandle" ∧ y.cls ≠ "java/lang/invoke/VarHandle") ∧ (parseMethodDescriptor y.desc).map (fun d => d.parameters.length) = some n
section ZCB
variable {Γ : zz_C} {G : zz_G} {Q : State → Prop} {cells slots : Nat} {sh : zm_Sh} {mi : zm_Mi} {mr : zm_Mr} {pc : Nat} {ls : List (Nat × Value)} {st stk : List Value} {own : String} {cc : ByteArray} {d mc ms : Nat}
variable {y : MethodName} {bytes : ByteArray} {maxL d1 mc1 ms1 n idx : Nat} {ret : Option FieldType} {As : List Value} {Qr : Option Value → zm_Sh → zm_Mi → zm_Mr → Prop} {Qx : String → zm_Sh → zm_Mi → zm_Mr → Prop}
theorem zz_callSB (X : zz_X Γ G own cc d mc ms) (V : zz_SB own idx y bytes maxL ret n) (hM : zz_Con y (.code y bytes maxL ret) d1 mc1 ms1 As sh mi mr Qr Qx) (hst : stk = As.reverse ++ st) (hn : As.length = n) (hd : d1 + 1 ≤ d) (h17 : 8 + (maxL + 11) + (36 * d1 + 74 * (d1 / 13)) ≤ 36 * d + 74 * (d / 13)) (hr : (st.map fun v => v.category).sum ≤ 8) (h1 : cells + mc1 ≤ mc) (h2 : slots + ms1 ≤ ms) (hdg : decode cc pc = .ok (.invokestatic idx, 3))
    (kk : ∀ v sh' mi' mr', Qr v sh' mi' mr' → (∀ x, sh x ≠ none → sh' x = sh x) → zz Γ G Q (cells + mc1) (slots + ms1) sh' mi' mr' (pc + 3) ls (v.toList ++ st)) (kx : ∀ En sh' mi' mr', Qx En sh' mi' mr' → (∀ x, sh x ≠ none → sh' x = sh x) → zzx Γ G Q (cells + mc1) (slots + ms1) sh' mi' mr' pc ls st En) : zz Γ G Q cells slots sh mi mr pc ls stk := by
  intro ad H locs la h
  obtain ⟨v1, v2, v4, v5, v6, v7⟩ := V
  have K := X.2.2.2.2.2.2.1
  have hR := X.2.2.2.2.2.2.2
  subst hst
  have hoks := h.oks
  refine zz_behind (a9 := (As.map (zm_cv ad)).toArray) kk kx h (zz_oks_app hoks) ?_
  rw [zm_rev]
  exact vx_runS (As := As.map (zm_cv ad)) (zz_fix X) (hM _ G.1 G.2.1 ad X.2.2.2.2.2.1 (fun v hv => hoks v (List.mem_append_left _ (List.mem_reverse.mpr hv)))) (index := idx) (n := n) (bytes := bytes) (maxL := maxL) (ret := ret)
    ⟨⟨rfl, rfl, by rw [hR]; exact hd, by rw [hR]; exact h17, zz_words K v4 rfl, List.mem_singleton.mpr rfl, zk_w K v4 rfl, zk_w K v5 rfl, v6, zz_np v7, zk_w K v1 rfl⟩, zk_w K v2 rfl⟩
    ⟨zz_blind, zz_pre X h⟩ rfl (by rw [List.length_map]; exact hn) ((zz_sz X h).trans X.2.2.1) rfl (zz_room hr) hdg ⟨by rw [hR]; exact h1, by rw [hR]; exact h2⟩
end ZCB
