/-! ===== contracts that say it all; checks; their calls ===== -/
def zz_q (v0 : Option Value) (sh : zm_Sh) (mi : zm_Mi) (mr : zm_Mr) : Option Value → zm_Sh → zm_Mi → zm_Mr → Prop := fun v s i m => v = v0 ∧ s = sh ∧ i = mi ∧ m = mr
def zz_ck (P : Prop) (v0 : Option Value) (sh : zm_Sh) (mi : zm_Mi) (mr : zm_Mr) : Option Value → zm_Sh → zm_Mi → zm_Mr → Prop := fun v s i m => P ∧ v = v0 ∧ s = sh ∧ i = mi ∧ m = mr
def zz_ex (P : Prop) (En : String) (sh : zm_Sh) (mi : zm_Mi) (mr : zm_Mr) : String → zm_Sh → zm_Mi → zm_Mr → Prop := fun e s i m => P ∧ e = En ∧ s = sh ∧ i = mi ∧ m = mr
section ZD
variable {Γ : zz_C} {G : zz_G} {Q : State → Prop} {cells slots : Nat} {sh sh' : zm_Sh} {mi mi' : zm_Mi} {mr mr' : zm_Mr} {pc : Nat} {ls : List (Nat × Value)} {st stk : List Value} {own host : String} {cc : ByteArray} {d mc ms : Nat}
variable {y : MethodName} {bytes : ByteArray} {maxL d1 mc1 ms1 n idx b ci N r l : Nat} {x : Int32} {ret : Option FieldType} {As : List Value} {T : u_T} {P P' : Prop} {En : String}
theorem zz_vI (X : zz_X Γ G own cc d mc ms) (V : zz_V own idx y bytes maxL ret n) (hM : zz_Con y (.code y bytes maxL ret) d1 mc1 ms1 (.ref b :: As) sh mi mr (zz_q (some (.int x)) sh' mi' mr') zz_none) (hb : sh b = some (0, ci)) (hcl : vwCl[ci]? = some (y.cls, T, N)) (hst : stk = As.reverse ++ .ref b :: st) (hn : As.length = n) (hd : d1 + 1 ≤ d) (hr : (st.map fun v => v.category).sum ≤ 8) (h1 : cells + mc1 ≤ mc) (h2 : slots + ms1 ≤ ms) (hdg : decode cc pc = .ok (.invokevirtual idx, 3))
    (kk : zz Γ G Q (cells + mc1) (slots + ms1) sh' mi' mr' (pc + 3) ls (.int x :: st)) : zz Γ G Q cells slots sh mi mr pc ls stk :=
  zz_callV X V hM hb hcl hst hn hd hr h1 h2 hdg (fun v s i m hq _ => by obtain ⟨rfl, rfl, rfl, rfl⟩ := hq; exact kk) (fun _ _ _ _ h _ => h.elim)
theorem zz_vR (X : zz_X Γ G own cc d mc ms) (V : zz_V own idx y bytes maxL ret n) (hM : zz_Con y (.code y bytes maxL ret) d1 mc1 ms1 (.ref b :: As) sh mi mr (zz_q (some (.ref r)) sh' mi' mr') zz_none) (hb : sh b = some (0, ci)) (hcl : vwCl[ci]? = some (y.cls, T, N)) (hst : stk = As.reverse ++ .ref b :: st) (hn : As.length = n) (hd : d1 + 1 ≤ d) (hr : (st.map fun v => v.category).sum ≤ 8) (h1 : cells + mc1 ≤ mc) (h2 : slots + ms1 ≤ ms) (hdg : decode cc pc = .ok (.invokevirtual idx, 3))
    (kk : zz Γ G Q (cells + mc1) (slots + ms1) sh' mi' mr' (pc + 3) ls (.ref r :: st)) : zz Γ G Q cells slots sh mi mr pc ls stk :=
  zz_callV X V hM hb hcl hst hn hd hr h1 h2 hdg (fun v s i m hq _ => by obtain ⟨rfl, rfl, rfl, rfl⟩ := hq; exact kk) (fun _ _ _ _ h _ => h.elim)
theorem zz_vN (X : zz_X Γ G own cc d mc ms) (V : zz_V own idx y bytes maxL ret n) (hM : zz_Con y (.code y bytes maxL ret) d1 mc1 ms1 (.ref b :: As) sh mi mr (zz_q none sh' mi' mr') zz_none) (hb : sh b = some (0, ci)) (hcl : vwCl[ci]? = some (y.cls, T, N)) (hst : stk = As.reverse ++ .ref b :: st) (hn : As.length = n) (hd : d1 + 1 ≤ d) (hr : (st.map fun v => v.category).sum ≤ 8) (h1 : cells + mc1 ≤ mc) (h2 : slots + ms1 ≤ ms) (hdg : decode cc pc = .ok (.invokevirtual idx, 3))
    (kk : zz Γ G Q (cells + mc1) (slots + ms1) sh' mi' mr' (pc + 3) ls st) : zz Γ G Q cells slots sh mi mr pc ls stk :=
  zz_callV X V hM hb hcl hst hn hd hr h1 h2 hdg (fun v s i m hq _ => by obtain ⟨rfl, rfl, rfl, rfl⟩ := hq; exact kk) (fun _ _ _ _ h _ => h.elim)
theorem zz_sI (X : zz_X Γ G own cc d mc ms) (V : zz_S own idx y bytes maxL ret n) (hM : zz_Con y (.code y bytes maxL ret) d1 mc1 ms1 As sh mi mr (zz_q (some (.int x)) sh' mi' mr') zz_none) (hst : stk = As.reverse ++ st) (hn : As.length = n) (hd : d1 + 1 ≤ d) (hr : (st.map fun v => v.category).sum ≤ 8) (h1 : cells + mc1 ≤ mc) (h2 : slots + ms1 ≤ ms) (hdg : decode cc pc = .ok (.invokestatic idx, 3))
    (kk : zz Γ G Q (cells + mc1) (slots + ms1) sh' mi' mr' (pc + 3) ls (.int x :: st)) : zz Γ G Q cells slots sh mi mr pc ls stk :=
  zz_callS X V hM hst hn hd hr h1 h2 hdg (fun v s i m hq _ => by obtain ⟨rfl, rfl, rfl, rfl⟩ := hq; exact kk) (fun _ _ _ _ h _ => h.elim)
theorem zz_snI (X : zz_X Γ G own cc d mc ms) (V : zz_SN own host idx y bytes maxL ret n) (hM : zz_Con y (.code y bytes maxL ret) d1 mc1 ms1 As sh mi mr (zz_q (some (.int x)) sh' mi' mr') zz_none) (hst : stk = As.reverse ++ st) (hn : As.length = n) (hd : d1 + 1 ≤ d) (hr : (st.map fun v => v.category).sum ≤ 8) (h1 : cells + mc1 ≤ mc) (h2 : slots + ms1 ≤ ms) (hdg : decode cc pc = .ok (.invokestatic idx, 3))
    (kk : zz Γ G Q (cells + mc1) (slots + ms1) sh' mi' mr' (pc + 3) ls (.int x :: st)) : zz Γ G Q cells slots sh mi mr pc ls stk :=
  zz_callSN X V hM hst hn hd hr h1 h2 hdg (fun v s i m hq _ => by obtain ⟨rfl, rfl, rfl, rfl⟩ := hq; exact kk) (fun _ _ _ _ h _ => h.elim)
theorem zz_iN (X : zz_X Γ G own cc d mc ms) (V : zz_I own idx y bytes maxL n) (hM : zz_Con y (.code y bytes maxL none) d1 mc1 ms1 (.ref b :: As) sh mi mr (zz_q none sh' mi' mr') zz_none) (hst : stk = As.reverse ++ .ref b :: st) (hn : As.length = n) (hd : d1 + 1 ≤ d) (hr : (st.map fun v => v.category).sum ≤ 8) (h1 : cells + mc1 ≤ mc) (h2 : slots + ms1 ≤ ms) (hdg : decode cc pc = .ok (.invokespecial idx, 3))
    (kk : zz Γ G Q (cells + mc1) (slots + ms1) sh' mi' mr' (pc + 3) ls st) : zz Γ G Q cells slots sh mi mr pc ls stk :=
  zz_callI X V hM hst hn hd hr h1 h2 hdg (fun v s i m hq _ => by obtain ⟨rfl, rfl, rfl, rfl⟩ := hq; exact kk) (fun _ _ _ _ h _ => h.elim)
theorem zz_vC (X : zz_X Γ G own cc d mc ms) (V : zz_V own idx y bytes maxL ret n) (hM : zz_Con y (.code y bytes maxL ret) d1 mc1 ms1 (.ref b :: As) sh mi mr (zz_ck P none sh' mi' mr') (zz_ex P' En sh mi mr)) (hb : sh b = some (0, ci)) (hcl : vwCl[ci]? = some (y.cls, T, N)) (hst : stk = As.reverse ++ .ref b :: st) (hn : As.length = n) (hd : d1 + 1 ≤ d) (hr : (st.map fun v => v.category).sum ≤ 8) (h1 : cells + mc1 ≤ mc) (h2 : slots + ms1 ≤ ms) (hdg : decode cc pc = .ok (.invokevirtual idx, 3))
    (kk : P → zz Γ G Q (cells + mc1) (slots + ms1) sh' mi' mr' (pc + 3) ls st) (kx : P' → zzx Γ G Q (cells + mc1) (slots + ms1) sh mi mr pc ls st En) : zz Γ G Q cells slots sh mi mr pc ls stk :=
  zz_callV X V hM hb hcl hst hn hd hr h1 h2 hdg (fun v s i m hq _ => by obtain ⟨hp, rfl, rfl, rfl, rfl⟩ := hq; exact kk hp) (fun e s i m hq _ => by obtain ⟨hp, rfl, rfl, rfl, rfl⟩ := hq; exact kx hp)
theorem zz_vCR (X : zz_X Γ G own cc d mc ms) (V : zz_V own idx y bytes maxL ret n) (hM : zz_Con y (.code y bytes maxL ret) d1 mc1 ms1 (.ref b :: As) sh mi mr (zz_ck P (some (.ref r)) sh' mi' mr') (zz_ex P' En sh mi mr)) (hb : sh b = some (0, ci)) (hcl : vwCl[ci]? = some (y.cls, T, N)) (hst : stk = As.reverse ++ .ref b :: st) (hn : As.length = n) (hd : d1 + 1 ≤ d) (hr : (st.map fun v => v.category).sum ≤ 8) (h1 : cells + mc1 ≤ mc) (h2 : slots + ms1 ≤ ms) (hdg : decode cc pc = .ok (.invokevirtual idx, 3))
    (kk : P → zz Γ G Q (cells + mc1) (slots + ms1) sh' mi' mr' (pc + 3) ls (.ref r :: st)) (kx : P' → zzx Γ G Q (cells + mc1) (slots + ms1) sh mi mr pc ls st En) : zz Γ G Q cells slots sh mi mr pc ls stk :=
  zz_callV X V hM hb hcl hst hn hd hr h1 h2 hdg (fun v s i m hq _ => by obtain ⟨hp, rfl, rfl, rfl, rfl⟩ := hq; exact kk hp) (fun e s i m hq _ => by obtain ⟨hp, rfl, rfl, rfl, rfl⟩ := hq; exact kx hp)
theorem zz_sC (X : zz_X Γ G own cc d mc ms) (V : zz_S own idx y bytes maxL ret n) (hM : zz_Con y (.code y bytes maxL ret) d1 mc1 ms1 As sh mi mr (zz_ck P none sh' mi' mr') (zz_ex P' En sh mi mr)) (hst : stk = As.reverse ++ st) (hn : As.length = n) (hd : d1 + 1 ≤ d) (hr : (st.map fun v => v.category).sum ≤ 8) (h1 : cells + mc1 ≤ mc) (h2 : slots + ms1 ≤ ms) (hdg : decode cc pc = .ok (.invokestatic idx, 3))
    (kk : P → zz Γ G Q (cells + mc1) (slots + ms1) sh' mi' mr' (pc + 3) ls st) (kx : P' → zzx Γ G Q (cells + mc1) (slots + ms1) sh mi mr pc ls st En) : zz Γ G Q cells slots sh mi mr pc ls stk :=
  zz_callS X V hM hst hn hd hr h1 h2 hdg (fun v s i m hq _ => by obtain ⟨hp, rfl, rfl, rfl, rfl⟩ := hq; exact kk hp) (fun e s i m hq _ => by obtain ⟨hp, rfl, rfl, rfl, rfl⟩ := hq; exact kx hp)
end ZD
/-! numbers -/
abbrev zs_ix (p : Int32) (n : Nat) : Prop := 0 ≤ p.toInt ∧ p.toInt < (n : Int)
theorem zs_ix_of {p : Int32} {n : Nat} (h : zs_ix p n) (hn : n ≤ 2 ^ 31) : ∃ i : Nat, i < n ∧ p = nI i := by
  refine ⟨p.toInt.toNat, by omega, ?_⟩
  apply Int32.toInt_inj.mp
  rw [nI_toInt (by omega)]
  omega
theorem zs_ix_nI {i n : Nat} (h : i < n) (hn : n ≤ 2 ^ 31) : zs_ix (nI i) n := by
  unfold zs_ix
  rw [nI_toInt (by omega)]
  omega
theorem zs_ix_not {i n : Nat} (h : ¬ i < n) (hi : i < 2 ^ 31) : ¬ zs_ix (nI i) n := by
  unfold zs_ix
  rw [nI_toInt hi]
  omega
theorem zs_le {a b : Int32} : a ≤ b ↔ a.toInt ≤ b.toInt := Int32.le_iff_toInt_le
theorem zs_lt {a b : Int32} : a < b ↔ a.toInt < b.toInt := Int32.lt_iff_toInt_lt
theorem zs_eq {a b : Int32} : a = b ↔ a.toInt = b.toInt := Int32.toInt_inj.symm
theorem zz_begin {y : MethodName} {bytes : ByteArray} {maxL : Nat} {ret : Option FieldType} {d mc ms : Nat} {args : List Value} {sh : zm_Sh} {mi : zm_Mi} {mr : zm_Mr} {Qr : Option Value → zm_Sh → zm_Mi → zm_Mr → Prop} {Qx : String → zm_Sh → zm_Mi → zm_Mr → Prop} (own : String) (ls : List (Nat × Value))
    (hy : plainName y.cls = true) (ho : y.cls = own) (hc1 : (args.all fun v => decide (v.category = 1)) = true) (hlen : args.length ≤ maxL) (hls : zz_args 0 args = ls)
    (body : ∀ (Γ : zz_C) (D : zz_D) (E : zz_E) (ad : Nat → Nat), zz_X Γ (D, E, maxL, ad, sh) own bytes d mc ms → (zz_h Γ).sig.returnType = ret → (zz_h Γ).name = y.name → (∀ x ∈ (zz_c Γ).exceptionTable.toList, False) →
      zz Γ (D, E, maxL, ad, sh) (zz_End Γ (D, E, maxL, ad, sh) Qr Qx mc ms) 0 0 sh mi mr 0 ls []) : zz_Con y (.code y bytes maxL ret) d mc ms args sh mi mr Qr Qx := by
  subst hls; subst ho
  exact zz_intro hy (fun v hv => of_decide_eq_true (List.all_eq_true.mp hc1 v hv)) hlen body
theorem zs_nlt {a b : Int32} (h : ¬ a < b) : b ≤ a := by rw [zs_le]; rw [zs_lt] at h; omega
theorem zs_nle {a b : Int32} (h : ¬ a ≤ b) : b < a := by rw [zs_lt]; rw [zs_le] at h; omega
/-- the same for a method of a JDK class of which some others are natives -/
theorem zz_beginF {y : MethodName} {bytes : ByteArray} {maxL : Nat} {ret : Option FieldType} {d mc ms : Nat} {args : List Value} {sh : zm_Sh} {mi : zm_Mi} {mr : zm_Mr} {Qr : Option Value → zm_Sh → zm_Mi → zm_Mr → Prop} {Qx : String → zm_Sh → zm_Mi → zm_Mr → Prop} (own : String) (ls : List (Nat × Value))
    (hy : plainFor y = true) (ho : y.cls = own) (hc1 : (args.all fun v => decide (v.category = 1)) = true) (hlen : args.length ≤ maxL) (hls : zz_args 0 args = ls)
    (body : ∀ (Γ : zz_C) (D : zz_D) (E : zz_E) (ad : Nat → Nat), zz_X Γ (D, E, maxL, ad, sh) own bytes d mc ms → (zz_h Γ).sig.returnType = ret → (zz_h Γ).name = y.name → (∀ x ∈ (zz_c Γ).exceptionTable.toList, False) →
      zz Γ (D, E, maxL, ad, sh) (zz_End Γ (D, E, maxL, ad, sh) Qr Qx mc ms) 0 0 sh mi mr 0 ls []) : zz_Con y (.code y bytes maxL ret) d mc ms args sh mi mr Qr Qx := by
  subst hls; subst ho
  intro l D E ad hl0 hoks
  refine MetFree.of_bodySF (code := bytes) (maxLocals := maxL) (ret := ret) hy ?_ ?_
  · intro a s m h hn
    obtain ⟨meth, c, h1, h2, h3, h4, h5, h6, -, -⟩ := Cond.code_spec hn (atoms_spec (ws := [Cond.code y bytes maxL ret]) h _ List.mem_cons_self)
    exact ⟨meth, c, h1, h2, h3, h4, h5, h6⟩
  · intro p e s m a below meth c s₁ B hml hv _
    have hh0 : s₁.heap = s.heap := by rw [B.state]; rfl
    have ht : ∀ x ∈ c.exceptionTable.toList, False := by
      obtain ⟨meth9, c9, h1, h2, -, -, -, -, h7, -⟩ := Cond.code_spec B.named (atoms_spec (ws := [Cond.code y bytes maxL ret]) B.pre _ List.mem_cons_self)
      cases Option.some.inj (h1.symm.trans B.method)
      cases Option.some.inj (h2.symm.trans (Stand.of_body B).code)
      intro x hx
      rw [Array.isEmpty_iff.mp h7] at hx
      cases hx
    have K := zz_intro_of (Qr := Qr) (Qx := Qx) hl0 hoks (fun v hv => of_decide_eq_true (List.all_eq_true.mp hc1 v hv)) hlen B hml hv (fun Γ hΓ X => by subst hΓ; exact body _ D E ad X B.returns (name_of_methodNamed B.named B.method).1 ht)
    obtain ⟨t, a1, o, b1, b2, b3⟩ := K s₁ hh0 (Stand.of_body B)
    exact ⟨t, o, a1, b1, b2, b3⟩
