/-! ===== contracts, calls, throws, ends ===== -/
def zz_Qr (D : zz_D) (E : zz_E) (ad0 : Nat → Nat) (sh0 : zm_Sh) (Qr : Option Value → zm_Sh → zm_Mi → zm_Mr → Prop) : Array Value → State → Outcome → State → Prop := fun _ u oc t =>
  ∃ (v : Option Value) (ad : Nat → Nat) (sh : zm_Sh) (mi : zm_Mi) (mr : zm_Mr), oc = .returned (v.map (zm_cv ad)) ∧ Qr v sh mi mr ∧ zm_P D E ad sh mi mr t.heap ∧ (∀ x, sh0 x ≠ none → ad x = ad0 x ∧ sh x = sh0 x) ∧ (∀ w, v = some w → zm_ok sh w) ∧ va_F (zz_A E) u t
def zz_Qx (D : zz_D) (E : zz_E) (ad0 : Nat → Nat) (sh0 : zm_Sh) (Qx : String → zm_Sh → zm_Mi → zm_Mr → Prop) : String → State → State → Prop := fun En u t =>
  ∃ (ad : Nat → Nat) (sh : zm_Sh) (mi : zm_Mi) (mr : zm_Mr), Qx En sh mi mr ∧ zm_P D E ad sh mi mr t.heap ∧ (∀ x, sh0 x ≠ none → ad x = ad0 x ∧ sh x = sh0 x) ∧ va_F (zz_A E) u t
/-- what a method does, called with these arguments over this memory -/
def zz_Con (y : MethodName) (w : Cond) (d mc ms : Nat) (args : List Value) (sh : zm_Sh) (mi : zm_Mi) (mr : zm_Mr) (Qr : Option Value → zm_Sh → zm_Mi → zm_Mr → Prop) (Qx : String → zm_Sh → zm_Mi → zm_Mr → Prop) : Prop :=
  ∀ (l : Launch) (D : zz_D) (E : zz_E) (ad : Nat → Nat), l.stackTraces = false → zm_oks sh args → vx_Met l y [w] (zz_rm d mc ms) (va_Pc (args.map (zm_cv ad)) (fun U => zm_P D E ad sh mi mr U.heap ∧ zk_K D E U)) (zz_Qr D E ad sh Qr) (zz_Qx D E ad sh Qx) mc ms (zz_A E)
abbrev zz_End (Γ : zz_C) (G : zz_G) (Qr : Option Value → zm_Sh → zm_Mi → zm_Mr → Prop) (Qx : String → zm_Sh → zm_Mi → zm_Mr → Prop) (mc ms : Nat) : State → Prop :=
  vx_MQ (zz_b Γ) (zz_Qr G.1 G.2.1 G.2.2.2.1 G.2.2.2.2 Qr) (zz_Qx G.1 G.2.1 G.2.2.2.1 G.2.2.2.2 Qx) (zz_a Γ) (zz_s Γ) mc ms (zz_A G.2.1)
def zz_none : String → zm_Sh → zm_Mi → zm_Mr → Prop := fun _ _ _ _ => False
def zz_args : Nat → List Value → List (Nat × Value)
  | _, [] => []
  | i, v :: vs => (i, v) :: zz_args (i + 1) vs
theorem zz_args_lv (ad : Nat → Nat) : ∀ (vs : List Value) (i : Nat), (∀ v ∈ vs, v.category = 1) → lv_args i (vs.map (zm_cv ad)) = zz_ls ad (zz_args i vs)
  | [], _, _ => rfl
  | v :: vs, i, h => by
    have hc : (zm_cv ad v).category = 1 := (zm_cv_cat ad v).trans (h v List.mem_cons_self)
    show (i, zm_cv ad v) :: lv_args (if (zm_cv ad v).category = 2 then i + 2 else i + 1) (vs.map (zm_cv ad)) = (i, zm_cv ad v) :: zz_ls ad (zz_args (i + 1) vs)
    rw [hc, if_neg (by decide), zz_args_lv ad vs (i + 1) (fun w hw => h w (List.mem_cons_of_mem _ hw))]
theorem zz_args_mem : ∀ (vs : List Value) (i : Nat) {q : Nat × Value}, q ∈ zz_args i vs → q.2 ∈ vs
  | [], _, _, h => nomatch h
  | v :: vs, i, q, h => by
    rcases List.mem_cons.mp h with rfl | h
    · exact List.mem_cons_self
    · exact List.mem_cons_of_mem _ (zz_args_mem vs (i + 1) h)
theorem zz_sl_len : ∀ (vs : List Value), (∀ v ∈ vs, v.category = 1) → (lg_sl vs).length = vs.length
  | [], _ => rfl
  | v :: vs, h => by
    have hc := h v List.mem_cons_self
    have ih := zz_sl_len vs (fun w hw => h w (List.mem_cons_of_mem _ hw))
    have e : lg_sl (v :: vs) = (if v.category = 2 then [Slot.val v, Slot.second] else [Slot.val v]) ++ lg_sl vs := rfl
    rw [e, if_neg (by rw [hc]; decide), List.length_append, ih, List.length_cons]
    exact Nat.add_comm 1 vs.length
theorem zz_blind {D : zz_D} {E : zz_E} {av : List Value} {ad : Nat → Nat} {sh : zm_Sh} {mi : zm_Mi} {mr : zm_Mr} : FrameBlind (va_Pc av (fun U => zm_P D E ad sh mi mr U.heap ∧ zk_K D E U)) := fun a U g mk q =>
  ⟨q.1, q.2.1, zk_K.moved (u := U) (U := U.calling g mk a) q.2.2 (State.WarmedH.refl U) (Nat.le_refl _) (fun _ _ _ => rfl)⟩
theorem zz_intro_of {y : MethodName} {d mc ms maxL : Nat} {bytes : ByteArray} {args : List Value} {sh : zm_Sh} {mi : zm_Mi} {mr : zm_Mr} {w : Cond} {ret : Option FieldType} {Qr : Option Value → zm_Sh → zm_Mi → zm_Mr → Prop} {Qx : String → zm_Sh → zm_Mi → zm_Mr → Prop} {l : Launch} {D : zz_D} {E : zz_E} {ad : Nat → Nat} {p : Program} {e : Env} {s : State} {m : MethodId} {a : Array Value} {below : List Frame} {meth : Method} {c : Code} {s₁ : State}
    (hl0 : l.stackTraces = false) (hoks : zm_oks sh args) (hc1 : ∀ v ∈ args, v.category = 1) (hlen : args.length ≤ maxL)
    (B : BodyLoose p l y (headSpec [w] (zz_rm d mc ms)) bytes maxL ret e s m a below meth c s₁) (hml : c.maxLocals = maxL) (hv : va_Pc (args.map (zm_cv ad)) (fun U => zm_P D E ad sh mi mr U.heap ∧ zk_K D E U) a s)
    (body : ∀ (Γ : zz_C), Γ = (p, l, e, zz_rm d mc ms, s, m, a, below, meth, c) → zz_X Γ (D, E, maxL, ad, sh) y.cls bytes d mc ms → zz Γ (D, E, maxL, ad, sh) (zz_End Γ (D, E, maxL, ad, sh) Qr Qx mc ms) 0 0 sh mi mr 0 (zz_args 0 args) []) :
    W p l e (zz_rm d mc ms) s m a below meth c s.heap [] 0 0 (vx_MQ below (zz_Qr D E ad sh Qr) (zz_Qx D E ad sh Qx) a s mc ms (zz_A E)) (entryFrame m a maxL) := by
  obtain ⟨rfl, hP, hK⟩ := hv
  have hcs : ∀ v ∈ args.map (zm_cv ad), v.category = 1 := fun v hv => by
    obtain ⟨z, hz, rfl⟩ := List.mem_map.mp hv
    rw [zm_cv_cat]
    exact hc1 z hz
  have hl := lv_entry (args.map (zm_cv ad)) (n := maxL) (by rw [zz_sl_len _ hcs, List.length_map]; exact hlen)
  rw [lg_entry_eq]
  rw [zz_args_lv ad args 0 hc1] at hl
  exact body _ rfl ⟨B.exec, B.bytes, hml, findClass_of_methodNamed B.named, B.notSynchronized, hl0, hK, rfl⟩ ad s.heap [] _ ⟨hP, va_S.rf, fun x _ => ⟨rfl, rfl⟩, fun q hq => ⟨hoks _ (zz_args_mem _ _ hq), hc1 _ (zz_args_mem _ _ hq)⟩, zm_on, hl⟩
theorem zz_intro {y : MethodName} {bytes : ByteArray} {maxL : Nat} {ret : Option FieldType} {d mc ms : Nat} {args : List Value} {sh : zm_Sh} {mi : zm_Mi} {mr : zm_Mr} {Qr : Option Value → zm_Sh → zm_Mi → zm_Mr → Prop} {Qx : String → zm_Sh → zm_Mi → zm_Mr → Prop}
    (hy : plainName y.cls = true) (hc1 : ∀ v ∈ args, v.category = 1) (hlen : args.length ≤ maxL)
    (body : ∀ (Γ : zz_C) (D : zz_D) (E : zz_E) (ad : Nat → Nat), zz_X Γ (D, E, maxL, ad, sh) y.cls bytes d mc ms → (zz_h Γ).sig.returnType = ret → (zz_h Γ).name = y.name → (∀ x ∈ (zz_c Γ).exceptionTable.toList, False) →
      zz Γ (D, E, maxL, ad, sh) (zz_End Γ (D, E, maxL, ad, sh) Qr Qx mc ms) 0 0 sh mi mr 0 (zz_args 0 args) []) : zz_Con y (.code y bytes maxL ret) d mc ms args sh mi mr Qr Qx := by
  intro l D E ad hl0 hoks
  refine vx_ofW (cc := bytes) (maxL := maxL) (ret := ret) hy rfl ?_
  intro p e s m a below meth c s₁ B hml ht hv
  exact zz_intro_of hl0 hoks hc1 hlen B hml hv (fun Γ hΓ X => by subst hΓ; exact body _ D E ad X B.returns (name_of_methodNamed B.named B.method).1 ht)
theorem zz_introH {y : MethodName} {bytes : ByteArray} {maxL : Nat} {ret : Option FieldType} {hh : List (Nat × Nat × Nat × Nat)} {d mc ms : Nat} {args : List Value} {sh : zm_Sh} {mi : zm_Mi} {mr : zm_Mr} {Qr : Option Value → zm_Sh → zm_Mi → zm_Mr → Prop} {Qx : String → zm_Sh → zm_Mi → zm_Mr → Prop}
    (hy : plainName y.cls = true) (hc1 : ∀ v ∈ args, v.category = 1) (hlen : args.length ≤ maxL)
    (body : ∀ (Γ : zz_C) (D : zz_D) (E : zz_E) (ad : Nat → Nat), zz_X Γ (D, E, maxL, ad, sh) y.cls bytes d mc ms → (zz_h Γ).sig.returnType = ret → (zz_c Γ).exceptionTable.toList = tableOf hh →
      zz Γ (D, E, maxL, ad, sh) (zz_End Γ (D, E, maxL, ad, sh) Qr Qx mc ms) 0 0 sh mi mr 0 (zz_args 0 args) []) : zz_Con y (.codeWith y bytes maxL ret hh) d mc ms args sh mi mr Qr Qx := by
  intro l D E ad hl0 hoks
  refine vx_ofWH (cc := bytes) (maxL := maxL) (ret := ret) hy rfl ?_
  intro p e s m a below meth c s₁ B hml hv
  have ht := vx_table (x := y) B (atoms_spec (ws := [Cond.codeWith y bytes maxL ret hh]) B.pre _ List.mem_cons_self)
  exact zz_intro_of hl0 hoks hc1 hlen B hml hv (fun Γ hΓ X => by subst hΓ; exact body _ D E ad X B.returns ht)
/-- less is said of the end -/
theorem zz_Con.mono {y : MethodName} {w : Cond} {d mc ms : Nat} {args : List Value} {sh : zm_Sh} {mi : zm_Mi} {mr : zm_Mr} {Qr Qr' : Option Value → zm_Sh → zm_Mi → zm_Mr → Prop} {Qx Qx' : String → zm_Sh → zm_Mi → zm_Mr → Prop} (h : zz_Con y w d mc ms args sh mi mr Qr Qx) (h1 : ∀ v s i r, Qr v s i r → Qr' v s i r) (h2 : ∀ v s i r, Qx v s i r → Qx' v s i r) : zz_Con y w d mc ms args sh mi mr Qr' Qx' := by
  intro l D E ad hl0 hoks
  refine fun p e hla hc hk s m a below hf happ hPc hK => ?_
  obtain ⟨n, o, h3, h4, h5, h6⟩ := h l D E ad hl0 hoks p e hla hc hk s m a below hf happ hPc hK
  refine ⟨n, o, h3, h4, h5, ?_⟩
  rcases h6 with ⟨⟨v, ad', sh', mi', mr', g1, g2, g3⟩, g4⟩ | ⟨q, g0, Ee, ce, L, ⟨ad', sh', mi', mr', g1, g2⟩, g3⟩
  · exact Or.inl ⟨⟨v, ad', sh', mi', mr', g1, h1 _ _ _ _ g2, g3⟩, g4⟩
  · exact Or.inr ⟨q, g0, Ee, ce, L, ⟨ad', sh', mi', mr', h2 _ _ _ _ g1, g2⟩, g3⟩
/-- q, of the class En, flies over the frame -/
def zzx (Γ : zz_C) (G : zz_G) (Q : State → Prop) (cells slots : Nat) (sh : zm_Sh) (mi : zm_Mi) (mr : zm_Mr) (pc : Nat) (ls : List (Nat × Value)) (st : List Value) (En : String) : Prop :=
  ∀ (ad : Nat → Nat) (H : Heap) (locs : List Loc) (la : Array Slot) (q : Addr) (ce : Cell), zz_H Γ G sh mi mr ls st ad H locs la → H[q]? = some ce → ce.vm = .none → (zz_s Γ).vm.findClass En = some ce.cls →
    vx_W (zz_p Γ) (zz_l Γ) (zz_e Γ) (zz_R Γ) (zz_s Γ) (zz_m Γ) (zz_a Γ) (zz_b Γ) (zz_h Γ) (zz_c Γ) H locs cells slots Q (F0 (zz_m Γ) pc la (st.map (zm_cv ad))) q
/-- a virtual call of a method of ours, by its place in the pool -/
def zz_V (own : String) (idx : Nat) (y : MethodName) (bytes : ByteArray) (maxL : Nat) (ret : Option FieldType) (n : Nat) : Prop :=
  Cond.methodLink own idx y ∈ lw_tbl ∧ Cond.instanceMethod y ∈ lw_tbl ∧ Cond.selects y.cls y y ∈ lw_tbl ∧ Cond.code y bytes maxL ret ∈ lw_tbl ∧ Cond.initialized y.cls ∈ lw_tbl ∧ (y.cls ≠ "java/lang/invoke/MethodHandle" ∧ y.cls ≠ "java/lang/invoke/VarHandle") ∧ (parseMethodDescriptor y.desc).map (fun d => d.parameters.length) = some n ∧ maxL ≤ 17
/-- a static one of the class itself, or of the JDK -/
def zz_S (own : String) (idx : Nat) (y : MethodName) (bytes : ByteArray) (maxL : Nat) (ret : Option FieldType) (n : Nat) : Prop :=
  Cond.methodLink own idx y ∈ lw_tbl ∧ Cond.static y ∈ lw_tbl ∧ Cond.code y bytes maxL ret ∈ lw_tbl ∧ Cond.initialized y.cls ∈ lw_tbl ∧ (y.cls ≠ "java/lang/invoke/MethodHandle" ∧ y.cls ≠ "java/lang/invoke/VarHandle") ∧ (parseMethodDescriptor y.desc).map (fun d => d.parameters.length) = some n ∧ maxL ≤ 17
/-- a static one with handlers -/
def zz_SH (own : String) (idx : Nat) (y : MethodName) (bytes : ByteArray) (maxL : Nat) (ret : Option FieldType) (hh : List (Nat × Nat × Nat × Nat)) (n : Nat) : Prop :=
  Cond.methodLink own idx y ∈ lw_tbl ∧ Cond.static y ∈ lw_tbl ∧ Cond.codeWith y bytes maxL ret hh ∈ lw_tbl ∧ Cond.initialized y.cls ∈ lw_tbl ∧ (y.cls ≠ "java/lang/invoke/MethodHandle" ∧ y.cls ≠ "java/lang/invoke/VarHandle") ∧ (parseMethodDescriptor y.desc).map (fun d => d.parameters.length) = some n ∧ maxL ≤ 17
/-- a constructor -/
def zz_I (own : String) (idx : Nat) (y : MethodName) (bytes : ByteArray) (maxL : Nat) (n : Nat) : Prop :=
  Cond.methodLink own idx y ∈ lw_tbl ∧ Cond.instanceMethod y ∈ lw_tbl ∧ y.name = "<init>" ∧ Cond.code y bytes maxL none ∈ lw_tbl ∧ Cond.initialized y.cls ∈ lw_tbl ∧ (y.cls ≠ "java/lang/invoke/MethodHandle" ∧ y.cls ≠ "java/lang/invoke/VarHandle") ∧ (parseMethodDescriptor y.desc).map (fun d => d.parameters.length) = some n ∧ maxL ≤ 17
/-- a private constructor of a nest mate -/
def zz_IN (own host : String) (idx : Nat) (y : MethodName) (bytes : ByteArray) (maxL : Nat) (n : Nat) : Prop :=
  (own, idx, y, host) ∈ zk_nest ∧ Cond.instanceMethod y ∈ lw_tbl ∧ y.name = "<init>" ∧ Cond.code y bytes maxL none ∈ lw_tbl ∧ Cond.initialized y.cls ∈ lw_tbl ∧ (y.cls ≠ "java/lang/invoke/MethodHandle" ∧ y.cls ≠ "java/lang/invoke/VarHandle") ∧ (parseMethodDescriptor y.desc).map (fun d => d.parameters.length) = some n ∧ maxL ≤ 17
/-- a private static of a nest mate -/
def zz_SN (own host : String) (idx : Nat) (y : MethodName) (bytes : ByteArray) (maxL : Nat) (ret : Option FieldType) (n : Nat) : Prop :=
  (own, idx, y, host) ∈ zk_nest ∧ Cond.static y ∈ lw_tbl ∧ Cond.code y bytes maxL ret ∈ lw_tbl ∧ Cond.initialized y.cls ∈ lw_tbl ∧ (y.cls ≠ "java/lang/invoke/MethodHandle" ∧ y.cls ≠ "java/lang/invoke/VarHandle") ∧ (parseMethodDescriptor y.desc).map (fun d => d.parameters.length) = some n ∧ maxL ≤ 17
theorem zz_np {y : MethodName} {n : Nat} (h : (parseMethodDescriptor y.desc).map (fun d => d.parameters.length) = some n) : ∀ sig, parseMethodDescriptor y.desc = some sig → n = sig.parameters.length := fun sig hs => by
  rw [hs] at h
  exact (Option.some.inj h).symm
section ZC
variable {Γ : zz_C} {G : zz_G} {Q : State → Prop} {cells slots : Nat} {sh : zm_Sh} {mi : zm_Mi} {mr : zm_Mr} {pc : Nat} {ls : List (Nat × Value)} {st stk : List Value} {own : String} {cc : ByteArray} {d mc ms : Nat}
variable {y : MethodName} {bytes : ByteArray} {maxL d1 mc1 ms1 n idx : Nat} {ret : Option FieldType} {As : List Value} {Qr : Option Value → zm_Sh → zm_Mi → zm_Mr → Prop} {Qx : String → zm_Sh → zm_Mi → zm_Mr → Prop}
theorem zz_locals (hd : d1 + 1 ≤ d) (h17 : maxL ≤ 17) : 8 + (maxL + 11) + (zz_rm d1 mc1 ms1).locals ≤ (zz_rm d mc ms).locals := by
  show 8 + (maxL + 11) + (36 * d1 + 74 * (d1 / 13)) ≤ 36 * d + 74 * (d / 13)
  omega
theorem zz_words {w : Cond} (K : zk_K G.1 G.2.1 (zz_s Γ)) (hw : w ∈ lw_tbl) (hk : zk_ok w = true) : ∀ v ∈ [w], ∀ (a' : Array Value) (U : State), (zz_s Γ).WarmedH U.vm → v.before a' U = true := fun v hv a' U hW => by
  rw [List.mem_singleton] at hv
  subst hv
  exact zk_word hW hk (zk_w K hw hk (args := #[]))
theorem zz_pre {ad : Nat → Nat} {H : Heap} {locs : List Loc} {la : Array Slot} {args : List Value} (X : zz_X Γ G own cc d mc ms) (h : zz_H Γ G sh mi mr ls stk ad H locs la) : ∀ U : State, U.heap = H → (zz_s Γ).WarmedH U.vm → va_Pc (args.map (zm_cv ad)) (fun U => zm_P G.1 G.2.1 ad sh mi mr U.heap ∧ zk_K G.1 G.2.1 U) (args.map (zm_cv ad)).toArray U := fun U hU hW =>
  ⟨rfl, by rw [hU]; exact h.1, zk_K.moved X.2.2.2.2.2.2.1 hW (by rw [hU]; exact h.2.1.1) (fun q hq hA => by rw [hU]; exact h.2.1.2.1 q hq hA)⟩
/-- behind a call -/
theorem zz_behind (kk : ∀ v sh' mi' mr', Qr v sh' mi' mr' → (∀ x, sh x ≠ none → sh' x = sh x) → zz Γ G Q (cells + mc1) (slots + ms1) sh' mi' mr' (pc + 3) ls (v.toList ++ st)) (kx : ∀ En sh' mi' mr', Qx En sh' mi' mr' → (∀ x, sh x ≠ none → sh' x = sh x) → zzx Γ G Q (cells + mc1) (slots + ms1) sh' mi' mr' pc ls st En)
    {ad : Nat → Nat} {H : Heap} {locs : List Loc} {la : Array Slot} {stv : List Value} {a9 : Array Value} (h : zz_H Γ G sh mi mr ls stk ad H locs la) (h2 : zm_oks sh st)
    (hr : vx_Run (zz_p Γ) (zz_l Γ) (zz_e Γ) (zz_R Γ) (zz_s Γ) (zz_m Γ) (zz_a Γ) (zz_b Γ) (zz_h Γ) (zz_c Γ) H locs cells slots mc1 ms1 (F0 (zz_m Γ) pc la stv) (st.map (zm_cv ad)) (zz_Qr G.1 G.2.1 ad sh Qr a9) (zz_Qx G.1 G.2.1 ad sh Qx) (zz_A G.2.1)) : zz_W Γ H locs cells slots Q (F0 (zz_m Γ) pc la stv) := by
  have key : ∀ {ad' : Nat → Nat} {sh' : zm_Sh} {mi' : zm_Mi} {mr' : zm_Mr} {H1 : Heap} {locs1 : List Loc}, zm_P G.1 G.2.1 ad' sh' mi' mr' H1 → (∀ x, sh x ≠ none → ad' x = ad x ∧ sh' x = sh x) → va_S (zz_A G.2.1) (zz_s Γ).heap H1 locs1 → zz_H Γ G sh' mi' mr' ls st ad' H1 locs1 la ∧ st.map (zm_cv ad') = st.map (zm_cv ad) := by
    intro ad' sh' mi' mr' H1 locs1 hP hag hS
    have hcv : ∀ v, zm_ok sh v → zm_cv ad' v = zm_cv ad v := fun v hv => by
      cases v with
      | ref x =>
        show Value.ref (ad' x) = .ref (ad x)
        rw [(hag x hv).1]
      | _ => rfl
    have hok : ∀ v, zm_ok sh v → zm_ok sh' v := fun v hv => by
      cases v with
      | ref x =>
        show sh' x ≠ none
        rw [(hag x hv).2]
        exact hv
      | _ => trivial
    refine ⟨⟨hP, hS, fun x hx => ?_, fun q hq => ⟨hok _ (h.2.2.2.1 q hq).1, (h.2.2.2.1 q hq).2⟩, fun v hv => hok v (h2 v hv), ?_⟩, List.map_congr_left fun v hv => hcv v (h2 v hv)⟩
    · obtain ⟨e1, e2⟩ := h.2.2.1 x hx
      have hx2 : sh x ≠ none := by rw [e2]; exact hx
      exact ⟨(hag x hx2).1.trans e1, (hag x hx2).2.trans e2⟩
    · have e : zz_ls ad' ls = zz_ls ad ls := List.map_congr_left fun q hq => by rw [hcv q.2 (h.2.2.2.1 q hq).1]
      rw [e]
      exact h.2.2.2.2.2
  intro T hT X
  rcases hr T hT X with ⟨v, st₀, t, T', L, h0, X', hL, e1, e2, ⟨v', ad', sh', mi', mr', hv, hq, hP, hag, hvk, hF⟩, go⟩ | ⟨q, st₀, t, T', L, E9, ce, h0, X', hL, e1, e2, ⟨ad', sh', mi', mr', hq, hP, hag, hF⟩, hce, hcv, hcl, go⟩
  · cases hv
    obtain ⟨-, -, k3⟩ := vx_keep (A0 := zz_A G.2.1) h0 e1 h.2.1 (fun _ _ z => z) (fun _ z => z) hL hF
    obtain ⟨g1, g2⟩ := key (H1 := T'.heap) (by rw [e1]; exact hP) hag k3
    have hz2 : zm_oks sh' (v'.toList ++ st) := by
      intro z hz
      rcases List.mem_append.mp hz with hz | hz
      · cases v' with
        | none => cases hz
        | some w =>
          rcases List.mem_singleton.mp hz with rfl
          exact hvk _ rfl
      · exact g1.oks z hz
    obtain ⟨t2, a1, b1⟩ := kk v' sh' mi' mr' hq (fun x hx => (hag x hx).2) ad' T'.heap (locs ++ L) la (g1.ws hz2) T' rfl X'
    refine ⟨t2, go t2 ?_, b1⟩
    rw [List.map_append, g2] at a1
    cases v' with
    | none => exact a1
    | some w => exact a1
  · obtain ⟨-, -, k3⟩ := vx_keep (A0 := zz_A G.2.1) h0 e1 h.2.1 (fun _ _ z => z) (fun _ z => z) hL hF
    obtain ⟨g1, g2⟩ := key (H1 := T'.heap) (by rw [e1]; exact hP) hag k3
    obtain ⟨t2, a1, b1⟩ := kx E9 sh' mi' mr' hq (fun x hx => (hag x hx).2) ad' T'.heap (locs ++ L) la q ce g1 (by rw [e1]; exact hce) hcv hcl T' rfl X'
    rw [g2] at a1
    exact ⟨t2, go.trans a1, b1⟩
theorem zz_fix (X : zz_X Γ G own cc d mc ms) : CallFix (zz_p Γ) (zz_m Γ) (zz_c Γ) cc G.2.2.1 (zz_s Γ) (zz_a Γ) [] own := ⟨X.1, X.2.1, X.2.2.1, X.2.2.2.1, fun _ h => nomatch h⟩
theorem zz_room {ad : Nat → Nat} {la : Array Slot} {stv : List Value} (hr : (st.map fun v => v.category).sum ≤ 8) : 2 * (F0 (zz_m Γ) pc la stv).monitorRoom + ((st.map (zm_cv ad)).map fun v => v.category).sum ≤ 8 := lv_room (by rw [zm_cv_cats]; exact hr)
theorem zm_rev (ad : Nat → Nat) (As : List Value) (st : List Value) : (As.reverse ++ st).map (zm_cv ad) = (As.map (zm_cv ad)).reverse ++ st.map (zm_cv ad) := by rw [List.map_append, List.map_reverse]
theorem zz_oks_app (h : zm_oks sh (As.reverse ++ st)) : zm_oks sh st := fun v hv => h v (List.mem_append_right _ hv)
theorem zz_oks_rev {b : Nat} (h : zm_oks sh (As.reverse ++ .ref b :: st)) : zm_oks sh (.ref b :: As) := by
  intro v hv
  rcases List.mem_cons.mp hv with rfl | hv
  · exact h _ (List.mem_append_right _ List.mem_cons_self)
  · exact h v (List.mem_append_left _ (List.mem_reverse.mpr hv))
theorem zz_callV (X : zz_X Γ G own cc d mc ms) (V : zz_V own idx y bytes maxL ret n) {b ci N : Nat} {T : u_T} (hM : zz_Con y (.code y bytes maxL ret) d1 mc1 ms1 (.ref b :: As) sh mi mr Qr Qx) (hb : sh b = some (0, ci)) (hcl : vwCl[ci]? = some (y.cls, T, N)) (hst : stk = As.reverse ++ .ref b :: st) (hn : As.length = n) (hd : d1 + 1 ≤ d) (hr : (st.map fun v => v.category).sum ≤ 8) (h1 : cells + mc1 ≤ mc) (h2 : slots + ms1 ≤ ms) (hdg : decode cc pc = .ok (.invokevirtual idx, 3))
    (kk : ∀ v sh' mi' mr', Qr v sh' mi' mr' → (∀ x, sh x ≠ none → sh' x = sh x) → zz Γ G Q (cells + mc1) (slots + ms1) sh' mi' mr' (pc + 3) ls (v.toList ++ st)) (kx : ∀ En sh' mi' mr', Qx En sh' mi' mr' → (∀ x, sh x ≠ none → sh' x = sh x) → zzx Γ G Q (cells + mc1) (slots + ms1) sh' mi' mr' pc ls st En) : zz Γ G Q cells slots sh mi mr pc ls stk := by
  intro ad H locs la h
  obtain ⟨v1, v2, v3, v4, v5, v6, v7, v8⟩ := V
  have K := X.2.2.2.2.2.2.1
  have hR := X.2.2.2.2.2.2.2
  subst hst
  have hoks := h.oks
  obtain ⟨⟨L, hL, hP, hD⟩, -, -⟩ := id h.1
  obtain ⟨q, hq, ha⟩ := zm_at (D := G.1) (ad := ad) (mi := mi) (mr := mr) hL hb (fun q => nomatch q)
  refine zz_behind (a9 := (Value.ref (ad b) :: As.map (zm_cv ad)).toArray) kk kx h (zm_ot (zz_oks_app hoks)) ?_
  rw [zm_rev]
  refine vx_runV (As := As.map (zm_cv ad)) (b := ad b) (zz_fix X) (hM _ G.1 G.2.1 ad X.2.2.2.2.2.1 (zz_oks_rev hoks)) (C := y.cls) (index := idx) (n := n) (bytes := bytes) (maxL := maxL) (ret := ret)
    ⟨⟨rfl, rfl, by rw [hR]; exact hd, by rw [hR]; exact zz_locals hd v8, zz_words K v4 rfl, List.mem_singleton.mpr rfl, zk_w K v4 rfl, zk_w K v5 rfl, v6, zz_np v7, zk_w K v1 rfl⟩, zk_w K v2 rfl, zk_w K v3 rfl⟩
    ⟨zz_blind, va_recv (D := G.1.1) (cl := vwCl) K.1 hP hcl ha, zz_pre (args := .ref b :: As) X h⟩ rfl (by rw [List.length_map]; exact hn) ((zz_sz X h).trans X.2.2.1) rfl (zz_room hr) hdg ⟨by rw [hR]; exact h1, by rw [hR]; exact h2⟩
theorem zz_callS (X : zz_X Γ G own cc d mc ms) (V : zz_S own idx y bytes maxL ret n) (hM : zz_Con y (.code y bytes maxL ret) d1 mc1 ms1 As sh mi mr Qr Qx) (hst : stk = As.reverse ++ st) (hn : As.length = n) (hd : d1 + 1 ≤ d) (hr : (st.map fun v => v.category).sum ≤ 8) (h1 : cells + mc1 ≤ mc) (h2 : slots + ms1 ≤ ms) (hdg : decode cc pc = .ok (.invokestatic idx, 3))
    (kk : ∀ v sh' mi' mr', Qr v sh' mi' mr' → (∀ x, sh x ≠ none → sh' x = sh x) → zz Γ G Q (cells + mc1) (slots + ms1) sh' mi' mr' (pc + 3) ls (v.toList ++ st)) (kx : ∀ En sh' mi' mr', Qx En sh' mi' mr' → (∀ x, sh x ≠ none → sh' x = sh x) → zzx Γ G Q (cells + mc1) (slots + ms1) sh' mi' mr' pc ls st En) : zz Γ G Q cells slots sh mi mr pc ls stk := by
  intro ad H locs la h
  obtain ⟨v1, v2, v4, v5, v6, v7, v8⟩ := V
  have K := X.2.2.2.2.2.2.1
  have hR := X.2.2.2.2.2.2.2
  subst hst
  have hoks := h.oks
  refine zz_behind (a9 := (As.map (zm_cv ad)).toArray) kk kx h (zz_oks_app hoks) ?_
  rw [zm_rev]
  exact vx_runS (As := As.map (zm_cv ad)) (zz_fix X) (hM _ G.1 G.2.1 ad X.2.2.2.2.2.1 (fun v hv => hoks v (List.mem_append_left _ (List.mem_reverse.mpr hv)))) (index := idx) (n := n) (bytes := bytes) (maxL := maxL) (ret := ret)
    ⟨⟨rfl, rfl, by rw [hR]; exact hd, by rw [hR]; exact zz_locals hd v8, zz_words K v4 rfl, List.mem_singleton.mpr rfl, zk_w K v4 rfl, zk_w K v5 rfl, v6, zz_np v7, zk_w K v1 rfl⟩, zk_w K v2 rfl⟩
    ⟨zz_blind, zz_pre X h⟩ rfl (by rw [List.length_map]; exact hn) ((zz_sz X h).trans X.2.2.1) rfl (zz_room hr) hdg ⟨by rw [hR]; exact h1, by rw [hR]; exact h2⟩
theorem zz_callSH {hh : List (Nat × Nat × Nat × Nat)} (X : zz_X Γ G own cc d mc ms) (V : zz_SH own idx y bytes maxL ret hh n) (hM : zz_Con y (.codeWith y bytes maxL ret hh) d1 mc1 ms1 As sh mi mr Qr Qx) (hst : stk = As.reverse ++ st) (hn : As.length = n) (hd : d1 + 1 ≤ d) (hr : (st.map fun v => v.category).sum ≤ 8) (h1 : cells + mc1 ≤ mc) (h2 : slots + ms1 ≤ ms) (hdg : decode cc pc = .ok (.invokestatic idx, 3))
    (kk : ∀ v sh' mi' mr', Qr v sh' mi' mr' → (∀ x, sh x ≠ none → sh' x = sh x) → zz Γ G Q (cells + mc1) (slots + ms1) sh' mi' mr' (pc + 3) ls (v.toList ++ st)) (kx : ∀ En sh' mi' mr', Qx En sh' mi' mr' → (∀ x, sh x ≠ none → sh' x = sh x) → zzx Γ G Q (cells + mc1) (slots + ms1) sh' mi' mr' pc ls st En) : zz Γ G Q cells slots sh mi mr pc ls stk := by
  intro ad H locs la h
  obtain ⟨v1, v2, v4, v5, v6, v7, v8⟩ := V
  have K := X.2.2.2.2.2.2.1
  have hR := X.2.2.2.2.2.2.2
  subst hst
  have hoks := h.oks
  refine zz_behind (a9 := (As.map (zm_cv ad)).toArray) kk kx h (zz_oks_app hoks) ?_
  rw [zm_rev]
  exact vx_runSX (As := As.map (zm_cv ad)) (zz_fix X) (hM _ G.1 G.2.1 ad X.2.2.2.2.2.1 (fun v hv => hoks v (List.mem_append_left _ (List.mem_reverse.mpr hv)))) (index := idx) (n := n) (bytes := bytes) (maxL := maxL) (ret := ret) (hh := hh)
    ⟨⟨rfl, rfl, by rw [hR]; exact hd, by rw [hR]; exact zz_locals hd v8, zz_words K v4 rfl, List.mem_singleton.mpr rfl⟩, zk_w K v4 rfl, zk_w K v5 rfl, v6, zz_np v7, zk_w K v1 rfl, zk_w K v2 rfl⟩
    ⟨zz_blind, zz_pre X h⟩ rfl (by rw [List.length_map]; exact hn) ((zz_sz X h).trans X.2.2.1) rfl (zz_room hr) hdg ⟨by rw [hR]; exact h1, by rw [hR]; exact h2⟩
theorem zz_callSN {host : String} (X : zz_X Γ G own cc d mc ms) (V : zz_SN own host idx y bytes maxL ret n) (hM : zz_Con y (.code y bytes maxL ret) d1 mc1 ms1 As sh mi mr Qr Qx) (hst : stk = As.reverse ++ st) (hn : As.length = n) (hd : d1 + 1 ≤ d) (hr : (st.map fun v => v.category).sum ≤ 8) (h1 : cells + mc1 ≤ mc) (h2 : slots + ms1 ≤ ms) (hdg : decode cc pc = .ok (.invokestatic idx, 3))
    (kk : ∀ v sh' mi' mr', Qr v sh' mi' mr' → (∀ x, sh x ≠ none → sh' x = sh x) → zz Γ G Q (cells + mc1) (slots + ms1) sh' mi' mr' (pc + 3) ls (v.toList ++ st)) (kx : ∀ En sh' mi' mr', Qx En sh' mi' mr' → (∀ x, sh x ≠ none → sh' x = sh x) → zzx Γ G Q (cells + mc1) (slots + ms1) sh' mi' mr' pc ls st En) : zz Γ G Q cells slots sh mi mr pc ls stk := by
  intro ad H locs la h
  obtain ⟨v1, v2, v4, v5, v6, v7, v8⟩ := V
  have K := X.2.2.2.2.2.2.1
  have hR := X.2.2.2.2.2.2.2
  subst hst
  have hoks := h.oks
  refine zz_behind (a9 := (As.map (zm_cv ad)).toArray) kk kx h (zz_oks_app hoks) ?_
  rw [zm_rev]
  exact vx_runSN (As := As.map (zm_cv ad)) (zz_fix X) (hM _ G.1 G.2.1 ad X.2.2.2.2.2.1 (fun v hv => hoks v (List.mem_append_left _ (List.mem_reverse.mpr hv)))) (index := idx) (n := n) (bytes := bytes) (maxL := maxL) (ret := ret) (host := host)
    ⟨⟨⟨rfl, rfl, by rw [hR]; exact hd, by rw [hR]; exact zz_locals hd v8, zz_words K v4 rfl, List.mem_singleton.mpr rfl⟩, zk_w K v4 rfl, zk_w K v5 rfl, v6, zz_np v7, va_Nw.use rfl (K.2.2.2.2.1 _ v1)⟩, zk_w K v2 rfl, trivial⟩
    ⟨zz_blind, zz_pre X h⟩ rfl (by rw [List.length_map]; exact hn) ((zz_sz X h).trans X.2.2.1) rfl (zz_room hr) hdg ⟨by rw [hR]; exact h1, by rw [hR]; exact h2⟩
theorem zz_callI (X : zz_X Γ G own cc d mc ms) (V : zz_I own idx y bytes maxL n) {b : Nat} (hM : zz_Con y (.code y bytes maxL none) d1 mc1 ms1 (.ref b :: As) sh mi mr Qr Qx) (hst : stk = As.reverse ++ .ref b :: st) (hn : As.length = n) (hd : d1 + 1 ≤ d) (hr : (st.map fun v => v.category).sum ≤ 8) (h1 : cells + mc1 ≤ mc) (h2 : slots + ms1 ≤ ms) (hdg : decode cc pc = .ok (.invokespecial idx, 3))
    (kk : ∀ v sh' mi' mr', Qr v sh' mi' mr' → (∀ x, sh x ≠ none → sh' x = sh x) → zz Γ G Q (cells + mc1) (slots + ms1) sh' mi' mr' (pc + 3) ls (v.toList ++ st)) (kx : ∀ En sh' mi' mr', Qx En sh' mi' mr' → (∀ x, sh x ≠ none → sh' x = sh x) → zzx Γ G Q (cells + mc1) (slots + ms1) sh' mi' mr' pc ls st En) : zz Γ G Q cells slots sh mi mr pc ls stk := by
  intro ad H locs la h
  obtain ⟨v1, v2, v3, v4, v5, v6, v7, v8⟩ := V
  have K := X.2.2.2.2.2.2.1
  have hR := X.2.2.2.2.2.2.2
  subst hst
  have hoks := h.oks
  refine zz_behind (a9 := (Value.ref (ad b) :: As.map (zm_cv ad)).toArray) kk kx h (zm_ot (zz_oks_app hoks)) ?_
  rw [zm_rev]
  exact vx_runI (As := As.map (zm_cv ad)) (b := ad b) (zz_fix X) (hM _ G.1 G.2.1 ad X.2.2.2.2.2.1 (zz_oks_rev hoks)) (index := idx) (n := n) (bytes := bytes) (maxL := maxL)
    ⟨⟨rfl, rfl, by rw [hR]; exact hd, by rw [hR]; exact zz_locals hd v8, zz_words K v4 rfl, List.mem_singleton.mpr rfl, zk_w K v4 rfl, zk_w K v5 rfl, v6, zz_np v7, zk_w K v1 rfl⟩, v3, zk_w K v2 rfl⟩
    ⟨zz_blind, zz_pre (args := .ref b :: As) X h⟩ rfl (by rw [List.length_map]; exact hn) ((zz_sz X h).trans X.2.2.1) rfl (zz_room hr) hdg ⟨by rw [hR]; exact h1, by rw [hR]; exact h2⟩
theorem zz_objInit (X : zz_X Γ G own cc d mc ms) (hl : Cond.methodLink own idx Lib.objectInit ∈ lw_tbl) (hi : Cond.instanceMethod Lib.objectInit ∈ lw_tbl) (hc : Cond.code Lib.objectInit ⟨#[0xb1]⟩ 1 none ∈ lw_tbl) {b : Nat} (hd : 1 ≤ d) (hr : (st.map fun v => v.category).sum ≤ 8) (hdg : decode cc pc = .ok (.invokespecial idx, 3)) (kk : zz Γ G Q cells slots sh mi mr (pc + 3) ls st) : zz Γ G Q cells slots sh mi mr pc ls (.ref b :: st) := by
  intro ad H locs la h
  have K := X.2.2.2.2.2.2.1
  have hR := X.2.2.2.2.2.2.2
  have hrm := zz_room (Γ := Γ) (pc := pc) (ad := ad) (la := la) (stv := (.ref b :: st : List Value).map (zm_cv ad)) hr
  refine W.objInit X.1 X.2.1 X.2.2.2.1 (zk_w K hl rfl) (zk_w K hi rfl) (zk_w K hc rfl) rfl (zz_sz X h) rfl hdg (by rw [hR]; exact hd) ?_ (kk ad H locs la (h.ws (zm_ot h.oks)))
  rw [hR]
  show _ ≤ 36 * d + 74 * (d / 13)
  omega
end ZC
