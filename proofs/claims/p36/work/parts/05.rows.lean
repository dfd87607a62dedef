/-! ===== the judgement zz: from here the method comes to its end; the memory by labels ===== -/
abbrev zz_C : Type := Program × Launch × Env × Room × State × MethodId × Array Value × List Frame × Method × Code
abbrev zz_G : Type := zz_D × zz_E × Nat × (Nat → Nat) × zm_Sh
abbrev zz_p (Γ : zz_C) : Program := Γ.1
abbrev zz_l (Γ : zz_C) : Launch := Γ.2.1
abbrev zz_e (Γ : zz_C) : Env := Γ.2.2.1
abbrev zz_R (Γ : zz_C) : Room := Γ.2.2.2.1
abbrev zz_s (Γ : zz_C) : State := Γ.2.2.2.2.1
abbrev zz_m (Γ : zz_C) : MethodId := Γ.2.2.2.2.2.1
abbrev zz_a (Γ : zz_C) : Array Value := Γ.2.2.2.2.2.2.1
abbrev zz_b (Γ : zz_C) : List Frame := Γ.2.2.2.2.2.2.2.1
abbrev zz_h (Γ : zz_C) : Method := Γ.2.2.2.2.2.2.2.2.1
abbrev zz_c (Γ : zz_C) : Code := Γ.2.2.2.2.2.2.2.2.2
abbrev zz_W (Γ : zz_C) (H : Heap) (locs : List Loc) (cells slots : Nat) (Q : State → Prop) (g : JFrame) : Prop := W (zz_p Γ) (zz_l Γ) (zz_e Γ) (zz_R Γ) (zz_s Γ) (zz_m Γ) (zz_a Γ) (zz_b Γ) (zz_h Γ) (zz_c Γ) H locs cells slots Q g
abbrev zz_A (E : zz_E) : Nat → Prop := fun q => E.1 ≤ q
def zz_rm (d mc ms : Nat) : Room := { frames := d, cells := mc, slots := ms, locals := 36 * d + 74 * (d / 13) }
def zz_ls (ad : Nat → Nat) (ls : List (Nat × Value)) : List (Nat × Value) := ls.map fun q => (q.1, zm_cv ad q.2)
def zz_lok (sh : zm_Sh) (ls : List (Nat × Value)) : Prop := ∀ q ∈ ls, zm_okl sh q.2
def zz_ag (G : zz_G) (ad : Nat → Nat) (sh : zm_Sh) : Prop := ∀ x, G.2.2.2.2 x ≠ none → ad x = G.2.2.2.1 x ∧ sh x = G.2.2.2.2 x
/-- what holds where a frame of the method stands -/
def zz_H (Γ : zz_C) (G : zz_G) (sh : zm_Sh) (mi : zm_Mi) (mr : zm_Mr) (ls : List (Nat × Value)) (st : List Value) (ad : Nat → Nat) (H : Heap) (locs : List Loc) (la : Array Slot) : Prop :=
  zm_P G.1 G.2.1 ad sh mi mr H ∧ va_S (zz_A G.2.1) (zz_s Γ).heap H locs ∧ zz_ag G ad sh ∧ zz_lok sh ls ∧ zm_oks sh st ∧ lv_has la G.2.2.1 (zz_ls ad ls)
def zz (Γ : zz_C) (G : zz_G) (Q : State → Prop) (cells slots : Nat) (sh : zm_Sh) (mi : zm_Mi) (mr : zm_Mr) (pc : Nat) (ls : List (Nat × Value)) (st : List Value) : Prop :=
  ∀ (ad : Nat → Nat) (H : Heap) (locs : List Loc) (la : Array Slot), zz_H Γ G sh mi mr ls st ad H locs la → zz_W Γ H locs cells slots Q (F0 (zz_m Γ) pc la (st.map (zm_cv ad)))
/-- what is known of the method -/
def zz_X (Γ : zz_C) (G : zz_G) (own : String) (cc : ByteArray) (d mc ms : Nat) : Prop :=
  (zz_p Γ).tables.exec = Jvm.exec ∧ (zz_c Γ).code = cc ∧ (zz_c Γ).maxLocals = G.2.2.1 ∧ (zz_s Γ).vm.findClass own = some (zz_m Γ).cls ∧ (zz_h Γ).locks = false ∧ (zz_l Γ).stackTraces = false ∧ zk_K G.1 G.2.1 (zz_s Γ) ∧ zz_R Γ = zz_rm d mc ms
section ZR
variable {Γ : zz_C} {G : zz_G} {Q : State → Prop} {cells slots : Nat} {sh : zm_Sh} {mi : zm_Mi} {mr : zm_Mr} {pc : Nat} {ls : List (Nat × Value)} {st : List Value} {own : String} {cc : ByteArray} {d mc ms : Nat}
theorem zz_H.ws {st2 : List Value} {ad : Nat → Nat} {H : Heap} {locs : List Loc} {la : Array Slot} (h : zz_H Γ G sh mi mr ls st ad H locs la) (h2 : zm_oks sh st2) : zz_H Γ G sh mi mr ls st2 ad H locs la := ⟨h.1, h.2.1, h.2.2.1, h.2.2.2.1, h2, h.2.2.2.2.2⟩
theorem zz_H.oks {ad : Nat → Nat} {H : Heap} {locs : List Loc} {la : Array Slot} (h : zz_H Γ G sh mi mr ls st ad H locs la) : zm_oks sh st := h.2.2.2.2.1
theorem zz_H.la {ad : Nat → Nat} {H : Heap} {locs : List Loc} {la : Array Slot} (h : zz_H Γ G sh mi mr ls st ad H locs la) {k i : Nat} {v : Value} (hk : ls[k]? = some (i, v)) : la[i]? = some (.val (zm_cv ad v)) := by
  refine lv_at h.2.2.2.2.2 k ?_
  unfold zz_ls
  rw [List.getElem?_map, hk]
  rfl
theorem zz_H.lok {ad : Nat → Nat} {H : Heap} {locs : List Loc} {la : Array Slot} (h : zz_H Γ G sh mi mr ls st ad H locs la) {k i : Nat} {v : Value} (hk : ls[k]? = some (i, v)) : zm_okl sh v := h.2.2.2.1 (i, v) (List.mem_of_getElem? hk)
theorem zz_sz {ad : Nat → Nat} {H : Heap} {locs : List Loc} {la : Array Slot} (X : zz_X Γ G own cc d mc ms) (h : zz_H Γ G sh mi mr ls st ad H locs la) : la.size = (zz_c Γ).maxLocals := by
  rw [X.2.2.1]
  exact h.2.2.2.2.2.1
/-- fewer locals -/
theorem zz_drop {ls' : List (Nat × Value)} (hl : ∀ q ∈ ls', q ∈ ls) (kk : zz Γ G Q cells slots sh mi mr pc ls' st) : zz Γ G Q cells slots sh mi mr pc ls st := by
  intro ad H locs la h
  refine kk ad H locs la ⟨h.1, h.2.1, h.2.2.1, fun q hq => h.2.2.2.1 q (hl q hq), h.2.2.2.2.1, ⟨h.2.2.2.2.2.1, h.2.2.2.2.2.2.1, fun q hq => h.2.2.2.2.2.2.2 q ?_⟩⟩
  obtain ⟨x, hx, rfl⟩ := List.mem_map.mp hq
  exact List.mem_map.mpr ⟨x, hl x hx, rfl⟩
/-- the same locals, places by their numbers -/
theorem zz_pick {ls' : List (Nat × Value)} (ks : List Nat) (hl : lv_pick ls ks = ls') (kk : zz Γ G Q cells slots sh mi mr pc ls' st) : zz Γ G Q cells slots sh mi mr pc ls st := by
  refine zz_drop (fun q hq => ?_) kk
  rw [← hl] at hq
  obtain ⟨i, -, hi⟩ := List.mem_filterMap.mp hq
  exact List.mem_of_getElem? hi
theorem zz_widen {k n : Nat} (h1 : cells ≤ k) (h2 : slots ≤ n) (kk : zz Γ G Q k n sh mi mr pc ls st) : zz Γ G Q cells slots sh mi mr pc ls st := fun ad H locs la h => W.widen h1 h2 (kk ad H locs la h)
theorem zz_top {x y : Int32} (h : x = y) (kk : zz Γ G Q cells slots sh mi mr pc ls (.int y :: st)) : zz Γ G Q cells slots sh mi mr pc ls (.int x :: st) := h ▸ kk
theorem zz_mem {mi' : zm_Mi} (h : mi = mi') (kk : zz Γ G Q cells slots sh mi' mr pc ls st) : zz Γ G Q cells slots sh mi mr pc ls st := h ▸ kk
theorem zz_lcl {ls' : List (Nat × Value)} (h : ls = ls') (kk : zz Γ G Q cells slots sh mi mr pc ls' st) : zz Γ G Q cells slots sh mi mr pc ls st := h ▸ kk
-- constants, locals, the stack
theorem zz_iconst (X : zz_X Γ G own cc d mc ms) {n : Int} {v : Int32} (hdg : decode cc pc = .ok (.iconst n, 1)) (hv : Int32.ofInt n = v) (kk : zz Γ G Q cells slots sh mi mr (pc + 1) ls (.int v :: st)) : zz Γ G Q cells slots sh mi mr pc ls st :=
  fun ad H locs la h => lv_iconst X.1 X.2.1 hdg hv (kk ad H locs la (h.ws (zm_oc trivial h.oks)))
theorem zz_bipush (X : zz_X Γ G own cc d mc ms) {n : Int} {v : Int32} (hdg : decode cc pc = .ok (.bipush n, 2)) (hv : (Int8.ofInt n).toInt32 = v) (kk : zz Γ G Q cells slots sh mi mr (pc + 2) ls (.int v :: st)) : zz Γ G Q cells slots sh mi mr pc ls st :=
  fun ad H locs la h => lv_bipush X.1 X.2.1 hdg hv (kk ad H locs la (h.ws (zm_oc trivial h.oks)))
theorem zz_sipush (X : zz_X Γ G own cc d mc ms) {n : Int} {v : Int32} (hdg : decode cc pc = .ok (.sipush n, 3)) (hv : (Int16.ofInt n).toInt32 = v) (kk : zz Γ G Q cells slots sh mi mr (pc + 3) ls (.int v :: st)) : zz Γ G Q cells slots sh mi mr pc ls st :=
  fun ad H locs la h => lv_sipush X.1 X.2.1 hdg hv (kk ad H locs la (h.ws (zm_oc trivial h.oks)))
theorem zz_lconst (X : zz_X Γ G own cc d mc ms) {n : Fin 2} {v : Int64} (hdg : decode cc pc = .ok (.lconst n, 1)) (hv : Int64.ofNat (n : Nat) = v) (kk : zz Γ G Q cells slots sh mi mr (pc + 1) ls (.long v :: st)) : zz Γ G Q cells slots sh mi mr pc ls st :=
  fun ad H locs la h => lv_lconst X.1 X.2.1 hdg hv (kk ad H locs la (h.ws (zm_oc trivial h.oks)))
theorem zz_iload_n (X : zz_X Γ G own cc d mc ms) {k : Fin 4} {i : Nat} {x : Int32} (hdg : decode cc pc = .ok (.iload_n k, 1)) (j : Nat) (hi : (k : Nat) = i) (hl : ls[j]? = some (i, .int x)) (kk : zz Γ G Q cells slots sh mi mr (pc + 1) ls (.int x :: st)) : zz Γ G Q cells slots sh mi mr pc ls st :=
  fun ad H locs la h => lv_iload_n X.1 X.2.1 hdg hi (h.la hl) (kk ad H locs la (h.ws (zm_oc trivial h.oks)))
theorem zz_iload (X : zz_X Γ G own cc d mc ms) {i : Nat} {x : Int32} (hdg : decode cc pc = .ok (.iload i, 2)) (j : Nat) (hl : ls[j]? = some (i, .int x)) (kk : zz Γ G Q cells slots sh mi mr (pc + 2) ls (.int x :: st)) : zz Γ G Q cells slots sh mi mr pc ls st :=
  fun ad H locs la h => lv_iload X.1 X.2.1 hdg (h.la hl) (kk ad H locs la (h.ws (zm_oc trivial h.oks)))
theorem zz_aload_n (X : zz_X Γ G own cc d mc ms) {k : Fin 4} {i x : Nat} (hdg : decode cc pc = .ok (.aload_n k, 1)) (j : Nat) (hi : (k : Nat) = i) (hl : ls[j]? = some (i, .ref x)) (kk : zz Γ G Q cells slots sh mi mr (pc + 1) ls (.ref x :: st)) : zz Γ G Q cells slots sh mi mr pc ls st :=
  fun ad H locs la h => lv_aload_n X.1 X.2.1 hdg hi (h.la hl) (kk ad H locs la (h.ws (zm_oc (h.lok hl).1 h.oks)))
theorem zz_aload (X : zz_X Γ G own cc d mc ms) {i x : Nat} (hdg : decode cc pc = .ok (.aload i, 2)) (j : Nat) (hl : ls[j]? = some (i, .ref x)) (kk : zz Γ G Q cells slots sh mi mr (pc + 2) ls (.ref x :: st)) : zz Γ G Q cells slots sh mi mr pc ls st :=
  fun ad H locs la h => lv_aload X.1 X.2.1 hdg (h.la hl) (kk ad H locs la (h.ws (zm_oc (h.lok hl).1 h.oks)))
/-- the locals but one -/
def zz_del : List (Nat × Value) → Nat → List (Nat × Value)
  | [], _ => []
  | q :: r, i => if q.1 = i then zz_del r i else q :: zz_del r i
/-- the locals with a new one -/
def zz_set : List (Nat × Value) → Nat → Value → List (Nat × Value)
  | [], i, v => [(i, v)]
  | q :: r, i, v => if q.1 = i then (i, v) :: zz_del r i else q :: zz_set r i v
theorem zz_del_mem {i : Nat} : ∀ {ls : List (Nat × Value)} {q : Nat × Value}, q ∈ zz_del ls i → q ∈ ls ∧ q.1 ≠ i
  | [], _, h => nomatch h
  | a :: r, q, h => by
    unfold zz_del at h
    split at h
    · obtain ⟨h1, h2⟩ := zz_del_mem h
      exact ⟨List.mem_cons_of_mem _ h1, h2⟩
    · rename_i hne
      rcases List.mem_cons.mp h with rfl | h
      · exact ⟨List.mem_cons_self, hne⟩
      · obtain ⟨h1, h2⟩ := zz_del_mem h
        exact ⟨List.mem_cons_of_mem _ h1, h2⟩
theorem zz_set_mem {i : Nat} {v : Value} : ∀ {ls : List (Nat × Value)} {q : Nat × Value}, q ∈ zz_set ls i v → q = (i, v) ∨ (q ∈ ls ∧ q.1 ≠ i)
  | [], q, h => Or.inl (List.mem_singleton.mp h)
  | a :: r, q, h => by
    unfold zz_set at h
    split at h
    · rcases List.mem_cons.mp h with rfl | h
      · exact Or.inl rfl
      · obtain ⟨h1, h2⟩ := zz_del_mem h
        exact Or.inr ⟨List.mem_cons_of_mem _ h1, h2⟩
    · rename_i hne
      rcases List.mem_cons.mp h with rfl | h
      · exact Or.inr ⟨List.mem_cons_self, hne⟩
      · rcases zz_set_mem h with h | ⟨h1, h2⟩
        · exact Or.inl h
        · exact Or.inr ⟨List.mem_cons_of_mem _ h1, h2⟩
theorem zz_stored {ad : Nat → Nat} {H : Heap} {locs : List Loc} {la la' : Array Slot} {i : Nat} {v : Value} (h : zz_H Γ G sh mi mr ls (v :: st) ad H locs la) (hv : v.category = 1) (hs : lv_has la' G.2.2.1 ((i, zm_cv ad v) :: (zz_ls ad ls).filter (fun q => !(q.1 == i) && !(q.1 + 1 == i && q.2.category == 2)))) : zz_H Γ G sh mi mr (zz_set ls i v) st ad H locs la' := by
  refine ⟨h.1, h.2.1, h.2.2.1, fun q hq => ?_, zm_ot h.oks, ⟨hs.1, hs.2.1, fun q hq => ?_⟩⟩
  · rcases zz_set_mem hq with rfl | ⟨h1, -⟩
    · exact ⟨zm_oh h.oks, hv⟩
    · exact h.2.2.2.1 q h1
  · obtain ⟨x, hx, rfl⟩ := List.mem_map.mp hq
    refine hs.2.2 _ ?_
    rcases zz_set_mem hx with rfl | ⟨h1, h2⟩
    · exact List.mem_cons_self
    · refine List.mem_cons_of_mem _ (List.mem_filter.mpr ⟨List.mem_map.mpr ⟨x, h1, rfl⟩, ?_⟩)
      have hc : (zm_cv ad x.2).category = 1 := by rw [zm_cv_cat]; exact (h.2.2.2.1 x h1).2
      simp [h2, hc]
theorem zz_istore_n (X : zz_X Γ G own cc d mc ms) {k : Fin 4} {i : Nat} {x : Int32} {ls' : List (Nat × Value)} (hdg : decode cc pc = .ok (.istore_n k, 1)) (hi : (k : Nat) = i) (hn : i < G.2.2.1) (hl : zz_set ls i (.int x) = ls') (kk : zz Γ G Q cells slots sh mi mr (pc + 1) ls' st) : zz Γ G Q cells slots sh mi mr pc ls (.int x :: st) := by
  intro ad H locs la h
  subst hl
  exact lv_istore_n X.1 X.2.1 hdg hi h.2.2.2.2.2 hn rfl fun la' hs => kk ad H locs la' (zz_stored h rfl hs)
theorem zz_istore (X : zz_X Γ G own cc d mc ms) {i : Nat} {x : Int32} {ls' : List (Nat × Value)} (hdg : decode cc pc = .ok (.istore i, 2)) (hn : i < G.2.2.1) (hl : zz_set ls i (.int x) = ls') (kk : zz Γ G Q cells slots sh mi mr (pc + 2) ls' st) : zz Γ G Q cells slots sh mi mr pc ls (.int x :: st) := by
  intro ad H locs la h
  subst hl
  exact lv_istore X.1 X.2.1 hdg h.2.2.2.2.2 hn rfl fun la' hs => kk ad H locs la' (zz_stored h rfl hs)
theorem zz_astore_n (X : zz_X Γ G own cc d mc ms) {k : Fin 4} {i x : Nat} {ls' : List (Nat × Value)} (hdg : decode cc pc = .ok (.astore_n k, 1)) (hi : (k : Nat) = i) (hn : i < G.2.2.1) (hl : zz_set ls i (.ref x) = ls') (kk : zz Γ G Q cells slots sh mi mr (pc + 1) ls' st) : zz Γ G Q cells slots sh mi mr pc ls (.ref x :: st) := by
  intro ad H locs la h
  subst hl
  exact lv_astore_n X.1 X.2.1 hdg hi h.2.2.2.2.2 hn rfl fun la' hs => kk ad H locs la' (zz_stored h rfl hs)
theorem zz_astore (X : zz_X Γ G own cc d mc ms) {i x : Nat} {ls' : List (Nat × Value)} (hdg : decode cc pc = .ok (.astore i, 2)) (hn : i < G.2.2.1) (hl : zz_set ls i (.ref x) = ls') (kk : zz Γ G Q cells slots sh mi mr (pc + 2) ls' st) : zz Γ G Q cells slots sh mi mr pc ls (.ref x :: st) := by
  intro ad H locs la h
  subst hl
  exact lv_astore X.1 X.2.1 hdg h.2.2.2.2.2 hn rfl fun la' hs => kk ad H locs la' (zz_stored h rfl hs)
theorem zz_iinc (X : zz_X Γ G own cc d mc ms) {i : Nat} {n : Int} {x v : Int32} {ls' : List (Nat × Value)} (hdg : decode cc pc = .ok (.iinc i n, 3)) (k : Nat) (hk : ls[k]? = some (i, .int x)) (hv : x + Int32.ofInt n = v) (hn : i < G.2.2.1) (hl : zz_set ls i (.int v) = ls') (kk : zz Γ G Q cells slots sh mi mr (pc + 3) ls' st) : zz Γ G Q cells slots sh mi mr pc ls st := by
  intro ad H locs la h
  subst hl
  have hk2 : (zz_ls ad ls)[k]? = some (i, .int x) := by
    unfold zz_ls
    rw [List.getElem?_map, hk]
    rfl
  exact lv_iinc X.1 X.2.1 hdg h.2.2.2.2.2 hk2 hv hn rfl fun la' hs => kk ad H locs la' (zz_stored (v := .int v) (h.ws (zm_oc trivial h.oks)) rfl hs)
theorem zz_dup (X : zz_X Γ G own cc d mc ms) {v : Value} (hdg : decode cc pc = .ok (.dup, 1)) (hv : v.category = 1) (kk : zz Γ G Q cells slots sh mi mr (pc + 1) ls (v :: v :: st)) : zz Γ G Q cells slots sh mi mr pc ls (v :: st) :=
  fun ad H locs la h => lv_dup X.1 X.2.1 hdg ((zm_cv_cat ad v).trans hv) (kk ad H locs la (h.ws (zm_oc (zm_oh h.oks) h.oks)))
theorem zz_dup2 (X : zz_X Γ G own cc d mc ms) {v w : Value} (hdg : decode cc pc = .ok (.dup2, 1)) (hv : v.category = 1) (hw : w.category = 1) (kk : zz Γ G Q cells slots sh mi mr (pc + 1) ls (v :: w :: v :: w :: st)) : zz Γ G Q cells slots sh mi mr pc ls (v :: w :: st) :=
  fun ad H locs la h => lv_dup2_11 X.1 X.2.1 hdg ((zm_cv_cat ad v).trans hv) ((zm_cv_cat ad w).trans hw) (kk ad H locs la (h.ws (zm_oc (zm_oh h.oks) (zm_oc (zm_oh (zm_ot h.oks)) h.oks))))
theorem zz_dup_x1 (X : zz_X Γ G own cc d mc ms) {v w : Value} (hdg : decode cc pc = .ok (.dup_x1, 1)) (hv : v.category = 1) (hw : w.category = 1) (kk : zz Γ G Q cells slots sh mi mr (pc + 1) ls (v :: w :: v :: st)) : zz Γ G Q cells slots sh mi mr pc ls (v :: w :: st) :=
  fun ad H locs la h => lv_dup_x1 X.1 X.2.1 hdg ((zm_cv_cat ad v).trans hv) ((zm_cv_cat ad w).trans hw) (kk ad H locs la (h.ws (zm_oc (zm_oh h.oks) (zm_oc (zm_oh (zm_ot h.oks)) (zm_oc (zm_oh h.oks) (zm_ot (zm_ot h.oks)))))))
-- arithmetic
theorem zz_iadd (X : zz_X Γ G own cc d mc ms) {x y z : Int32} (hdg : decode cc pc = .ok (.iadd, 1)) (hz : x + y = z) (kk : zz Γ G Q cells slots sh mi mr (pc + 1) ls (.int z :: st)) : zz Γ G Q cells slots sh mi mr pc ls (.int y :: .int x :: st) := by
  subst hz
  exact fun ad H locs la h => lv_iadd X.1 X.2.1 hdg (kk ad H locs la (h.ws (zm_oc trivial (zm_ot (zm_ot h.oks)))))
theorem zz_isub (X : zz_X Γ G own cc d mc ms) {x y z : Int32} (hdg : decode cc pc = .ok (.isub, 1)) (hz : x - y = z) (kk : zz Γ G Q cells slots sh mi mr (pc + 1) ls (.int z :: st)) : zz Γ G Q cells slots sh mi mr pc ls (.int y :: .int x :: st) := by
  subst hz
  exact fun ad H locs la h => lv_isub X.1 X.2.1 hdg (kk ad H locs la (h.ws (zm_oc trivial (zm_ot (zm_ot h.oks)))))
theorem zz_imul (X : zz_X Γ G own cc d mc ms) {x y z : Int32} (hdg : decode cc pc = .ok (.imul, 1)) (hz : x * y = z) (kk : zz Γ G Q cells slots sh mi mr (pc + 1) ls (.int z :: st)) : zz Γ G Q cells slots sh mi mr pc ls (.int y :: .int x :: st) := by
  subst hz
  exact fun ad H locs la h => lv_imul X.1 X.2.1 hdg (kk ad H locs la (h.ws (zm_oc trivial (zm_ot (zm_ot h.oks)))))
theorem zz_iand (X : zz_X Γ G own cc d mc ms) {x y z : Int32} (hdg : decode cc pc = .ok (.iand, 1)) (hz : x &&& y = z) (kk : zz Γ G Q cells slots sh mi mr (pc + 1) ls (.int z :: st)) : zz Γ G Q cells slots sh mi mr pc ls (.int y :: .int x :: st) := by
  subst hz
  exact fun ad H locs la h => lv_iand X.1 X.2.1 hdg (kk ad H locs la (h.ws (zm_oc trivial (zm_ot (zm_ot h.oks)))))
theorem zz_ior (X : zz_X Γ G own cc d mc ms) {x y z : Int32} (hdg : decode cc pc = .ok (.ior, 1)) (hz : x ||| y = z) (kk : zz Γ G Q cells slots sh mi mr (pc + 1) ls (.int z :: st)) : zz Γ G Q cells slots sh mi mr pc ls (.int y :: .int x :: st) := by
  subst hz
  exact fun ad H locs la h => lv_ior X.1 X.2.1 hdg (kk ad H locs la (h.ws (zm_oc trivial (zm_ot (zm_ot h.oks)))))
theorem zz_ixor (X : zz_X Γ G own cc d mc ms) {x y z : Int32} (hdg : decode cc pc = .ok (.ixor, 1)) (hz : x ^^^ y = z) (kk : zz Γ G Q cells slots sh mi mr (pc + 1) ls (.int z :: st)) : zz Γ G Q cells slots sh mi mr pc ls (.int y :: .int x :: st) := by
  subst hz
  exact fun ad H locs la h => lv_ixor X.1 X.2.1 hdg (kk ad H locs la (h.ws (zm_oc trivial (zm_ot (zm_ot h.oks)))))
theorem zz_idiv (X : zz_X Γ G own cc d mc ms) {x y z : Int32} (hdg : decode cc pc = .ok (.idiv, 1)) (h0 : ¬ y = 0) (hz : x / y = z) (kk : zz Γ G Q cells slots sh mi mr (pc + 1) ls (.int z :: st)) : zz Γ G Q cells slots sh mi mr pc ls (.int y :: .int x :: st) := by
  subst hz
  exact fun ad H locs la h => lv_idiv X.1 X.2.1 hdg h0 (kk ad H locs la (h.ws (zm_oc trivial (zm_ot (zm_ot h.oks)))))
theorem zz_irem (X : zz_X Γ G own cc d mc ms) {x y z : Int32} (hdg : decode cc pc = .ok (.irem, 1)) (h0 : ¬ y = 0) (hz : x - x / y * y = z) (kk : zz Γ G Q cells slots sh mi mr (pc + 1) ls (.int z :: st)) : zz Γ G Q cells slots sh mi mr pc ls (.int y :: .int x :: st) := by
  subst hz
  exact fun ad H locs la h => lv_irem X.1 X.2.1 hdg h0 (kk ad H locs la (h.ws (zm_oc trivial (zm_ot (zm_ot h.oks)))))
theorem zz_i2l (X : zz_X Γ G own cc d mc ms) {x : Int32} (hdg : decode cc pc = .ok (.i2l, 1)) (kk : zz Γ G Q cells slots sh mi mr (pc + 1) ls (.long x.toInt64 :: st)) : zz Γ G Q cells slots sh mi mr pc ls (.int x :: st) :=
  fun ad H locs la h => lv_i2l X.1 X.2.1 hdg rfl (kk ad H locs la (h.ws (zm_oc trivial (zm_ot h.oks))))
theorem zz_lcmp (X : zz_X Γ G own cc d mc ms) {x y : Int64} (hdg : decode cc pc = .ok (.lcmp, 1)) (kk : zz Γ G Q cells slots sh mi mr (pc + 1) ls (.int (lg_cmp x y) :: st)) : zz Γ G Q cells slots sh mi mr pc ls (.long y :: .long x :: st) :=
  fun ad H locs la h => W.lcmp X.1 X.2.1 hdg (kk ad H locs la (h.ws (zm_oc trivial (zm_ot (zm_ot h.oks)))))
-- branches
theorem zz_goto (X : zz_X Γ G own cc d mc ms) {off : Int} (tgt : Nat) (hdg : decode cc pc = .ok (.goto off, 3)) (ht : (pc : Int) + off = (tgt : Int)) (kk : zz Γ G Q cells slots sh mi mr tgt ls st) : zz Γ G Q cells slots sh mi mr pc ls st :=
  fun ad H locs la h => lv_goto X.1 X.2.1 hdg ht (kk ad H locs la h)
theorem zz_if_eq (X : zz_X Γ G own cc d mc ms) {x : Int32} {off : Int} (tgt : Nat) (hdg : decode cc pc = .ok (.ifCond .eq off, 3)) (ht : (pc : Int) + off = (tgt : Int)) (kt : x = 0 → zz Γ G Q cells slots sh mi mr tgt ls st) (kf : ¬ x = 0 → zz Γ G Q cells slots sh mi mr (pc + 3) ls st) : zz Γ G Q cells slots sh mi mr pc ls (.int x :: st) :=
  fun ad H locs la h => lv_if_eq X.1 X.2.1 hdg ht (fun c => kt c ad H locs la (h.ws (zm_ot h.oks))) (fun c => kf c ad H locs la (h.ws (zm_ot h.oks)))
theorem zz_icmp_eq (X : zz_X Γ G own cc d mc ms) {x y : Int32} {off : Int} (tgt : Nat) (hdg : decode cc pc = .ok (.if_icmp .eq off, 3)) (ht : (pc : Int) + off = (tgt : Int)) (kt : x = y → zz Γ G Q cells slots sh mi mr tgt ls st) (kf : ¬ x = y → zz Γ G Q cells slots sh mi mr (pc + 3) ls st) : zz Γ G Q cells slots sh mi mr pc ls (.int y :: .int x :: st) :=
  fun ad H locs la h => lv_icmp_eq X.1 X.2.1 hdg ht (fun c => kt c ad H locs la (h.ws (zm_ot (zm_ot h.oks)))) (fun c => kf c ad H locs la (h.ws (zm_ot (zm_ot h.oks))))
theorem zz_icmp_eqN (X : zz_X Γ G own cc d mc ms) {a b : Nat} (ha : a < 2 ^ 31) (hb : b < 2 ^ 31) {off : Int} (tgt : Nat) (hdg : decode cc pc = .ok (.if_icmp .eq off, 3)) (ht : (pc : Int) + off = (tgt : Int)) (kt : a = b → zz Γ G Q cells slots sh mi mr tgt ls st) (kf : ¬ a = b → zz Γ G Q cells slots sh mi mr (pc + 3) ls st) : zz Γ G Q cells slots sh mi mr pc ls (.int (nI b) :: .int (nI a) :: st) :=
  zz_icmp_eq X tgt hdg ht (fun c => kt ((nI_eq ha hb).mp c)) (fun c => kf ((fun q => c ((nI_eq ha hb).mpr q))))
theorem zz_if_eqN (X : zz_X Γ G own cc d mc ms) {a : Nat} (ha : a < 2 ^ 31) {off : Int} (tgt : Nat) (hdg : decode cc pc = .ok (.ifCond .eq off, 3)) (ht : (pc : Int) + off = (tgt : Int)) (kt : a = 0 → zz Γ G Q cells slots sh mi mr tgt ls st) (kf : ¬ a = 0 → zz Γ G Q cells slots sh mi mr (pc + 3) ls st) : zz Γ G Q cells slots sh mi mr pc ls (.int (nI a) :: st) :=
  zz_if_eq X tgt hdg ht (fun c => kt ((nI_eq ha (by decide : 0 < 2 ^ 31)).mp (c.trans nI_0.symm))) (fun c => kf ((fun q => c (by rw [q]; exact nI_0))))
theorem zz_if_ne (X : zz_X Γ G own cc d mc ms) {x : Int32} {off : Int} (tgt : Nat) (hdg : decode cc pc = .ok (.ifCond .ne off, 3)) (ht : (pc : Int) + off = (tgt : Int)) (kt : ¬ x = 0 → zz Γ G Q cells slots sh mi mr tgt ls st) (kf : x = 0 → zz Γ G Q cells slots sh mi mr (pc + 3) ls st) : zz Γ G Q cells slots sh mi mr pc ls (.int x :: st) :=
  fun ad H locs la h => lv_if_ne X.1 X.2.1 hdg ht (fun c => kt c ad H locs la (h.ws (zm_ot h.oks))) (fun c => kf c ad H locs la (h.ws (zm_ot h.oks)))
theorem zz_icmp_ne (X : zz_X Γ G own cc d mc ms) {x y : Int32} {off : Int} (tgt : Nat) (hdg : decode cc pc = .ok (.if_icmp .ne off, 3)) (ht : (pc : Int) + off = (tgt : Int)) (kt : ¬ x = y → zz Γ G Q cells slots sh mi mr tgt ls st) (kf : x = y → zz Γ G Q cells slots sh mi mr (pc + 3) ls st) : zz Γ G Q cells slots sh mi mr pc ls (.int y :: .int x :: st) :=
  fun ad H locs la h => lv_icmp_ne X.1 X.2.1 hdg ht (fun c => kt c ad H locs la (h.ws (zm_ot (zm_ot h.oks)))) (fun c => kf c ad H locs la (h.ws (zm_ot (zm_ot h.oks))))
theorem zz_icmp_neN (X : zz_X Γ G own cc d mc ms) {a b : Nat} (ha : a < 2 ^ 31) (hb : b < 2 ^ 31) {off : Int} (tgt : Nat) (hdg : decode cc pc = .ok (.if_icmp .ne off, 3)) (ht : (pc : Int) + off = (tgt : Int)) (kt : ¬ a = b → zz Γ G Q cells slots sh mi mr tgt ls st) (kf : a = b → zz Γ G Q cells slots sh mi mr (pc + 3) ls st) : zz Γ G Q cells slots sh mi mr pc ls (.int (nI b) :: .int (nI a) :: st) :=
  zz_icmp_ne X tgt hdg ht (fun c => kt ((fun q => c ((nI_eq ha hb).mpr q)))) (fun c => kf ((nI_eq ha hb).mp c))
theorem zz_if_neN (X : zz_X Γ G own cc d mc ms) {a : Nat} (ha : a < 2 ^ 31) {off : Int} (tgt : Nat) (hdg : decode cc pc = .ok (.ifCond .ne off, 3)) (ht : (pc : Int) + off = (tgt : Int)) (kt : ¬ a = 0 → zz Γ G Q cells slots sh mi mr tgt ls st) (kf : a = 0 → zz Γ G Q cells slots sh mi mr (pc + 3) ls st) : zz Γ G Q cells slots sh mi mr pc ls (.int (nI a) :: st) :=
  zz_if_ne X tgt hdg ht (fun c => kt ((fun q => c (by rw [q]; exact nI_0)))) (fun c => kf ((nI_eq ha (by decide : 0 < 2 ^ 31)).mp (c.trans nI_0.symm)))
theorem zz_if_lt (X : zz_X Γ G own cc d mc ms) {x : Int32} {off : Int} (tgt : Nat) (hdg : decode cc pc = .ok (.ifCond .lt off, 3)) (ht : (pc : Int) + off = (tgt : Int)) (kt : x < 0 → zz Γ G Q cells slots sh mi mr tgt ls st) (kf : ¬ x < 0 → zz Γ G Q cells slots sh mi mr (pc + 3) ls st) : zz Γ G Q cells slots sh mi mr pc ls (.int x :: st) :=
  fun ad H locs la h => lv_if_lt X.1 X.2.1 hdg ht (fun c => kt c ad H locs la (h.ws (zm_ot h.oks))) (fun c => kf c ad H locs la (h.ws (zm_ot h.oks)))
theorem zz_icmp_lt (X : zz_X Γ G own cc d mc ms) {x y : Int32} {off : Int} (tgt : Nat) (hdg : decode cc pc = .ok (.if_icmp .lt off, 3)) (ht : (pc : Int) + off = (tgt : Int)) (kt : x < y → zz Γ G Q cells slots sh mi mr tgt ls st) (kf : ¬ x < y → zz Γ G Q cells slots sh mi mr (pc + 3) ls st) : zz Γ G Q cells slots sh mi mr pc ls (.int y :: .int x :: st) :=
  fun ad H locs la h => lv_icmp_lt X.1 X.2.1 hdg ht (fun c => kt c ad H locs la (h.ws (zm_ot (zm_ot h.oks)))) (fun c => kf c ad H locs la (h.ws (zm_ot (zm_ot h.oks))))
theorem zz_icmp_ltN (X : zz_X Γ G own cc d mc ms) {a b : Nat} (ha : a < 2 ^ 31) (hb : b < 2 ^ 31) {off : Int} (tgt : Nat) (hdg : decode cc pc = .ok (.if_icmp .lt off, 3)) (ht : (pc : Int) + off = (tgt : Int)) (kt : a < b → zz Γ G Q cells slots sh mi mr tgt ls st) (kf : b ≤ a → zz Γ G Q cells slots sh mi mr (pc + 3) ls st) : zz Γ G Q cells slots sh mi mr pc ls (.int (nI b) :: .int (nI a) :: st) :=
  zz_icmp_lt X tgt hdg ht (fun c => kt ((nI_ltI ha hb).mp c)) (fun c => kf (Nat.le_of_not_lt (fun q => c ((nI_ltI ha hb).mpr q))))
theorem zz_if_ge (X : zz_X Γ G own cc d mc ms) {x : Int32} {off : Int} (tgt : Nat) (hdg : decode cc pc = .ok (.ifCond .ge off, 3)) (ht : (pc : Int) + off = (tgt : Int)) (kt : 0 ≤ x → zz Γ G Q cells slots sh mi mr tgt ls st) (kf : ¬ 0 ≤ x → zz Γ G Q cells slots sh mi mr (pc + 3) ls st) : zz Γ G Q cells slots sh mi mr pc ls (.int x :: st) :=
  fun ad H locs la h => lv_if_ge X.1 X.2.1 hdg ht (fun c => kt c ad H locs la (h.ws (zm_ot h.oks))) (fun c => kf c ad H locs la (h.ws (zm_ot h.oks)))
theorem zz_icmp_ge (X : zz_X Γ G own cc d mc ms) {x y : Int32} {off : Int} (tgt : Nat) (hdg : decode cc pc = .ok (.if_icmp .ge off, 3)) (ht : (pc : Int) + off = (tgt : Int)) (kt : y ≤ x → zz Γ G Q cells slots sh mi mr tgt ls st) (kf : ¬ y ≤ x → zz Γ G Q cells slots sh mi mr (pc + 3) ls st) : zz Γ G Q cells slots sh mi mr pc ls (.int y :: .int x :: st) :=
  fun ad H locs la h => lv_icmp_ge X.1 X.2.1 hdg ht (fun c => kt c ad H locs la (h.ws (zm_ot (zm_ot h.oks)))) (fun c => kf c ad H locs la (h.ws (zm_ot (zm_ot h.oks))))
theorem zz_icmp_geN (X : zz_X Γ G own cc d mc ms) {a b : Nat} (ha : a < 2 ^ 31) (hb : b < 2 ^ 31) {off : Int} (tgt : Nat) (hdg : decode cc pc = .ok (.if_icmp .ge off, 3)) (ht : (pc : Int) + off = (tgt : Int)) (kt : b ≤ a → zz Γ G Q cells slots sh mi mr tgt ls st) (kf : a < b → zz Γ G Q cells slots sh mi mr (pc + 3) ls st) : zz Γ G Q cells slots sh mi mr pc ls (.int (nI b) :: .int (nI a) :: st) :=
  zz_icmp_ge X tgt hdg ht (fun c => kt ((nI_leI hb ha).mp c)) (fun c => kf (Nat.lt_of_not_le (fun q => c ((nI_leI hb ha).mpr q))))
theorem zz_if_gt (X : zz_X Γ G own cc d mc ms) {x : Int32} {off : Int} (tgt : Nat) (hdg : decode cc pc = .ok (.ifCond .gt off, 3)) (ht : (pc : Int) + off = (tgt : Int)) (kt : 0 < x → zz Γ G Q cells slots sh mi mr tgt ls st) (kf : ¬ 0 < x → zz Γ G Q cells slots sh mi mr (pc + 3) ls st) : zz Γ G Q cells slots sh mi mr pc ls (.int x :: st) :=
  fun ad H locs la h => lv_if_gt X.1 X.2.1 hdg ht (fun c => kt c ad H locs la (h.ws (zm_ot h.oks))) (fun c => kf c ad H locs la (h.ws (zm_ot h.oks)))
theorem zz_icmp_gt (X : zz_X Γ G own cc d mc ms) {x y : Int32} {off : Int} (tgt : Nat) (hdg : decode cc pc = .ok (.if_icmp .gt off, 3)) (ht : (pc : Int) + off = (tgt : Int)) (kt : y < x → zz Γ G Q cells slots sh mi mr tgt ls st) (kf : ¬ y < x → zz Γ G Q cells slots sh mi mr (pc + 3) ls st) : zz Γ G Q cells slots sh mi mr pc ls (.int y :: .int x :: st) :=
  fun ad H locs la h => lv_icmp_gt X.1 X.2.1 hdg ht (fun c => kt c ad H locs la (h.ws (zm_ot (zm_ot h.oks)))) (fun c => kf c ad H locs la (h.ws (zm_ot (zm_ot h.oks))))
theorem zz_icmp_gtN (X : zz_X Γ G own cc d mc ms) {a b : Nat} (ha : a < 2 ^ 31) (hb : b < 2 ^ 31) {off : Int} (tgt : Nat) (hdg : decode cc pc = .ok (.if_icmp .gt off, 3)) (ht : (pc : Int) + off = (tgt : Int)) (kt : b < a → zz Γ G Q cells slots sh mi mr tgt ls st) (kf : a ≤ b → zz Γ G Q cells slots sh mi mr (pc + 3) ls st) : zz Γ G Q cells slots sh mi mr pc ls (.int (nI b) :: .int (nI a) :: st) :=
  zz_icmp_gt X tgt hdg ht (fun c => kt ((nI_ltI hb ha).mp c)) (fun c => kf (Nat.le_of_not_lt (fun q => c ((nI_ltI hb ha).mpr q))))
theorem zz_if_gtN (X : zz_X Γ G own cc d mc ms) {a : Nat} (ha : a < 2 ^ 31) {off : Int} (tgt : Nat) (hdg : decode cc pc = .ok (.ifCond .gt off, 3)) (ht : (pc : Int) + off = (tgt : Int)) (kt : 0 < a → zz Γ G Q cells slots sh mi mr tgt ls st) (kf : a = 0 → zz Γ G Q cells slots sh mi mr (pc + 3) ls st) : zz Γ G Q cells slots sh mi mr pc ls (.int (nI a) :: st) :=
  zz_if_gt X tgt hdg ht (fun c => kt (Nat.pos_of_ne_zero (fun q => by rw [q] at c; exact absurd c (by decide)))) (fun c => kf (Classical.byContradiction (fun q => c (by have h3 := nI_lt (a := 0) (Nat.pos_of_ne_zero q) ha; rw [nI_0] at h3; exact h3))))
theorem zz_if_le (X : zz_X Γ G own cc d mc ms) {x : Int32} {off : Int} (tgt : Nat) (hdg : decode cc pc = .ok (.ifCond .le off, 3)) (ht : (pc : Int) + off = (tgt : Int)) (kt : x ≤ 0 → zz Γ G Q cells slots sh mi mr tgt ls st) (kf : ¬ x ≤ 0 → zz Γ G Q cells slots sh mi mr (pc + 3) ls st) : zz Γ G Q cells slots sh mi mr pc ls (.int x :: st) :=
  fun ad H locs la h => lv_if_le X.1 X.2.1 hdg ht (fun c => kt c ad H locs la (h.ws (zm_ot h.oks))) (fun c => kf c ad H locs la (h.ws (zm_ot h.oks)))
theorem zz_icmp_le (X : zz_X Γ G own cc d mc ms) {x y : Int32} {off : Int} (tgt : Nat) (hdg : decode cc pc = .ok (.if_icmp .le off, 3)) (ht : (pc : Int) + off = (tgt : Int)) (kt : x ≤ y → zz Γ G Q cells slots sh mi mr tgt ls st) (kf : ¬ x ≤ y → zz Γ G Q cells slots sh mi mr (pc + 3) ls st) : zz Γ G Q cells slots sh mi mr pc ls (.int y :: .int x :: st) :=
  fun ad H locs la h => lv_icmp_le X.1 X.2.1 hdg ht (fun c => kt c ad H locs la (h.ws (zm_ot (zm_ot h.oks)))) (fun c => kf c ad H locs la (h.ws (zm_ot (zm_ot h.oks))))
theorem zz_icmp_leN (X : zz_X Γ G own cc d mc ms) {a b : Nat} (ha : a < 2 ^ 31) (hb : b < 2 ^ 31) {off : Int} (tgt : Nat) (hdg : decode cc pc = .ok (.if_icmp .le off, 3)) (ht : (pc : Int) + off = (tgt : Int)) (kt : a ≤ b → zz Γ G Q cells slots sh mi mr tgt ls st) (kf : b < a → zz Γ G Q cells slots sh mi mr (pc + 3) ls st) : zz Γ G Q cells slots sh mi mr pc ls (.int (nI b) :: .int (nI a) :: st) :=
  zz_icmp_le X tgt hdg ht (fun c => kt ((nI_leI ha hb).mp c)) (fun c => kf (Nat.lt_of_not_le (fun q => c ((nI_leI ha hb).mpr q))))
theorem zz_if_leN (X : zz_X Γ G own cc d mc ms) {a : Nat} (ha : a < 2 ^ 31) {off : Int} (tgt : Nat) (hdg : decode cc pc = .ok (.ifCond .le off, 3)) (ht : (pc : Int) + off = (tgt : Int)) (kt : a = 0 → zz Γ G Q cells slots sh mi mr tgt ls st) (kf : 0 < a → zz Γ G Q cells slots sh mi mr (pc + 3) ls st) : zz Γ G Q cells slots sh mi mr pc ls (.int (nI a) :: st) :=
  zz_if_le X tgt hdg ht (fun c => kt (Classical.byContradiction (fun q => nI_nle (Nat.pos_of_ne_zero q) ha c))) (fun c => kf (Nat.pos_of_ne_zero (fun q => c (by rw [q]; decide))))
/-- true and false as ints -/
def zz_bi (p : Prop) [Decidable p] : Int32 := if p then 1 else 0
theorem zz_bi_t {p : Prop} [Decidable p] (h : p) : zz_bi p = 1 := if_pos h
theorem zz_bi_f {p : Prop} [Decidable p] (h : ¬ p) : zz_bi p = 0 := if_neg h
theorem zz_bi_0 {p : Prop} [Decidable p] : zz_bi p = 0 ↔ ¬ p := by
  unfold zz_bi
  by_cases h : p
  · rw [if_pos h]; exact ⟨fun q => absurd q (by decide), fun q => absurd h q⟩
  · rw [if_neg h]; exact ⟨fun _ => h, fun _ => rfl⟩
theorem zz_bi_c {p q : Prop} [Decidable p] [Decidable q] (h : p ↔ q) : zz_bi p = zz_bi q := by
  unfold zz_bi
  by_cases hp : p
  · rw [if_pos hp, if_pos (h.mp hp)]
  · rw [if_neg hp, if_neg (fun z => hp (h.mpr z))]
theorem zz_if_eqB (X : zz_X Γ G own cc d mc ms) {p : Prop} [Decidable p] {off : Int} (tgt : Nat) (hdg : decode cc pc = .ok (.ifCond .eq off, 3)) (ht : (pc : Int) + off = (tgt : Int)) (kt : ¬ p → zz Γ G Q cells slots sh mi mr tgt ls st) (kf : p → zz Γ G Q cells slots sh mi mr (pc + 3) ls st) : zz Γ G Q cells slots sh mi mr pc ls (.int (zz_bi p) :: st) :=
  zz_if_eq X tgt hdg ht (fun c => kt (zz_bi_0.mp c)) (fun c => kf (Classical.byContradiction fun q => c (zz_bi_0.mpr q)))
theorem zz_if_neB (X : zz_X Γ G own cc d mc ms) {p : Prop} [Decidable p] {off : Int} (tgt : Nat) (hdg : decode cc pc = .ok (.ifCond .ne off, 3)) (ht : (pc : Int) + off = (tgt : Int)) (kt : p → zz Γ G Q cells slots sh mi mr tgt ls st) (kf : ¬ p → zz Γ G Q cells slots sh mi mr (pc + 3) ls st) : zz Γ G Q cells slots sh mi mr pc ls (.int (zz_bi p) :: st) :=
  zz_if_ne X tgt hdg ht (fun c => kt (Classical.byContradiction fun q => c (zz_bi_0.mpr q))) (fun c => kf (zz_bi_0.mp c))
theorem zz_acmp_eq (X : zz_X Γ G own cc d mc ms) {x y : Nat} {off : Int} (tgt : Nat) (hdg : decode cc pc = .ok (.if_acmp .eq off, 3)) (ht : (pc : Int) + off = (tgt : Int)) (hx9 : sh x ≠ some (9, 0)) (hy9 : sh y ≠ some (9, 0)) (kt : x = y → zz Γ G Q cells slots sh mi mr tgt ls st) (kf : ¬ x = y → zz Γ G Q cells slots sh mi mr (pc + 3) ls st) : zz Γ G Q cells slots sh mi mr pc ls (.ref y :: .ref x :: st) := by
  intro ad H locs la h
  refine lv_acmp_eq (rx := some (ad x)) (ry := some (ad y)) X.1 X.2.1 hdg ht (fun c => ?_) (fun c => ?_)
  · refine kt ?_ ad H locs la (h.ws (zm_ot (zm_ot h.oks)))
    exact zm_inj h.1 (zm_oh (zm_ot h.oks)) hx9 (zm_oh h.oks) hy9 (Option.some.inj c)
  · exact kf (fun e => c (by rw [e])) ad H locs la (h.ws (zm_ot (zm_ot h.oks)))
theorem zz_acmp_ne (X : zz_X Γ G own cc d mc ms) {x y : Nat} {off : Int} (tgt : Nat) (hdg : decode cc pc = .ok (.if_acmp .ne off, 3)) (ht : (pc : Int) + off = (tgt : Int)) (hx9 : sh x ≠ some (9, 0)) (hy9 : sh y ≠ some (9, 0)) (kt : ¬ x = y → zz Γ G Q cells slots sh mi mr tgt ls st) (kf : x = y → zz Γ G Q cells slots sh mi mr (pc + 3) ls st) : zz Γ G Q cells slots sh mi mr pc ls (.ref y :: .ref x :: st) := by
  intro ad H locs la h
  refine lv_acmp_ne (rx := some (ad x)) (ry := some (ad y)) X.1 X.2.1 hdg ht (fun c => ?_) (fun c => ?_)
  · exact kt (fun e => c (by rw [e])) ad H locs la (h.ws (zm_ot (zm_ot h.oks)))
  · refine kf ?_ ad H locs la (h.ws (zm_ot (zm_ot h.oks)))
    exact zm_inj h.1 (zm_oh (zm_ot h.oks)) hx9 (zm_oh h.oks) hy9 (Option.some.inj c)
theorem zz_tableIn (X : zz_X Γ G own cc d mc ms) {dflt lo hi : Int} {offs : Array Int} {len : Nat} {x : Int32} {off : Int} (tgt : Nat) (hdg : decode cc pc = .ok (.tableswitch dflt lo hi offs, len)) (h1 : ¬ x.toInt < lo) (h2 : ¬ hi < x.toInt) (ho : offs[(x.toInt - lo).toNat]? = some off) (ht : (pc : Int) + off = (tgt : Int)) (kk : zz Γ G Q cells slots sh mi mr tgt ls st) : zz Γ G Q cells slots sh mi mr pc ls (.int x :: st) :=
  fun ad H locs la h => lv_tableIn X.1 X.2.1 hdg h1 h2 ho ht (kk ad H locs la (h.ws (zm_ot h.oks)))
theorem zz_tableOut (X : zz_X Γ G own cc d mc ms) {dflt lo hi : Int} {offs : Array Int} {len : Nat} {x : Int32} (tgt : Nat) (hdg : decode cc pc = .ok (.tableswitch dflt lo hi offs, len)) (h1 : x.toInt < lo ∨ hi < x.toInt) (ht : (pc : Int) + dflt = (tgt : Int)) (kk : zz Γ G Q cells slots sh mi mr tgt ls st) : zz Γ G Q cells slots sh mi mr pc ls (.int x :: st) :=
  fun ad H locs la h => lv_tableOut X.1 X.2.1 hdg h1 ht (kk ad H locs la (h.ws (zm_ot h.oks)))
end ZR
