/-- T[][] may be made -/
def zk_AOt (ty : FieldType) (U : State) : Prop := (Cond.arrayOver (.array ty)).before #[] U = true
theorem zk_AOt.use {ty : FieldType} {A : Array Value} {U : State} (h : zk_AOt ty U) : (Cond.arrayOver (.array ty)).before A U = true := h
/-! ===== BEGIN new T[n][m]: the outer array a place, the inner ones among the pooled ===== -/
/-- f, but v at every address of l -/
def vr_up {α : Type} (f : Nat → α) (l : List Nat) (v : α) : Nat → α := fun a => if a ∈ l then v else f a
theorem vr_up_in {α : Type} {f : Nat → α} {l : List Nat} {v : α} {a : Nat} (h : a ∈ l) : vr_up f l v a = v := if_pos h
theorem vr_up_ne {α : Type} {f : Nat → α} {l : List Nat} {v : α} {a : Nat} (h : a ∉ l) : vr_up f l v a = f a := if_neg h
theorem vr_rows {L l : List Nat} {f : Nat → va_E} {e : va_E} (h : ∀ a, a ∈ l → a ∉ L) : va_pl L f ++ l.map (fun a => (a, e)) = va_pl (L ++ l) (vr_up f l e) := by
  unfold va_pl
  rw [List.map_append]
  congr 1
  · apply List.map_congr_left
    intro a ha
    rw [vr_up_ne (fun q => h a q ha)]
  · apply List.map_congr_left
    intro a ha
    rw [vr_up_in ha]
theorem vr_lay {X rows : va_W} {x : Nat × va_E} {pl : va_W} {D : va_G} {cl : List vw_C} {H : Heap} (hP : va_P D cl (((X ++ pl) ++ [x]) ++ rows) H) : va_P D cl ((X ++ [x]) ++ (pl ++ rows)) H := by
  rw [List.append_assoc (X ++ pl)] at hP
  have h := va_P.swap hP
  rw [← List.append_assoc X] at h
  have h2 := va_P.swap h
  rw [List.append_assoc (X ++ [x])] at h2
  exact h2
theorem vr_layD {X rows : va_W} {x : Nat × va_E} {pl : va_W} {A : Nat → Prop} (hD : va_D A (((X ++ pl) ++ [x]) ++ rows)) : va_D A ((X ++ [x]) ++ (pl ++ rows)) := by
  rw [List.append_assoc (X ++ pl)] at hD
  have h := va_D.swap hD
  rw [← List.append_assoc X] at h
  have h2 := va_D.swap h
  rw [List.append_assoc (X ++ [x])] at h2
  exact h2
theorem vr_outer (c : ClassId) (N h0 : Nat) : ∀ i : Nat, Jvm.Free.Multi.outerC c N h0 i = arrV c N (fun j => va_rf (if j < i then some (h0 + 1 + j) else none))
  | 0 => by
    show ({ cls := c, slots := Array.replicate N .null, vm := .none } : Cell) = _
    rw [arrV_new]
    refine congrArg (arrV c N) (funext fun j => ?_)
    simp [va_rf]
  | i + 1 => by
    show (Jvm.Free.Multi.outerC c N h0 i).setSlot i (.ref (h0 + 1 + i)) = _
    rw [vr_outer c N h0 i, arrV_store]
    refine congrArg (arrV c N) (funext fun j => ?_)
    by_cases e : j = i
    · subst e
      simp [updV, va_rf]
    · by_cases h : j < i
      · simp [updV, e, h, Nat.lt_succ_of_lt h]
      · simp [updV, e, h, show ¬ j < i + 1 by omega]
section VGM
variable {p : Program} {l : Launch} {e : Env} {R : Room} {s : State} {m : MethodId} {args : Array Value} {below : List Frame} {meth : Method} {c : Code} {H : Heap} {locs : List Loc} {cells slots : Nat} {Q : State → Prop}
variable {cc : ByteArray} {pc : Nat} {ls : Array Slot} {rest : List Value} {D : va_G} {cl : List vw_C} {A : Nat → Prop} {a : Nat} {tys : List (ClassId × FieldType)} {ws : va_W} {H0 : Heap}
theorem va_mna {X : va_W} {L : List Nat} {f : Nat → va_E} {cc : ByteArray} (hexec : p.tables.exec = Jvm.exec) (hb : c.code = cc) {own : String} {index : Nat} {ty : FieldType} {cy : ClassId} (hown : s.vm.findClass own = some m.cls) (hclink : (Cond.classLink own index ("[" ++ (FieldType.array ty).toString)).before args s = true) (hover : zk_AOt ty s) (harr : (Cond.arrayClass ty).before args s = true) (hcy : s.vm.findClass (FieldType.array ty).toString = some cy)
    (hK : va_K D cl tys s) (hP : va_P D cl (X ++ va_pl L f) H) (hD : va_D A (X ++ va_pl L f)) (hS : va_S A H0 H locs) (hA : ∀ q, H0.size ≤ q → A q) {n k : Int32} {N' K' : Nat} {z : vp_A} (hn : ¬ n < 0) (hk : ¬ k < 0) (hN : n.toNatClampNeg = N') (hM : k.toNatClampNeg = K')
    (hb1 : N' * 4 ≤ 536870912) (hb2 : K' * componentBytes ty ≤ 536870912) (hb3 : K' ≤ 536870912) (hdf : fits ty (defaultValue ty) = true) (hdd : (defaultValue ty).isDefault = true) (hcells : cells + (1 + N') ≤ R.cells) (hslots : slots + (N' + N' * K') ≤ R.slots) (hz : ∀ c : ClassId, Jvm.Free.Multi.innerC c K' (defaultValue ty) = vp_cell c z) (hdg : decode cc pc = .ok (.multianewarray index 2, 4))
    (kk : ∀ (q : Nat) (r : Nat → Nat) (cA : ClassId) (H1 : Heap), (∀ i j : Nat, i < N' → j < N' → r i = r j → i = j) → (∀ i : Nat, i < N' → r i ∉ L) → va_K D cl (tys ++ [(cA, .array ty)]) s →
      va_P D cl ((X ++ [(q, .inl (cA, N', .inr (.inr (.inr (.inr (fun i => if i < N' then some (r i) else none))))))]) ++ va_pl (L ++ (List.range N').map r) (vr_up f ((List.range N').map r) (.inl (cy, z)))) H1 → va_D A ((X ++ [(q, .inl (cA, N', .inr (.inr (.inr (.inr (fun i => if i < N' then some (r i) else none))))))]) ++ va_pl (L ++ (List.range N').map r) (vr_up f ((List.range N').map r) (.inl (cy, z)))) → va_S A H0 H1 locs →
      W p l e R s m args below meth c H1 locs (cells + 1 + N') (slots + N' + N' * K') Q (F0 m (pc + 4) ls (.ref q :: rest))) : W p l e R s m args below meth c H locs cells slots Q (F0 m pc ls (.int k :: .int n :: rest)) := by
  subst hN
  subst hM
  intro T hT Xs
  obtain ⟨vm₁, cA, comp, -, fA, fC, hO, -, X', step⟩ := Xs.multianewarray2F hexec hown hclink (zk_AOt.use hover) harr (g := F0 m pc ls (.int k :: .int n :: rest)) rfl (by rw [hb]; exact hdg) rfl hn hk hb1 hb2 hb3 hdf hdd hcells hslots
  have ec : some cy = some comp := hcy.symm.trans fC
  cases ec
  generalize hF : Jvm.Free.Multi.fill (T.setVm vm₁) cA cy n.toNatClampNeg k.toNatClampNeg (defaultValue ty) n.toNatClampNeg = F at X' step
  have hTh : (T.setVm vm₁).heap = H := hT
  obtain ⟨f1, f2, -, -⟩ := Jvm.Free.Multi.fill_facts (T.setVm vm₁) cA cy n.toNatClampNeg k.toNatClampNeg (defaultValue ty) n.toNatClampNeg
  rw [hF, hTh] at f1 f2
  have hold : ∀ x : Nat, x < H.size → F.heap[x]? = H[x]? := fun x hx => by
    have := Jvm.Free.Multi.fill_old (T.setVm vm₁) cA cy n.toNatClampNeg k.toNatClampNeg (defaultValue ty) (a := x) (by rw [hTh]; exact hx) n.toNatClampNeg
    rw [hF, hTh] at this
    exact this
  have hrow : ∀ j : Nat, j < n.toNatClampNeg → F.heap[H.size + 1 + j]? = some (vp_cell cy z) := fun j hj => by
    have := Jvm.Free.Multi.fill_inner (T.setVm vm₁) cA cy n.toNatClampNeg k.toNatClampNeg (defaultValue ty) n.toNatClampNeg j hj
    rw [hF, hTh, hz] at this
    exact this
  have hout : Jvm.Free.Multi.outerC cA n.toNatClampNeg H.size n.toNatClampNeg = vp_cell cA (n.toNatClampNeg, .inr (.inr (.inr (.inr (fun i => if i < n.toNatClampNeg then some (H.size + 1 + i) else none))))) := by
    rw [vp_cell_q]
    exact vr_outer cA n.toNatClampNeg H.size n.toNatClampNeg
  rw [hout] at f2
  have hlt : ∀ a, a ∈ L → a < H.size := fun a ha => by
    obtain ⟨k9, hk9⟩ := va_pl_get (X := X) (f := f) ha
    exact (hP k9 _ hk9).lt
  have hnl : ∀ i : Nat, i < n.toNatClampNeg → H.size + 1 + i ∉ L := fun i _ h => by
    have := hlt _ h
    omega
  have hnm : ∀ a, a ∈ (List.range n.toNatClampNeg).map (fun i => H.size + 1 + i) → a ∉ L := fun a ha h => by
    obtain ⟨i, -, rfl⟩ := List.mem_map.mp ha
    have := hlt _ h
    omega
  have hP0 : va_P D cl (X ++ va_pl L f) F.heap := hP.kept (fun k9 x hx => hold x.1 ((hP k9 x hx).lt))
  have hP1 : va_P D cl ((X ++ va_pl L f) ++ [(H.size, .inl (cA, n.toNatClampNeg, .inr (.inr (.inr (.inr (fun i => if i < n.toNatClampNeg then some (H.size + 1 + i) else none))))))]) F.heap := hP0.app (fun k9 x hx => by
    have h0 : k9 < 1 := (List.getElem?_eq_some_iff.mp hx).1
    rw [show k9 = 0 by omega] at hx
    cases hx
    exact f2)
  have hP2 : va_P D cl (((X ++ va_pl L f) ++ [(H.size, .inl (cA, n.toNatClampNeg, .inr (.inr (.inr (.inr (fun i => if i < n.toNatClampNeg then some (H.size + 1 + i) else none))))))]) ++ ((List.range n.toNatClampNeg).map (fun i => H.size + 1 + i)).map (fun a => (a, .inl (cy, z)))) F.heap := hP1.app (fun k9 x hx => by
    obtain ⟨a, ha, rfl⟩ := List.mem_map.mp (List.mem_of_getElem? hx)
    obtain ⟨i, hi, rfl⟩ := List.mem_map.mp ha
    exact hrow i (List.mem_range.mp hi))
  have hD2 : va_D A (((X ++ va_pl L f) ++ [(H.size, .inl (cA, n.toNatClampNeg, .inr (.inr (.inr (.inr (fun i => if i < n.toNatClampNeg then some (H.size + 1 + i) else none))))))]) ++ ((List.range n.toNatClampNeg).map (fun i => H.size + 1 + i)).map (fun a => (a, .inl (cy, z)))) := by
    have hD1 := hD.push (e := .inl (cA, n.toNatClampNeg, .inr (.inr (.inr (.inr (fun i => if i < n.toNatClampNeg then some (H.size + 1 + i) else none)))))) hP rfl (hA _ hS.1)
    generalize hW1 : (X ++ va_pl L f) ++ [(H.size, .inl (cA, n.toNatClampNeg, .inr (.inr (.inr (.inr (fun i => if i < n.toNatClampNeg then some (H.size + 1 + i) else none))))))] = W1 at hD1 hP1 ⊢
    have hle : ∀ (k9 : Nat) (x : Nat × va_E), W1[k9]? = some x → x.1 ≤ H.size := fun k9 x hx => by
      rw [← hW1] at hx
      by_cases hl : k9 < (X ++ va_pl L f).length
      · rw [List.getElem?_append_left hl] at hx
        exact Nat.le_of_lt ((hP k9 x hx).lt)
      · rw [List.getElem?_append_right (by omega)] at hx
        have h0 : k9 - (X ++ va_pl L f).length < 1 := (List.getElem?_eq_some_iff.mp hx).1
        rw [show k9 - (X ++ va_pl L f).length = 0 by omega] at hx
        cases hx
        exact Nat.le_refl _
    have hr : ∀ (k9 : Nat) (x : Nat × va_E), (((List.range n.toNatClampNeg).map (fun i => H.size + 1 + i)).map (fun a => ((a, .inl (cy, z)) : Nat × va_E)))[k9]? = some x → x.1 = H.size + 1 + k9 := fun k9 x hx => by
      rw [List.getElem?_map, List.getElem?_map] at hx
      by_cases h9 : k9 < n.toNatClampNeg
      · rw [List.getElem?_range h9] at hx
        cases hx
        rfl
      · have hn0 : (List.range n.toNatClampNeg)[k9]? = none := List.getElem?_eq_none (by rw [List.length_range]; omega)
        rw [hn0] at hx
        cases hx
    refine ⟨fun i j x y hi hj hxy => ?_, fun k9 x hx => ?_⟩
    · by_cases h1 : i < W1.length <;> by_cases h2 : j < W1.length
      · rw [List.getElem?_append_left h1] at hi
        rw [List.getElem?_append_left h2] at hj
        exact hD1.1 i j x y hi hj hxy
      · rw [List.getElem?_append_left h1] at hi
        rw [List.getElem?_append_right (by omega)] at hj
        have := hle _ _ hi
        have := hr _ _ hj
        omega
      · rw [List.getElem?_append_right (by omega)] at hi
        rw [List.getElem?_append_left h2] at hj
        have := hle _ _ hj
        have := hr _ _ hi
        omega
      · rw [List.getElem?_append_right (by omega)] at hi hj
        have := hr _ _ hi
        have := hr _ _ hj
        omega
    · by_cases h1 : k9 < W1.length
      · rw [List.getElem?_append_left h1] at hx
        exact hD1.2 k9 x hx
      · rw [List.getElem?_append_right (by omega)] at hx
        have := hr _ _ hx
        exact hA _ (by have := hS.1; omega)
  have hAr : ArrOfT s cA (.array ty) := fun N9 z9 => by
    obtain ⟨-, k9, hk9, cm9, hkk9⟩ := (hO 0 0 0).1
    exact ⟨(fun q hq => by cases hq), k9, hk9, cm9, hkk9⟩
  have hK2 : va_K D cl (tys ++ [(cA, .array ty)]) s := ⟨hK.1, fun k9 x hx => by
    by_cases hl : k9 < tys.length
    · rw [List.getElem?_append_left hl] at hx
      exact hK.2 k9 x hx
    · rw [List.getElem?_append_right (by omega)] at hx
      have h0 : k9 - tys.length < 1 := (List.getElem?_eq_some_iff.mp hx).1
      rw [show k9 - tys.length = 0 by omega] at hx
      cases hx
      exact ⟨hAr, fA⟩⟩
  obtain ⟨t, a1, b1⟩ := kk H.size (fun i => H.size + 1 + i) cA F.heap (fun i j _ _ h => by have h9 : H.size + 1 + i = H.size + 1 + j := h; omega) hnl hK2 (by rw [← vr_rows hnm]; exact vr_lay hP2) (by rw [← vr_rows hnm]; exact vr_layD hD2) ⟨by rw [f1]; have := hS.1; omega, fun x h1 h2 => (hold x (Nat.lt_of_lt_of_le h1 hS.1)).trans (hS.2.1 x h1 h2), hS.2.2⟩ F rfl X'
  refine ⟨t, step t ?_, b1⟩
  have e : T.heap.size = H.size := by rw [hT]
  rw [e]
  exact a1
end VGM
/-! ===== new int[n][m], by labels; a private constructor of a nest mate ===== -/
def zm_msh (sh : zm_Sh) (lbl q0 N K : Nat) : zm_Sh := fun x => if x = lbl then some (8, N) else if q0 ≤ x ∧ x < q0 + N then some (1, K) else sh x
def zm_mmi (mi : zm_Mi) (lbl q0 N : Nat) : zm_Mi := fun x => if x = lbl ∨ (q0 ≤ x ∧ x < q0 + N) then (fun _ => 0) else mi x
def zm_mmr (mr : zm_Mr) (lbl q0 N : Nat) : zm_Mr := fun x => if x = lbl then (fun j => if j < N then some (q0 + j) else none) else if q0 ≤ x ∧ x < q0 + N then (fun _ => none) else mr x
def zm_mad (ad : Nat → Nat) (lbl q0 N q : Nat) (r : Nat → Nat) : Nat → Nat := fun x => if x = lbl then q else if q0 ≤ x ∧ x < q0 + N then r (x - q0) else ad x
section ZMM
variable {D : zz_D} {E : zz_E} {ad : Nat → Nat} {sh : zm_Sh} {mi : zm_Mi} {mr : zm_Mr} {lbl q0 N K q x : Nat} {r : Nat → Nat}
theorem zm_mshO (h1 : x ≠ lbl) (h2 : ¬ (q0 ≤ x ∧ x < q0 + N)) : zm_msh sh lbl q0 N K x = sh x := by unfold zm_msh; rw [if_neg h1, if_neg h2]
theorem zm_mmiO (h1 : x ≠ lbl) (h2 : ¬ (q0 ≤ x ∧ x < q0 + N)) : zm_mmi mi lbl q0 N x = mi x := by unfold zm_mmi; rw [if_neg (fun h => h.elim h1 h2)]
theorem zm_mmrO (h1 : x ≠ lbl) (h2 : ¬ (q0 ≤ x ∧ x < q0 + N)) : zm_mmr mr lbl q0 N x = mr x := by unfold zm_mmr; rw [if_neg h1, if_neg h2]
theorem zm_madO (h1 : x ≠ lbl) (h2 : ¬ (q0 ≤ x ∧ x < q0 + N)) : zm_mad ad lbl q0 N q r x = ad x := by unfold zm_mad; rw [if_neg h1, if_neg h2]
theorem zm_mshL : zm_msh sh lbl q0 N K lbl = some (8, N) := if_pos rfl
theorem zm_mshI {j : Nat} (hl : lbl < q0) (hj : j < N) : zm_msh sh lbl q0 N K (q0 + j) = some (1, K) := by unfold zm_msh; rw [if_neg (by omega), if_pos ⟨by omega, by omega⟩]
theorem zm_mmrL {j : Nat} (hj : j < N) : zm_mmr mr lbl q0 N lbl j = some (q0 + j) := by unfold zm_mmr; rw [if_pos rfl, if_pos hj]
theorem zm_mna {H1 : Heap} {L : List Nat} (hL : zm_L sh L) (hlq : lbl < q0) (hf : sh lbl = none) (hfq : ∀ j, j < N → sh (q0 + j) = none) {cl8 cl1 : ClassId} (h8 : D.2 8 = cl8) (h1 : D.2 1 = cl1)
    (hP : va_P D.1 vwCl ((L.map (zm_cell D.2 ad sh mi mr) ++ [(q, .inl (cl8, N, .inr (.inr (.inr (.inr (fun i => if i < N then some (r i) else none))))))]) ++ ((List.range N).map r).map (fun a => (a, .inl (cl1, K, .inl (fun _ => 0))))) H1)
    (hD : va_D (fun q => E.1 ≤ q) ((L.map (zm_cell D.2 ad sh mi mr) ++ [(q, .inl (cl8, N, .inr (.inr (.inr (.inr (fun i => if i < N then some (r i) else none))))))]) ++ ((List.range N).map r).map (fun a => (a, .inl (cl1, K, .inl (fun _ => 0))))))
    (hr : ∀ l k x, mr l k = some x → sh x ≠ none) (h9 : ∀ l, sh l = some (9, 0) → ad l = E.2.1) :
    zm_P D E (zm_mad ad lbl q0 N q r) (zm_msh sh lbl q0 N K) (zm_mmi mi lbl q0 N) (zm_mmr mr lbl q0 N) H1 := by
  have old : ∀ x, sh x ≠ none → x ≠ lbl ∧ ¬ (q0 ≤ x ∧ x < q0 + N) := fun x hx => ⟨fun e => hx (by rw [e]; exact hf), fun h => hx (by have := hfq (x - q0) (by omega); rw [show q0 + (x - q0) = x by omega] at this; exact this)⟩
  have e1 : L.map (zm_cell D.2 ad sh mi mr) = L.map (zm_cell D.2 (zm_mad ad lbl q0 N q r) (zm_msh sh lbl q0 N K) (zm_mmi mi lbl q0 N) (zm_mmr mr lbl q0 N)) := by
    apply List.map_congr_left
    intro x hx
    obtain ⟨o1, o2⟩ := old x ((hL.2 x).mp hx).1
    have hre : ∀ k, (zm_mmr mr lbl q0 N x k).map (zm_mad ad lbl q0 N q r) = (mr x k).map ad := by
      intro k
      rw [zm_mmrO o1 o2]
      cases hk : mr x k with
      | none => rfl
      | some z =>
        obtain ⟨p1, p2⟩ := old z (hr x k z hk)
        show some (zm_mad ad lbl q0 N q r z) = some (ad z)
        rw [zm_madO p1 p2]
    have e3 : zm_fv (zm_mad ad lbl q0 N q r) (zm_mmi mi lbl q0 N) (zm_mmr mr lbl q0 N) ((sh x).getD (0, 0)).2 x = zm_fv ad mi mr ((sh x).getD (0, 0)).2 x := by
      funext k
      unfold zm_fv
      rw [hre k, zm_mmiO o1 o2]
    have e4 : (fun j => (zm_mmr mr lbl q0 N x j).map (zm_mad ad lbl q0 N q r)) = fun j => (mr x j).map ad := funext hre
    simp only [zm_cell, zm_ent, zm_madO o1 o2, zm_mshO (K := K) o1 o2, zm_mmiO o1 o2, e3, e4]
  have e2 : ((q, .inl (cl8, N, .inr (.inr (.inr (.inr (fun i => if i < N then some (r i) else none)))))) : Nat × va_E) = zm_cell D.2 (zm_mad ad lbl q0 N q r) (zm_msh sh lbl q0 N K) (zm_mmi mi lbl q0 N) (zm_mmr mr lbl q0 N) lbl := by
    show _ = (zm_mad ad lbl q0 N q r lbl, zm_ent D.2 _ _ _ lbl ((zm_msh sh lbl q0 N K lbl).getD (0, 0)))
    rw [zm_mshL, show zm_mad ad lbl q0 N q r lbl = q from if_pos rfl]
    show _ = (q, (Sum.inl (D.2 8, N, .inr (.inr (.inr (.inr (fun j => (zm_mmr mr lbl q0 N lbl j).map (zm_mad ad lbl q0 N q r)))))) : va_E))
    rw [h8]
    refine congrArg (fun z => (q, (Sum.inl (cl8, N, .inr (.inr (.inr (.inr z)))) : va_E))) (funext fun j => ?_)
    show _ = ((if lbl = lbl then (fun j => if j < N then some (q0 + j) else none) else _) j : Option Nat).map _
    rw [if_pos rfl]
    by_cases hj : j < N
    · rw [if_pos hj, if_pos hj]
      show some (r j) = some (zm_mad ad lbl q0 N q r (q0 + j))
      unfold zm_mad
      rw [if_neg (by omega), if_pos ⟨by omega, by omega⟩, show q0 + j - q0 = j by omega]
    · rw [if_neg hj, if_neg hj]; rfl
  have e3 : ((List.range N).map r).map (fun a => ((a, .inl (cl1, K, .inl (fun _ => 0))) : Nat × va_E)) = ((List.range N).map (fun j => q0 + j)).map (zm_cell D.2 (zm_mad ad lbl q0 N q r) (zm_msh sh lbl q0 N K) (zm_mmi mi lbl q0 N) (zm_mmr mr lbl q0 N)) := by
    rw [List.map_map, List.map_map]
    apply List.map_congr_left
    intro j hj
    have hj := List.mem_range.mp hj
    show (r j, (Sum.inl (cl1, K, .inl (fun _ => 0)) : va_E)) = (zm_mad ad lbl q0 N q r (q0 + j), zm_ent D.2 _ _ _ (q0 + j) ((zm_msh sh lbl q0 N K (q0 + j)).getD (0, 0)))
    rw [zm_mshI hlq hj]
    show _ = (zm_mad ad lbl q0 N q r (q0 + j), (Sum.inl (D.2 1, K, .inl (zm_mmi mi lbl q0 N (q0 + j))) : va_E))
    rw [h1, show zm_mmi mi lbl q0 N (q0 + j) = fun _ => 0 from if_pos (Or.inr ⟨by omega, by omega⟩), show zm_mad ad lbl q0 N q r (q0 + j) = r j from by unfold zm_mad; rw [if_neg (by omega), if_pos ⟨by omega, by omega⟩, show q0 + j - q0 = j by omega]]
  rw [e1, e2, e3, ← List.map_singleton, ← List.map_append, ← List.map_append] at hP hD
  refine ⟨⟨(L ++ [lbl]) ++ (List.range N).map (fun j => q0 + j), ⟨?_, fun x => ?_⟩, hP, hD⟩, fun l k z hz => ?_, fun x hx => ?_⟩
  · rw [List.nodup_append, List.nodup_append]
    refine ⟨⟨hL.1, by simp, fun x hx y hy => ?_⟩, ?_, fun x hx y hy => ?_⟩
    · rw [List.mem_singleton] at hy
      rintro rfl
      exact (old x ((hL.2 x).mp hx).1).1 hy
    · refine List.pairwise_map.mpr (List.Pairwise.imp (fun {a b} h e => h ?_) List.nodup_range)
      omega
    · obtain ⟨j, hj, rfl⟩ := List.mem_map.mp hy
      have hj := List.mem_range.mp hj
      rintro rfl
      rcases List.mem_append.mp hx with hx | hx
      · exact (old _ ((hL.2 _).mp hx).1).2 ⟨by omega, by omega⟩
      · rw [List.mem_singleton] at hx; omega
  · by_cases hx : x = lbl
    · rw [hx, zm_mshL]
      simp
    · by_cases hi : q0 ≤ x ∧ x < q0 + N
      · have e : x = q0 + (x - q0) := by omega
        have hm : zm_msh sh lbl q0 N K x = some (1, K) := by rw [e]; exact zm_mshI hlq (by omega)
        rw [hm]
        refine ⟨fun _ => ⟨(fun h => by cases h), (fun h => by cases h)⟩, fun _ => List.mem_append_right _ (List.mem_map.mpr ⟨x - q0, List.mem_range.mpr (by omega), e.symm⟩)⟩
      · rw [zm_mshO hx hi]
        refine ⟨fun h => ?_, fun h => List.mem_append_left _ (List.mem_append_left _ ((hL.2 x).mpr h))⟩
        rcases List.mem_append.mp h with h | h
        · rcases List.mem_append.mp h with h | h
          · exact (hL.2 x).mp h
          · exact absurd (List.mem_singleton.mp h) hx
        · obtain ⟨j, hj, rfl⟩ := List.mem_map.mp h
          have hj := List.mem_range.mp hj
          exact absurd ⟨by omega, by omega⟩ hi
  · by_cases hl : l = lbl
    · rw [hl] at hz
      unfold zm_mmr at hz
      rw [if_pos rfl] at hz
      by_cases hk : k < N
      · rw [if_pos hk] at hz
        cases hz
        rw [zm_mshI hlq hk]
        exact fun h => nomatch h
      · rw [if_neg hk] at hz; cases hz
    · by_cases hi : q0 ≤ l ∧ l < q0 + N
      · unfold zm_mmr at hz
        rw [if_neg hl, if_pos hi] at hz; cases hz
      · rw [zm_mmrO hl hi] at hz
        obtain ⟨p1, p2⟩ := old z (hr l k z hz)
        rw [zm_mshO p1 p2]
        exact hr l k z hz
  · by_cases hl : x = lbl
    · rw [hl, zm_mshL] at hx
      cases hx
    · by_cases hi : q0 ≤ x ∧ x < q0 + N
      · have e : x = q0 + (x - q0) := by omega
        rw [e, zm_mshI hlq (by omega)] at hx
        cases hx
      · rw [zm_mshO hl hi] at hx
        rw [zm_madO hl hi]
        exact h9 x hx
end ZMM
section ZMN
variable {Γ : zz_C} {G : zz_G} {Q : State → Prop} {cells slots : Nat} {sh : zm_Sh} {mi : zm_Mi} {mr : zm_Mr} {pc : Nat} {ls : List (Nat × Value)} {st stk : List Value} {own : String} {cc : ByteArray} {d mc ms : Nat}
theorem zz_mna (X : zz_X Γ G own cc d mc ms) (lbl q0 : Nat) {N K : Nat} (hf : sh lbl = none) (hfq : ∀ j, j < N → sh (q0 + j) = none) (hlq : lbl < q0) {idx : Nat} (hlk : Cond.classLink own idx "[[I" ∈ lw_tbl) {i k : Int32} (hi : i = nI N) (hk : k = nI K) (hN : N ≤ 60000) (hK : K ≤ 60000) (h1 : cells + (1 + N) ≤ mc) (h2 : slots + (N + N * K) ≤ ms) (hdg : decode cc pc = .ok (.multianewarray idx 2, 4))
    (kk : zz Γ G Q (cells + 1 + N) (slots + N + N * K) (zm_msh sh lbl q0 N K) (zm_mmi mi lbl q0 N) (zm_mmr mr lbl q0 N) (pc + 4) ls (.ref lbl :: st)) : zz Γ G Q cells slots sh mi mr pc ls (.int k :: .int i :: st) := by
  intro ad H locs la h
  subst hi; subst hk
  obtain ⟨⟨L, hL, hP, hD⟩, hr, h9⟩ := id h.1
  have K9 := X.2.2.2.2.2.2.1
  have hR := X.2.2.2.2.2.2.2
  have hst2 : zm_oks sh st := zm_ot (zm_ot h.oks)
  have e1 := (K9.1.2 _ _ (zk_tys_at (cA := G.1.2) 1 (by decide) (by decide))).2
  have e8 := (K9.1.2 _ _ (zk_tys_at (cA := G.1.2) 8 (by decide) (by decide))).2
  refine va_mna (D := G.1.1) (cl := vwCl) (tys := zk_tys G.1.2) (X := L.map (zm_cell G.1.2 ad sh mi mr)) (L := []) (f := fun _ => .inl (0, 0, .inl (fun _ => 0))) (ty := .int) (cy := G.1.2 1) (z := (K, .inl (fun _ => 0))) (N' := N) (K' := K) X.1 X.2.1 X.2.2.2.1 ?_ K9.2.2.2.2.2.2.2.2.1 (zk_w K9 zw_arr_int rfl) e1 K9.1 ?_ ?_ h.2.1 (fun q hq => Nat.le_trans K9.2.2.2.2.2.2.2.2.2.2 hq) (nI_pos (by omega)) (nI_pos (by omega)) (nI_clamp (by omega)) (nI_clamp (by omega)) (by omega) ?_ (by omega) rfl rfl (by rw [hR]; exact h1) (by rw [hR]; exact h2) (fun c => ?_) hdg (fun q r cA H1 hinj hnot hK1 hP1 hD1 hS1 => ?_)
  · rw [show ("[" ++ (FieldType.array .int).toString) = "[[I" by decide +kernel]
    exact zk_w K9 hlk rfl
  · show va_P _ _ (_ ++ []) H
    rw [List.append_nil]
    exact hP
  · show va_D _ (_ ++ [])
    rw [List.append_nil]
    exact hD
  · exact Nat.le_trans (Nat.mul_le_mul hK (show componentBytes .int ≤ 8 by decide)) (by decide)
  · show ({ cls := c, slots := Array.replicate K (defaultValue .int), vm := .none } : Cell) = arrV c K (fun _ => .int 0)
    rw [← arrV_new]
    rfl
  · have f1 := (hK1.2 (zk_tys G.1.2).length (cA, .array .int) (by rw [List.getElem?_append_right (Nat.le_refl _), Nat.sub_self]; rfl)).2
    have hcA : cA = G.1.2 8 := Option.some.inj (f1.symm.trans e8)
    subst hcA
    have hz : ∀ f : Nat → va_E, va_pl ([] ++ (List.range N).map r) (vr_up f ((List.range N).map r) (.inl (G.1.2 1, K, .inl (fun _ => 0)))) = ((List.range N).map r).map (fun a => (a, .inl (G.1.2 1, K, .inl (fun _ => 0)))) := fun f => by
      rw [List.nil_append]
      unfold va_pl
      apply List.map_congr_left
      intro a ha
      rw [vr_up_in ha]
    rw [hz] at hP1 hD1
    have hnew := zm_mna (lbl := lbl) (q0 := q0) hL hlq hf hfq rfl rfl hP1 hD1 hr h9
    have old : ∀ x, sh x ≠ none → x ≠ lbl ∧ ¬ (q0 ≤ x ∧ x < q0 + N) := fun x hx => ⟨fun e => hx (by rw [e]; exact hf), fun h => hx (by have := hfq (x - q0) (by omega); rw [show q0 + (x - q0) = x by omega] at this; exact this)⟩
    have hcv : ∀ v, zm_ok sh v → zm_cv (zm_mad ad lbl q0 N q r) v = zm_cv ad v ∧ zm_ok (zm_msh sh lbl q0 N K) v := fun v hv => by
      cases v with
      | ref x =>
        obtain ⟨o1, o2⟩ := old x hv
        refine ⟨?_, ?_⟩
        · show Value.ref (zm_mad ad lbl q0 N q r x) = .ref (ad x)
          rw [zm_madO o1 o2]
        · show zm_msh sh lbl q0 N K x ≠ none
          rw [zm_mshO o1 o2]; exact hv
      | _ => exact ⟨rfl, trivial⟩
    have k2 := kk (zm_mad ad lbl q0 N q r) H1 locs la ⟨hnew, hS1, fun x hx => ?_, fun p hp => ⟨(hcv _ (h.2.2.2.1 p hp).1).2, (h.2.2.2.1 p hp).2⟩, zm_oc ?_ (fun v hv => (hcv v (hst2 v hv)).2), ?_⟩
    · rw [List.map_cons, List.map_congr_left (fun v hv => (hcv v (hst2 v hv)).1)] at k2
      have e : zm_cv (zm_mad ad lbl q0 N q r) (.ref lbl) = .ref q := by
        show Value.ref (zm_mad ad lbl q0 N q r lbl) = _
        rw [show zm_mad ad lbl q0 N q r lbl = q from if_pos rfl]
      rw [e] at k2
      exact k2
    · obtain ⟨g1, g2⟩ := h.2.2.1 x hx
      obtain ⟨o1, o2⟩ := old x (by rw [g2]; exact hx)
      rw [zm_madO o1 o2, zm_mshO o1 o2]
      exact ⟨g1, g2⟩
    · show zm_msh sh lbl q0 N K lbl ≠ none
      rw [zm_mshL]
      exact fun h => nomatch h
    · have e : zz_ls (zm_mad ad lbl q0 N q r) ls = zz_ls ad ls := List.map_congr_left fun p hp => by rw [(hcv _ (h.2.2.2.1 p hp).1).1]
      rw [e]
      exact h.2.2.2.2.2
theorem zz_callIN {host : String} {y : MethodName} {bytes : ByteArray} {maxL d1 mc1 ms1 n idx : Nat} {As : List Value} {Qr : Option Value → zm_Sh → zm_Mi → zm_Mr → Prop} {Qx : String → zm_Sh → zm_Mi → zm_Mr → Prop} (X : zz_X Γ G own cc d mc ms) (V : zz_IN own host idx y bytes maxL n) {b : Nat} (hM : zz_Con y (.code y bytes maxL none) d1 mc1 ms1 (.ref b :: As) sh mi mr Qr Qx) (hst : stk = As.reverse ++ .ref b :: st) (hn : As.length = n) (hd : d1 + 1 ≤ d) (hr : (st.map fun v => v.category).sum ≤ 8) (h1 : cells + mc1 ≤ mc) (h2 : slots + ms1 ≤ ms) (hdg : decode cc pc = .ok (.invokespecial idx, 3))
    (kk : ∀ v sh' mi' mr', Qr v sh' mi' mr' → (∀ x, sh x ≠ none → sh' x = sh x) → zz Γ G Q (cells + mc1) (slots + ms1) sh' mi' mr' (pc + 3) ls (v.toList ++ st)) (kx : ∀ En sh' mi' mr', Qx En sh' mi' mr' → (∀ x, sh x ≠ none → sh' x = sh x) → zzx Γ G Q (cells + mc1) (slots + ms1) sh' mi' mr' pc ls st En) : zz Γ G Q cells slots sh mi mr pc ls stk := by
  intro ad H locs la h
  obtain ⟨v1, v2, v3, v4, v5, v6, v7, v8⟩ := V
  have K := X.2.2.2.2.2.2.1
  have hR := X.2.2.2.2.2.2.2
  subst hst
  have hoks := h.oks
  refine zz_behind (a9 := (Value.ref (ad b) :: As.map (zm_cv ad)).toArray) kk kx h (zm_ot (zz_oks_app hoks)) ?_
  rw [zm_rev]
  exact vx_runIN (As := As.map (zm_cv ad)) (b := ad b) (zz_fix X) (hM _ G.1 G.2.1 ad X.2.2.2.2.2.1 (zz_oks_rev hoks)) (index := idx) (n := n) (bytes := bytes) (maxL := maxL) (host := host)
    ⟨⟨⟨rfl, rfl, by rw [hR]; exact hd, by rw [hR]; exact zz_locals hd v8, zz_words K v4 rfl, List.mem_singleton.mpr rfl⟩, zk_w K v4 rfl, zk_w K v5 rfl, v6, zz_np v7, va_Nw.use rfl (K.2.2.2.2.1 _ v1)⟩, v3, zk_w K v2 rfl⟩
    ⟨zz_blind, zz_pre (args := .ref b :: As) X h⟩ rfl (by rw [List.length_map]; exact hn) ((zz_sz X h).trans X.2.2.1) rfl (zz_room hr) hdg ⟨by rw [hR]; exact h1, by rw [hR]; exact h2⟩
end ZMN
