/-! ===== the memory: the cells made since the law's start, by labels of our own ===== -/
abbrev zm_Sh : Type := Nat → Option (Nat × Nat)
abbrev zm_Mi : Type := Nat → Nat → Int32
abbrev zm_Mr : Type := Nat → Nat → Option Nat
abbrev zz_D : Type := va_G × (Nat → ClassId)
/-- the first new address, the script's address, its length, what it holds -/
abbrev zz_E : Type := Nat × Nat × Nat × (Nat → Int32)
def zm_rkl : List (List Bool) := [[false, true, true, true], [true, true, true, true, true, true, false], [true, false, false, false, false, false, true, true, true], [false, true, true], [true, true, false], [true, false, true, false, true, true, false, true, true, false, false, false], [false, true, true, true, true, false, true, true, true, false, true, true, true, true, true, true, true, true, true, true, false, false, true, true, true, true, true, true, false, true, false]]
def zm_rk (ci k : Nat) : Bool := (zm_rkl.getD ci []).getD k false
def zm_nf (ci : Nat) : Nat := (zm_rkl.getD ci []).length
def zm_u2 {α : Type} (f : Nat → Nat → α) (l k : Nat) (v : α) : Nat → Nat → α := fun a b => if a = l ∧ b = k then v else f a b
def zm_u1 {α : Type} (f : Nat → α) (l : Nat) (v : α) : Nat → α := fun a => if a = l then v else f a
theorem zm_u1s {α : Type} {f : Nat → α} {l : Nat} {v : α} : zm_u1 f l v l = v := if_pos rfl
theorem zm_u1n {α : Type} {f : Nat → α} {l x : Nat} {v : α} (h : x ≠ l) : zm_u1 f l v x = f x := if_neg h
theorem zm_u2s {α : Type} {f : Nat → Nat → α} {l k : Nat} {v : α} : zm_u2 f l k v l k = v := if_pos ⟨rfl, rfl⟩
theorem zm_u2l {α : Type} {f : Nat → Nat → α} {l k x y : Nat} {v : α} (h : x ≠ l) : zm_u2 f l k v x y = f x y := if_neg (fun q => h q.1)
theorem zm_u2k {α : Type} {f : Nat → Nat → α} {l k x y : Nat} {v : α} (h : y ≠ k) : zm_u2 f l k v x y = f x y := if_neg (fun q => h q.2)
theorem zm_u2r {α : Type} {f : Nat → Nat → α} {l k x : Nat} {v : α} (h : x ≠ l) : zm_u2 f l k v x = f x := funext fun _ => zm_u2l h
def zm_fv (ad : Nat → Nat) (mi : zm_Mi) (mr : zm_Mr) (ci l k : Nat) : Value := if zm_rk ci k = true then va_rf ((mr l k).map ad) else .int (mi l k)
def zm_ent (cA : Nat → ClassId) (ad : Nat → Nat) (mi : zm_Mi) (mr : zm_Mr) (l : Nat) (s : Nat × Nat) : va_E :=
  if s.1 = 0 then .inr (s.2, (List.range (zm_nf s.2)).map (zm_fv ad mi mr s.2 l))
  else if s.1 ≤ 2 then .inl (cA s.1, s.2, .inl (mi l))
  else if s.1 = 3 then .inl (cA s.1, s.2, .inr (.inl (fun j => (mi l j).toInt64)))
  else .inl (cA s.1, s.2, .inr (.inr (.inr (.inr (fun j => (mr l j).map ad)))))
def zm_cell (cA : Nat → ClassId) (ad : Nat → Nat) (sh : zm_Sh) (mi : zm_Mi) (mr : zm_Mr) (l : Nat) : Nat × va_E := (ad l, zm_ent cA ad mi mr l ((sh l).getD (0, 0)))
def zm_L (sh : zm_Sh) (L : List Nat) : Prop := L.Nodup ∧ ∀ l, l ∈ L ↔ (sh l ≠ none ∧ sh l ≠ some (9, 0))
def zm_P (D : zz_D) (E : zz_E) (ad : Nat → Nat) (sh : zm_Sh) (mi : zm_Mi) (mr : zm_Mr) (H : Heap) : Prop :=
  (∃ L : List Nat, zm_L sh L ∧ va_P D.1 vwCl (L.map (zm_cell D.2 ad sh mi mr)) H ∧ va_D (fun q => E.1 ≤ q) (L.map (zm_cell D.2 ad sh mi mr))) ∧
  (∀ l k x, mr l k = some x → sh x ≠ none) ∧ ∀ l, sh l = some (9, 0) → ad l = E.2.1
def zm_cv (ad : Nat → Nat) (v : Value) : Value := match v with
  | .ref l => .ref (ad l)
  | v => v
def zm_ok (sh : zm_Sh) (v : Value) : Prop := match v with
  | .ref l => sh l ≠ none
  | _ => True
def zm_okl (sh : zm_Sh) (v : Value) : Prop := zm_ok sh v ∧ v.category = 1
theorem zm_cv_cat (ad : Nat → Nat) (v : Value) : (zm_cv ad v).category = v.category := by cases v <;> rfl
theorem zm_cv_cats (ad : Nat → Nat) (st : List Value) : ((st.map (zm_cv ad)).map fun v => v.category) = st.map fun v => v.category := by
  rw [List.map_map]
  exact List.map_congr_left fun v _ => zm_cv_cat ad v
def zm_oks (sh : zm_Sh) (st : List Value) : Prop := ∀ v ∈ st, zm_ok sh v
theorem zm_oc {sh : zm_Sh} {v : Value} {st : List Value} (h : zm_ok sh v) (h2 : zm_oks sh st) : zm_oks sh (v :: st) := List.forall_mem_cons.mpr ⟨h, h2⟩
theorem zm_oh {sh : zm_Sh} {v : Value} {st : List Value} (h : zm_oks sh (v :: st)) : zm_ok sh v := (List.forall_mem_cons.mp h).1
theorem zm_ot {sh : zm_Sh} {v : Value} {st : List Value} (h : zm_oks sh (v :: st)) : zm_oks sh st := (List.forall_mem_cons.mp h).2
theorem zm_on {sh : zm_Sh} : zm_oks sh [] := fun _ h => nomatch h
theorem zm_nodup_pos {L : List Nat} (h : L.Nodup) {i j : Nat} {x : Nat} (hi : L[i]? = some x) (hj : L[j]? = some x) : i = j := by
  obtain ⟨h1, e1⟩ := List.getElem?_eq_some_iff.mp hi
  obtain ⟨h2, e2⟩ := List.getElem?_eq_some_iff.mp hj
  exact (List.getElem_inj h).mp (e1.trans e2.symm)
theorem zm_map_set {α : Type} {L : List Nat} {f g : Nat → α} {q l : Nat} {y : α} (hn : L.Nodup) (hq : L[q]? = some l) (hy : g l = y) (ho : ∀ x, x ≠ l → g x = f x) : (L.map f).set q y = L.map g := by
  apply List.ext_getElem?
  intro i
  rw [List.getElem?_set, List.getElem?_map]
  by_cases hi : q = i
  · subst hi
    have hl : q < (L.map f).length := by rw [List.length_map]; exact (List.getElem?_eq_some_iff.mp hq).1
    rw [if_pos rfl, if_pos hl, List.getElem?_map, hq, Option.map_some, hy]
  · rw [if_neg hi, List.getElem?_map]
    cases hx : L[i]? with
    | none => rfl
    | some x =>
      have hne : x ≠ l := fun e => hi (zm_nodup_pos hn hq (e ▸ hx))
      rw [Option.map_some, Option.map_some, ho x hne]
theorem zm_at {D : zz_D} {ad : Nat → Nat} {sh : zm_Sh} {mi : zm_Mi} {mr : zm_Mr} {L : List Nat} (hL : zm_L sh L) {l : Nat} {s : Nat × Nat} (hs : sh l = some s) (h9 : s.1 ≠ 9) :
    ∃ q : Nat, L[q]? = some l ∧ (L.map (zm_cell D.2 ad sh mi mr))[q]? = some (ad l, zm_ent D.2 ad mi mr l s) := by
  have hm : l ∈ L := (hL.2 l).mpr ⟨(fun h => by rw [hs] at h; cases h), (fun h => by rw [hs] at h; cases h; exact h9 rfl)⟩
  obtain ⟨q, hq⟩ := List.getElem?_of_mem hm
  refine ⟨q, hq, ?_⟩
  rw [List.getElem?_map, hq, Option.map_some]
  show some (ad l, zm_ent D.2 ad mi mr l ((sh l).getD (0, 0))) = _
  rw [hs]
  rfl
/-- a row of a field or a place anew -/
theorem zm_set {D : zz_D} {E : zz_E} {ad : Nat → Nat} {sh : zm_Sh} {mi mi' : zm_Mi} {mr mr' : zm_Mr} {H1 : Heap} {L : List Nat} (hL : zm_L sh L) {l q : Nat} {s : Nat × Nat} (hs : sh l = some s) (hq : L[q]? = some l) (ho : ∀ x, x ≠ l → mi' x = mi x ∧ mr' x = mr x) {y : Nat × va_E} (hy : (ad l, zm_ent D.2 ad mi' mr' l s) = y)
    (hP : va_P D.1 vwCl ((L.map (zm_cell D.2 ad sh mi mr)).set q y) H1) (hD : va_D (fun q => E.1 ≤ q) ((L.map (zm_cell D.2 ad sh mi mr)).set q y)) (hr : ∀ l k x, mr' l k = some x → sh x ≠ none) (h9 : ∀ l, sh l = some (9, 0) → ad l = E.2.1) : zm_P D E ad sh mi' mr' H1 := by
  have e : (L.map (zm_cell D.2 ad sh mi mr)).set q y = L.map (zm_cell D.2 ad sh mi' mr') := by
    refine zm_map_set hL.1 hq ?_ fun x hx => ?_
    · rw [← hy]
      show (ad l, zm_ent D.2 ad mi' mr' l ((sh l).getD (0, 0))) = _
      rw [hs]
      rfl
    · obtain ⟨e1, e2⟩ := ho x hx
      have e3 : zm_fv ad mi' mr' ((sh x).getD (0, 0)).2 x = zm_fv ad mi mr ((sh x).getD (0, 0)).2 x := by
        funext k
        simp only [zm_fv, e1, e2]
      simp only [zm_cell, zm_ent, e1, e2, e3]
  rw [e] at hP hD
  exact ⟨⟨L, hL, hP, hD⟩, hr, h9⟩
/-- a new cell under a free label -/
theorem zm_new {D : zz_D} {E : zz_E} {ad : Nat → Nat} {sh : zm_Sh} {mi : zm_Mi} {mr : zm_Mr} {H1 : Heap} {L : List Nat} (hL : zm_L sh L) {l a : Nat} {s : Nat × Nat} (hf : sh l = none) (hs : s.1 ≠ 9) {e : va_E} (he : zm_ent D.2 (zm_u1 ad l a) (zm_u1 mi l (fun _ => 0)) (zm_u1 mr l (fun _ => none)) l s = e)
    (hP : va_P D.1 vwCl (L.map (zm_cell D.2 ad sh mi mr) ++ [(a, e)]) H1) (hD : va_D (fun q => E.1 ≤ q) (L.map (zm_cell D.2 ad sh mi mr) ++ [(a, e)])) (hr : ∀ l k x, mr l k = some x → sh x ≠ none) (h9 : ∀ l, sh l = some (9, 0) → ad l = E.2.1) :
    zm_P D E (zm_u1 ad l a) (zm_u1 sh l (some s)) (zm_u1 mi l (fun _ => 0)) (zm_u1 mr l (fun _ => none)) H1 := by
  have hnl : l ∉ L := fun h => ((hL.2 l).mp h).1 hf
  have hre : ∀ x k, x ≠ l → ((zm_u1 mr l (fun _ => none)) x k).map (zm_u1 ad l a) = (mr x k).map ad := by
    intro x k hx
    rw [zm_u1n hx]
    cases hk : mr x k with
    | none => rfl
    | some z =>
      have hz : z ≠ l := fun e => hr x k z hk (by rw [e]; exact hf)
      show some (zm_u1 ad l a z) = some (ad z)
      rw [zm_u1n hz]
  have e2 : L.map (zm_cell D.2 ad sh mi mr) ++ [(a, e)] = (L ++ [l]).map (zm_cell D.2 (zm_u1 ad l a) (zm_u1 sh l (some s)) (zm_u1 mi l (fun _ => 0)) (zm_u1 mr l (fun _ => none))) := by
    rw [List.map_append]
    congr 1
    · apply List.map_congr_left
      intro x hx
      have hxl : x ≠ l := fun q => hnl (q ▸ hx)
      have e3 : zm_fv (zm_u1 ad l a) (zm_u1 mi l (fun _ => 0)) (zm_u1 mr l (fun _ => none)) ((sh x).getD (0, 0)).2 x = zm_fv ad mi mr ((sh x).getD (0, 0)).2 x := by
        funext k
        unfold zm_fv
        rw [hre x k hxl, zm_u1n hxl]
      have e4 : (fun j => ((zm_u1 mr l (fun _ => none)) x j).map (zm_u1 ad l a)) = fun j => (mr x j).map ad := funext fun j => hre x j hxl
      simp only [zm_cell, zm_ent, e3, zm_u1n hxl]
      rw [← e4, zm_u1n hxl]
    · show [(a, e)] = [zm_cell _ _ _ _ _ l]
      rw [← he]
      simp only [zm_cell, zm_u1s, Option.getD_some]
  refine ⟨⟨L ++ [l], ⟨?_, fun x => ?_⟩, by rw [← e2]; exact hP, by rw [← e2]; exact hD⟩, fun x k z hz => ?_, fun x hx => ?_⟩
  · rw [List.nodup_append]
    refine ⟨hL.1, by simp, fun x hx y hy => ?_⟩
    rw [List.mem_singleton] at hy
    rintro rfl
    exact hnl (hy ▸ hx)
  · by_cases hx : x = l
    · subst hx
      simp only [zm_u1s, List.mem_append, List.mem_singleton, or_true, true_iff]
      exact ⟨(fun h => nomatch h), (fun h => hs (by cases h; rfl))⟩
    · rw [zm_u1n hx, List.mem_append, List.mem_singleton]
      exact ⟨fun h => h.elim (hL.2 x).mp (fun e => absurd e hx), fun h => Or.inl ((hL.2 x).mpr h)⟩
  · by_cases hx : x = l
    · subst hx
      rw [zm_u1s] at hz
      cases hz
    · rw [zm_u1n hx] at hz
      by_cases hzl : z = l
      · subst hzl
        rw [zm_u1s]
        exact fun h => nomatch h
      · rw [zm_u1n hzl]
        exact hr x k z hz
  · by_cases hxl : x = l
    · subst hxl
      rw [zm_u1s] at hx
      exact absurd (by cases hx; rfl) hs
    · rw [zm_u1n hxl] at hx
      rw [zm_u1n hxl]
      exact h9 x hx
/-- other numbers for labels that nothing bears -/
theorem zm_P.ad {D : zz_D} {E : zz_E} {ad ad' : Nat → Nat} {sh : zm_Sh} {mi : zm_Mi} {mr : zm_Mr} {H : Heap} (h : zm_P D E ad sh mi mr H) (hk : ∀ x, sh x ≠ none → ad' x = ad x) : zm_P D E ad' sh mi mr H := by
  obtain ⟨⟨L, hL, hP, hD⟩, hr, h9⟩ := h
  have e : L.map (zm_cell D.2 ad sh mi mr) = L.map (zm_cell D.2 ad' sh mi mr) := by
    apply List.map_congr_left
    intro x hx
    have hx0 := ((hL.2 x).mp hx).1
    have hre : ∀ k, (mr x k).map ad' = (mr x k).map ad := by
      intro k
      cases hz : mr x k with
      | none => rfl
      | some z => exact congrArg some (hk z (hr x k z hz))
    have e3 : zm_fv ad' mi mr ((sh x).getD (0, 0)).2 x = zm_fv ad mi mr ((sh x).getD (0, 0)).2 x := by
      funext k
      simp only [zm_fv, hre]
    simp only [zm_cell, zm_ent, e3, hre, hk x hx0]
  exact ⟨⟨L, hL, e ▸ hP, e ▸ hD⟩, hr, fun l hl => by rw [hk l (by rw [hl]; exact fun h => nomatch h)]; exact h9 l hl⟩
/-- two labels of one cell are one -/
theorem zm_inj {D : zz_D} {E : zz_E} {ad : Nat → Nat} {sh : zm_Sh} {mi : zm_Mi} {mr : zm_Mr} {H : Heap} (h : zm_P D E ad sh mi mr H) {x y : Nat} (hx : sh x ≠ none) (hx9 : sh x ≠ some (9, 0)) (hy : sh y ≠ none) (hy9 : sh y ≠ some (9, 0)) (e : ad x = ad y) : x = y := by
  obtain ⟨⟨L, hL, hP, hD⟩, -⟩ := h
  obtain ⟨i, hi⟩ := List.getElem?_of_mem ((hL.2 x).mpr ⟨hx, hx9⟩)
  obtain ⟨j, hj⟩ := List.getElem?_of_mem ((hL.2 y).mpr ⟨hy, hy9⟩)
  have hi2 : (L.map (zm_cell D.2 ad sh mi mr))[i]? = some (zm_cell D.2 ad sh mi mr x) := by rw [List.getElem?_map, hi]; rfl
  have hj2 : (L.map (zm_cell D.2 ad sh mi mr))[j]? = some (zm_cell D.2 ad sh mi mr y) := by rw [List.getElem?_map, hj]; rfl
  have hij := hD.1 i j _ _ hi2 hj2 e
  subst hij
  exact Option.some.inj (hi.symm.trans hj)
