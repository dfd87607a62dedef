/-! ===== fields and arrays, by labels ===== -/
def zz_CL (ci : Nat) (C : String) (T : u_T) (N : Nat) (ty : Nat → FieldType) : Prop :=
  vwCl[ci]? = some (C, T, N) ∧ (∀ w ∈ u_ws C T N, w ∈ lw_tbl ∧ zk_ok w = true) ∧ (∀ k, k < N → parseFieldDescriptor (T k).2.2.1 = some (ty k)) ∧ (∀ a, a < N → ∀ b, b < N → a ≠ b → (T a).2.1 ≠ (T b).2.1) ∧ (∀ k, k < N → (T k).1 = C) ∧ zm_nf ci = N ∧ (∀ k, k < N → defaultValue (ty k) = if zm_rk ci k = true then .null else .int 0)
/-- a field of a class of ours by a place in the class file's pool: its number, its type, whether it is final -/
def zz_F (own : String) (idx ci k : Nat) (ty0 : FieldType) (fin : Bool) : Prop :=
  ∃ (C : String) (T : u_T) (N : Nat) (ty : Nat → FieldType), zz_CL ci C T N ty ∧ k < N ∧ Cond.fieldLink own idx C (T k).2.1 (T k).2.2.1 ∈ lw_tbl ∧ ty k = ty0 ∧ (T k).2.2.2 = fin ∧ (fin = true → C = own)
def zz_Fr (own : String) (idx ci k : Nat) : Prop :=
  ∃ (C : String) (T : u_T) (N : Nat) (ty : Nat → FieldType), zz_CL ci C T N ty ∧ k < N ∧ Cond.fieldLink own idx C (T k).2.1 (T k).2.2.1 ∈ lw_tbl
theorem zz_F.r {own : String} {idx ci k : Nat} {ty0 : FieldType} {fin : Bool} (F : zz_F own idx ci k ty0 fin) : zz_Fr own idx ci k := by
  obtain ⟨C, T, N, ty, h1, h2, h3, -⟩ := F
  exact ⟨C, T, N, ty, h1, h2, h3⟩
theorem zm_cv_new {ad : Nat → Nat} {sh : zm_Sh} {lbl a : Nat} (hf : sh lbl = none) {v : Value} (hv : zm_ok sh v) : zm_cv (zm_u1 ad lbl a) v = zm_cv ad v := by
  cases v with
  | ref x =>
    have hx : x ≠ lbl := fun e => hv (by rw [e]; exact hf)
    show Value.ref (zm_u1 ad lbl a x) = .ref (ad x)
    rw [zm_u1n hx]
  | _ => rfl
theorem zm_cvs_new {ad : Nat → Nat} {sh : zm_Sh} {lbl a : Nat} (hf : sh lbl = none) {st : List Value} (h : zm_oks sh st) : st.map (zm_cv (zm_u1 ad lbl a)) = st.map (zm_cv ad) := List.map_congr_left fun v hv => zm_cv_new hf (h v hv)
theorem zm_ok_new {sh : zm_Sh} {lbl : Nat} {s : Nat × Nat} {v : Value} (h : zm_ok sh v) : zm_ok (zm_u1 sh lbl (some s)) v := by
  cases v with
  | ref x =>
    show zm_u1 sh lbl (some s) x ≠ none
    by_cases hx : x = lbl
    · subst hx
      rw [zm_u1s]
      exact fun q => nomatch q
    · rw [zm_u1n hx]
      exact h
  | _ => trivial
section ZF
variable {Γ : zz_C} {G : zz_G} {Q : State → Prop} {cells slots : Nat} {sh : zm_Sh} {mi : zm_Mi} {mr : zm_Mr} {pc : Nat} {ls : List (Nat × Value)} {st : List Value} {own : String} {cc : ByteArray} {d mc ms : Nat}
theorem zz_getI (X : zz_X Γ G own cc d mc ms) {idx ci k : Nat} (F : zz_Fr own idx ci k) {l : Nat} {x : Int32} (hsh : sh l = some (0, ci)) (hrk : zm_rk ci k = false) (hx : mi l k = x) (hdg : decode cc pc = .ok (.getfield idx, 3)) (kk : zz Γ G Q cells slots sh mi mr (pc + 3) ls (.int x :: st)) : zz Γ G Q cells slots sh mi mr pc ls (.ref l :: st) := by
  intro ad H locs la h
  obtain ⟨C, T, N, ty, ⟨hcl, hws, hty, hnm, hC, hnf, -⟩, hk, hlk⟩ := F
  obtain ⟨⟨L, hL, hP, hD⟩, hr, h9⟩ := id h.1
  obtain ⟨q, hq, ha⟩ := zm_at (D := G.1) (ad := ad) (mi := mi) (mr := mr) hL hsh (fun q => nomatch q)
  have K := X.2.2.2.2.2.2.1
  refine va_get (D := G.1.1) (cl := vwCl) (v := .int x) X.1 X.2.1 (fun w hw => zk_w K (hws w hw).1 (hws w hw).2) (fun w hw => hw) X.2.2.2.1 K.1 hP q ha hcl k hk (zk_w K hlk rfl) (fun z hz => by rw [← hC k hk]; exact hz) ?_ hdg (kk ad H locs la (h.ws (zm_oc trivial (zm_ot h.oks))))
  rw [List.getElem?_map, List.getElem?_range (by show k < zm_nf ci; rw [hnf]; exact hk), Option.map_some]
  show some (zm_fv ad mi mr ci l k) = _
  unfold zm_fv
  rw [if_neg (by rw [hrk]; decide), hx]
theorem zz_getR (X : zz_X Γ G own cc d mc ms) {idx ci k : Nat} (F : zz_Fr own idx ci k) {l y : Nat} (hsh : sh l = some (0, ci)) (hrk : zm_rk ci k = true) (hy : mr l k = some y) (hdg : decode cc pc = .ok (.getfield idx, 3)) (kk : zz Γ G Q cells slots sh mi mr (pc + 3) ls (.ref y :: st)) : zz Γ G Q cells slots sh mi mr pc ls (.ref l :: st) := by
  intro ad H locs la h
  obtain ⟨C, T, N, ty, ⟨hcl, hws, hty, hnm, hC, hnf, -⟩, hk, hlk⟩ := F
  obtain ⟨⟨L, hL, hP, hD⟩, hr, h9⟩ := id h.1
  obtain ⟨q, hq, ha⟩ := zm_at (D := G.1) (ad := ad) (mi := mi) (mr := mr) hL hsh (fun q => nomatch q)
  have K := X.2.2.2.2.2.2.1
  refine va_get (D := G.1.1) (cl := vwCl) (v := .ref (ad y)) X.1 X.2.1 (fun w hw => zk_w K (hws w hw).1 (hws w hw).2) (fun w hw => hw) X.2.2.2.1 K.1 hP q ha hcl k hk (zk_w K hlk rfl) (fun z hz => by rw [← hC k hk]; exact hz) ?_ hdg (kk ad H locs la (h.ws (zm_oc (hr l k y hy) (zm_ot h.oks))))
  rw [List.getElem?_map, List.getElem?_range (by show k < zm_nf ci; rw [hnf]; exact hk), Option.map_some]
  show some (zm_fv ad mi mr ci l k) = _
  unfold zm_fv
  rw [if_pos hrk, hy]
  rfl
theorem zm_fs_set {ad : Nat → Nat} {mi mi' : zm_Mi} {mr mr' : zm_Mr} {ci l k : Nat} {v : Value} (hk : k < zm_nf ci) (hv : zm_fv ad mi' mr' ci l k = v) (ho : ∀ j, j ≠ k → zm_fv ad mi' mr' ci l j = zm_fv ad mi mr ci l j) : ((List.range (zm_nf ci)).map (zm_fv ad mi mr ci l)).set k v = (List.range (zm_nf ci)).map (zm_fv ad mi' mr' ci l) :=
  zm_map_set List.nodup_range (List.getElem?_range hk) hv ho
theorem zz_putI (X : zz_X Γ G own cc d mc ms) {idx ci k : Nat} {ty0 : FieldType} (F : zz_F own idx ci k ty0 false) {l : Nat} {x : Int32} (hsh : sh l = some (0, ci)) (hrk : zm_rk ci k = false) (hn : narrow ty0 (.int x) = .int x) (hf : fits ty0 (.int x) = true) (hdg : decode cc pc = .ok (.putfield idx, 3)) (kk : zz Γ G Q cells slots sh (zm_u2 mi l k x) mr (pc + 3) ls st) : zz Γ G Q cells slots sh mi mr pc ls (.int x :: .ref l :: st) := by
  intro ad H locs la h
  obtain ⟨C, T, N, ty, ⟨hcl, hws, hty, hnm, hC, hnf, -⟩, hk, hlk, rfl, hfin, -⟩ := F
  obtain ⟨⟨L, hL, hP, hD⟩, hr, h9⟩ := id h.1
  obtain ⟨q, hq, ha⟩ := zm_at (D := G.1) (ad := ad) (mi := mi) (mr := mr) hL hsh (fun q => nomatch q)
  have K := X.2.2.2.2.2.2.1
  refine va_put (D := G.1.1) (cl := vwCl) (v := .int x) X.1 X.2.1 (fun w hw => zk_w K (hws w hw).1 (hws w hw).2) (fun w hw => hw) ty hty hnm X.2.2.2.1 K.1 hP hD h.2.1 q ha hcl k hk (zk_w K hlk rfl) (fun z hz => by rw [← hC k hk]; exact hz) hfin (hty k hk) hn hf ?_ hdg (fun H1 locs1 hP1 hD1 hS1 => ?_)
  · rw [List.length_map, List.length_range]
    show k < zm_nf ci
    rw [hnf]; exact hk
  · refine kk ad H1 locs1 la ⟨zm_set (mi' := zm_u2 mi l k x) (mr' := mr) hL hsh hq (fun z hz => ⟨zm_u2r hz, rfl⟩) ?_ hP1 hD1 hr h9, hS1, h.2.2.1, h.2.2.2.1, zm_ot (zm_ot h.oks), h.2.2.2.2.2⟩
    refine congrArg (fun z => (ad l, (Sum.inr (ci, z) : va_E))) (Eq.symm ?_)
    refine zm_fs_set (mi' := zm_u2 mi l k x) (mr' := mr) (by rw [hnf]; exact hk) ?_ (fun j hj => ?_)
    · unfold zm_fv
      rw [if_neg (by rw [hrk]; decide), zm_u2s]
    · unfold zm_fv
      rw [zm_u2k hj]
theorem zz_putIF (X : zz_X Γ G own cc d mc ms) (hnm9 : (zz_h Γ).name = "<init>") {idx ci k : Nat} {ty0 : FieldType} (F : zz_F own idx ci k ty0 true) {l : Nat} {x : Int32} (hsh : sh l = some (0, ci)) (hrk : zm_rk ci k = false) (hn : narrow ty0 (.int x) = .int x) (hf : fits ty0 (.int x) = true) (hdg : decode cc pc = .ok (.putfield idx, 3)) (kk : zz Γ G Q cells slots sh (zm_u2 mi l k x) mr (pc + 3) ls st) : zz Γ G Q cells slots sh mi mr pc ls (.int x :: .ref l :: st) := by
  intro ad H locs la h
  obtain ⟨C, T, N, ty, ⟨hcl, hws, hty, hnm, hC, hnf, -⟩, hk, hlk, rfl, hfin, hCo⟩ := F
  obtain ⟨⟨L, hL, hP, hD⟩, hr, h9⟩ := id h.1
  obtain ⟨q, hq, ha⟩ := zm_at (D := G.1) (ad := ad) (mi := mi) (mr := mr) hL hsh (fun q => nomatch q)
  have K := X.2.2.2.2.2.2.1
  refine va_putF (D := G.1.1) (cl := vwCl) (v := .int x) X.1 X.2.1 (fun w hw => zk_w K (hws w hw).1 (hws w hw).2) (fun w hw => hw) ty hty hnm X.2.2.2.1 K.1 hP hD h.2.1 q ha hcl k hk (zk_w K hlk rfl) (fun z hz => by rw [← hC k hk]; exact hz) hfin hnm9 ((hC k hk).trans (hCo rfl)) (hty k hk) hn hf ?_ hdg (fun H1 locs1 hP1 hD1 hS1 => ?_)
  · rw [List.length_map, List.length_range]
    show k < zm_nf ci
    rw [hnf]; exact hk
  · refine kk ad H1 locs1 la ⟨zm_set (mi' := zm_u2 mi l k x) (mr' := mr) hL hsh hq (fun z hz => ⟨zm_u2r hz, rfl⟩) ?_ hP1 hD1 hr h9, hS1, h.2.2.1, h.2.2.2.1, zm_ot (zm_ot h.oks), h.2.2.2.2.2⟩
    refine congrArg (fun z => (ad l, (Sum.inr (ci, z) : va_E))) (Eq.symm ?_)
    refine zm_fs_set (mi' := zm_u2 mi l k x) (mr' := mr) (by rw [hnf]; exact hk) ?_ (fun j hj => ?_)
    · unfold zm_fv
      rw [if_neg (by rw [hrk]; decide), zm_u2s]
    · unfold zm_fv
      rw [zm_u2k hj]
theorem zm_hr_u2 {sh : zm_Sh} {mr : zm_Mr} {l k y : Nat} (hr : ∀ l k x, mr l k = some x → sh x ≠ none) (hy : sh y ≠ none) : ∀ a b x, zm_u2 mr l k (some y) a b = some x → sh x ≠ none := by
  intro a b x hx
  unfold zm_u2 at hx
  split at hx
  · cases hx
    exact hy
  · exact hr a b x hx
theorem zz_putR (X : zz_X Γ G own cc d mc ms) {idx ci k : Nat} {ty0 : FieldType} (F : zz_F own idx ci k ty0 false) {l y : Nat} (hsh : sh l = some (0, ci)) (hrk : zm_rk ci k = true) (hn : ∀ a, narrow ty0 (.ref a) = .ref a) (hf : ∀ a, fits ty0 (.ref a) = true) (hdg : decode cc pc = .ok (.putfield idx, 3)) (kk : zz Γ G Q cells slots sh mi (zm_u2 mr l k (some y)) (pc + 3) ls st) : zz Γ G Q cells slots sh mi mr pc ls (.ref y :: .ref l :: st) := by
  intro ad H locs la h
  obtain ⟨C, T, N, ty, ⟨hcl, hws, hty, hnm, hC, hnf, -⟩, hk, hlk, rfl, hfin, -⟩ := F
  obtain ⟨⟨L, hL, hP, hD⟩, hr, h9⟩ := id h.1
  obtain ⟨q, hq, ha⟩ := zm_at (D := G.1) (ad := ad) (mi := mi) (mr := mr) hL hsh (fun q => nomatch q)
  have K := X.2.2.2.2.2.2.1
  refine va_put (D := G.1.1) (cl := vwCl) (v := .ref (ad y)) X.1 X.2.1 (fun w hw => zk_w K (hws w hw).1 (hws w hw).2) (fun w hw => hw) ty hty hnm X.2.2.2.1 K.1 hP hD h.2.1 q ha hcl k hk (zk_w K hlk rfl) (fun z hz => by rw [← hC k hk]; exact hz) hfin (hty k hk) (hn _) (hf _) ?_ hdg (fun H1 locs1 hP1 hD1 hS1 => ?_)
  · rw [List.length_map, List.length_range]
    show k < zm_nf ci
    rw [hnf]; exact hk
  · refine kk ad H1 locs1 la ⟨zm_set (mi' := mi) (mr' := zm_u2 mr l k (some y)) hL hsh hq (fun z hz => ⟨rfl, zm_u2r hz⟩) ?_ hP1 hD1 (zm_hr_u2 hr (zm_oh h.oks)) h9, hS1, h.2.2.1, h.2.2.2.1, zm_ot (zm_ot h.oks), h.2.2.2.2.2⟩
    refine congrArg (fun z => (ad l, (Sum.inr (ci, z) : va_E))) (Eq.symm ?_)
    refine zm_fs_set (mi' := mi) (mr' := zm_u2 mr l k (some y)) (by rw [hnf]; exact hk) ?_ (fun j hj => ?_)
    · unfold zm_fv
      rw [if_pos hrk, zm_u2s]
      rfl
    · unfold zm_fv
      rw [zm_u2k hj]
theorem zz_putRF (X : zz_X Γ G own cc d mc ms) (hnm9 : (zz_h Γ).name = "<init>") {idx ci k : Nat} {ty0 : FieldType} (F : zz_F own idx ci k ty0 true) {l y : Nat} (hsh : sh l = some (0, ci)) (hrk : zm_rk ci k = true) (hn : ∀ a, narrow ty0 (.ref a) = .ref a) (hf : ∀ a, fits ty0 (.ref a) = true) (hdg : decode cc pc = .ok (.putfield idx, 3)) (kk : zz Γ G Q cells slots sh mi (zm_u2 mr l k (some y)) (pc + 3) ls st) : zz Γ G Q cells slots sh mi mr pc ls (.ref y :: .ref l :: st) := by
  intro ad H locs la h
  obtain ⟨C, T, N, ty, ⟨hcl, hws, hty, hnm, hC, hnf, -⟩, hk, hlk, rfl, hfin, hCo⟩ := F
  obtain ⟨⟨L, hL, hP, hD⟩, hr, h9⟩ := id h.1
  obtain ⟨q, hq, ha⟩ := zm_at (D := G.1) (ad := ad) (mi := mi) (mr := mr) hL hsh (fun q => nomatch q)
  have K := X.2.2.2.2.2.2.1
  refine va_putF (D := G.1.1) (cl := vwCl) (v := .ref (ad y)) X.1 X.2.1 (fun w hw => zk_w K (hws w hw).1 (hws w hw).2) (fun w hw => hw) ty hty hnm X.2.2.2.1 K.1 hP hD h.2.1 q ha hcl k hk (zk_w K hlk rfl) (fun z hz => by rw [← hC k hk]; exact hz) hfin hnm9 ((hC k hk).trans (hCo rfl)) (hty k hk) (hn _) (hf _) ?_ hdg (fun H1 locs1 hP1 hD1 hS1 => ?_)
  · rw [List.length_map, List.length_range]
    show k < zm_nf ci
    rw [hnf]; exact hk
  · refine kk ad H1 locs1 la ⟨zm_set (mi' := mi) (mr' := zm_u2 mr l k (some y)) hL hsh hq (fun z hz => ⟨rfl, zm_u2r hz⟩) ?_ hP1 hD1 (zm_hr_u2 hr (zm_oh h.oks)) h9, hS1, h.2.2.1, h.2.2.2.1, zm_ot (zm_ot h.oks), h.2.2.2.2.2⟩
    refine congrArg (fun z => (ad l, (Sum.inr (ci, z) : va_E))) (Eq.symm ?_)
    refine zm_fs_set (mi' := mi) (mr' := zm_u2 mr l k (some y)) (by rw [hnf]; exact hk) ?_ (fun j hj => ?_)
    · unfold zm_fv
      rw [if_pos hrk, zm_u2s]
      rfl
    · unfold zm_fv
      rw [zm_u2k hj]
-- arrays
theorem zz_iald (X : zz_X Γ G own cc d mc ms) {l n : Nat} (hsh : sh l = some (1, n)) {i x : Int32} (j : Nat) (hi : i = nI j) (hj : j < n) (hn : n < 2 ^ 31) (hx : mi l j = x) (hdg : decode cc pc = .ok (.iaload, 1)) (kk : zz Γ G Q cells slots sh mi mr (pc + 1) ls (.int x :: st)) : zz Γ G Q cells slots sh mi mr pc ls (.int i :: .ref l :: st) := by
  intro ad H locs la h
  subst hi; subst hx
  obtain ⟨⟨L, hL, hP, hD⟩, hr, h9⟩ := id h.1
  obtain ⟨q, hq, ha⟩ := zm_at (D := G.1) (ad := ad) (mi := mi) (mr := mr) hL hsh (fun q => nomatch q)
  have hc : (nI j).toNatClampNeg = j := nI_clamp (by omega)
  have k2 := kk ad H locs la (h.ws (zm_oc trivial (zm_ot (zm_ot h.oks))))
  rw [← hc] at k2
  exact va_iald (D := G.1.1) (cl := vwCl) X.1 X.2.1 X.2.2.2.2.2.2.1.1 hP q 0 ha (zk_tys_at 1 (by decide) (by decide)) (vp_in_nI hj hn) hdg k2
theorem zz_bald (X : zz_X Γ G own cc d mc ms) {l n : Nat} (hsh : sh l = some (2, n)) {i x : Int32} (j : Nat) (hi : i = nI j) (hj : j < n) (hn : n < 2 ^ 31) (hx : mi l j = x) (hdg : decode cc pc = .ok (.baload, 1)) (kk : zz Γ G Q cells slots sh mi mr (pc + 1) ls (.int x :: st)) : zz Γ G Q cells slots sh mi mr pc ls (.int i :: .ref l :: st) := by
  intro ad H locs la h
  subst hi; subst hx
  obtain ⟨⟨L, hL, hP, hD⟩, hr, h9⟩ := id h.1
  obtain ⟨q, hq, ha⟩ := zm_at (D := G.1) (ad := ad) (mi := mi) (mr := mr) hL hsh (fun q => nomatch q)
  have hc : (nI j).toNatClampNeg = j := nI_clamp (by omega)
  have k2 := kk ad H locs la (h.ws (zm_oc trivial (zm_ot (zm_ot h.oks))))
  rw [← hc] at k2
  exact va_zald (D := G.1.1) (cl := vwCl) X.1 X.2.1 X.2.2.2.2.2.2.1.1 hP q 1 ha (zk_tys_at 2 (by decide) (by decide)) (vp_in_nI hj hn) hdg k2
theorem zm_upd {mi : zm_Mi} {l j : Nat} {x : Int32} : zm_u2 mi l j x l = upd (mi l) j x := by
  funext k
  by_cases hk : k = j
  · subst hk
    rw [zm_u2s]
    exact (if_pos rfl).symm
  · rw [zm_u2k hk]
    exact (if_neg hk).symm
theorem zz_iast (X : zz_X Γ G own cc d mc ms) {l n : Nat} (hsh : sh l = some (1, n)) {i x : Int32} (j : Nat) (hi : i = nI j) (hj : j < n) (hn : n < 2 ^ 31) (hdg : decode cc pc = .ok (.iastore, 1)) (kk : zz Γ G Q cells slots sh (zm_u2 mi l j x) mr (pc + 1) ls st) : zz Γ G Q cells slots sh mi mr pc ls (.int x :: .int i :: .ref l :: st) := by
  intro ad H locs la h
  subst hi
  obtain ⟨⟨L, hL, hP, hD⟩, hr, h9⟩ := id h.1
  obtain ⟨q, hq, ha⟩ := zm_at (D := G.1) (ad := ad) (mi := mi) (mr := mr) hL hsh (fun q => nomatch q)
  have hc : (nI j).toNatClampNeg = j := nI_clamp (by omega)
  refine va_iast (D := G.1.1) (cl := vwCl) X.1 X.2.1 X.2.2.2.2.2.2.1.1 hP hD h.2.1 q 0 ha (zk_tys_at 1 (by decide) (by decide)) (vp_in_nI hj hn) hdg (fun H1 locs1 hP1 hD1 hS1 => ?_)
  refine kk ad H1 locs1 la ⟨zm_set (mi' := zm_u2 mi l j x) (mr' := mr) hL hsh hq (fun z hz => ⟨zm_u2r hz, rfl⟩) ?_ hP1 hD1 hr h9, hS1, h.2.2.1, h.2.2.2.1, zm_ot (zm_ot (zm_ot h.oks)), h.2.2.2.2.2⟩
  show (ad l, (Sum.inl (G.1.2 1, n, .inl (zm_u2 mi l j x l)) : va_E)) = _
  rw [zm_upd, hc]
theorem zz_bast (X : zz_X Γ G own cc d mc ms) {l n : Nat} (hsh : sh l = some (2, n)) {i x : Int32} (j : Nat) (hi : i = nI j) (hj : j < n) (hn : n < 2 ^ 31) (hx : vp_nar .boolean x = x) (hdg : decode cc pc = .ok (.bastore, 1)) (kk : zz Γ G Q cells slots sh (zm_u2 mi l j x) mr (pc + 1) ls st) : zz Γ G Q cells slots sh mi mr pc ls (.int x :: .int i :: .ref l :: st) := by
  intro ad H locs la h
  subst hi
  obtain ⟨⟨L, hL, hP, hD⟩, hr, h9⟩ := id h.1
  obtain ⟨q, hq, ha⟩ := zm_at (D := G.1) (ad := ad) (mi := mi) (mr := mr) hL hsh (fun q => nomatch q)
  have hc : (nI j).toNatClampNeg = j := nI_clamp (by omega)
  refine va_zast (D := G.1.1) (cl := vwCl) X.1 X.2.1 X.2.2.2.2.2.2.1.1 hP hD h.2.1 q 1 ha (zk_tys_at 2 (by decide) (by decide)) (vp_in_nI hj hn) hdg (fun H1 locs1 hP1 hD1 hS1 => ?_)
  refine kk ad H1 locs1 la ⟨zm_set (mi' := zm_u2 mi l j x) (mr' := mr) hL hsh hq (fun z hz => ⟨zm_u2r hz, rfl⟩) ?_ hP1 hD1 hr h9, hS1, h.2.2.1, h.2.2.2.1, zm_ot (zm_ot (zm_ot h.oks)), h.2.2.2.2.2⟩
  show (ad l, (Sum.inl (G.1.2 2, n, .inl (zm_u2 mi l j x l)) : va_E)) = _
  rw [zm_upd, hc, hx]
theorem zz_alen (X : zz_X Γ G own cc d mc ms) {l n kd : Nat} (hsh : sh l = some (kd, n)) (h1 : 1 ≤ kd) (h8 : kd ≤ 8) (hdg : decode cc pc = .ok (.arraylength, 1)) (kk : zz Γ G Q cells slots sh mi mr (pc + 1) ls (.int (nI n) :: st)) : zz Γ G Q cells slots sh mi mr pc ls (.ref l :: st) := by
  intro ad H locs la h
  obtain ⟨⟨L, hL, hP, hD⟩, hr, h9⟩ := id h.1
  obtain ⟨q, hq, ha⟩ := zm_at (D := G.1) (ad := ad) (mi := mi) (mr := mr) hL hsh (by show kd ≠ 9; omega)
  have k2 := kk ad H locs la (h.ws (zm_oc trivial (zm_ot h.oks)))
  have ht := zk_tys_at (cA := G.1.2) kd h1 h8
  have hkd : kd ≠ 0 := by omega
  unfold zm_ent at ha
  dsimp only at ha
  rw [if_neg hkd] at ha
  by_cases h2 : kd ≤ 2
  · rw [if_pos h2] at ha
    exact va_alen (D := G.1.1) (cl := vwCl) X.1 X.2.1 X.2.2.2.2.2.2.1.1 hP q _ ha ht rfl hdg k2
  · rw [if_neg h2] at ha
    by_cases h3 : kd = 3
    · rw [if_pos h3] at ha
      exact va_alen (D := G.1.1) (cl := vwCl) X.1 X.2.1 X.2.2.2.2.2.2.1.1 hP q _ ha ht rfl hdg k2
    · rw [if_neg h3] at ha
      exact va_alen (D := G.1.1) (cl := vwCl) X.1 X.2.1 X.2.2.2.2.2.2.1.1 hP q _ ha ht rfl hdg k2
theorem zm_entR {cA : Nat → ClassId} {ad : Nat → Nat} {mi : zm_Mi} {mr : zm_Mr} {l kd n : Nat} (h4 : 4 ≤ kd) : zm_ent cA ad mi mr l (kd, n) = .inl (cA kd, n, .inr (.inr (.inr (.inr (fun j => (mr l j).map ad))))) := by
  unfold zm_ent
  dsimp only
  rw [if_neg (by omega), if_neg (by omega), if_neg (by omega)]
theorem zz_aald (X : zz_X Γ G own cc d mc ms) {l n kd y : Nat} (hsh : sh l = some (kd, n)) (h4 : 4 ≤ kd) (h8 : kd ≤ 8) {i : Int32} (j : Nat) (hi : i = nI j) (hj : j < n) (hn : n < 2 ^ 31) (hy : mr l j = some y) (hdg : decode cc pc = .ok (.aaload, 1)) (kk : zz Γ G Q cells slots sh mi mr (pc + 1) ls (.ref y :: st)) : zz Γ G Q cells slots sh mi mr pc ls (.int i :: .ref l :: st) := by
  intro ad H locs la h
  subst hi
  obtain ⟨⟨L, hL, hP, hD⟩, hr, h9⟩ := id h.1
  obtain ⟨q, hq, ha⟩ := zm_at (D := G.1) (ad := ad) (mi := mi) (mr := mr) hL hsh (by show kd ≠ 9; omega)
  rw [zm_entR h4] at ha
  have hc : (nI j).toNatClampNeg = j := nI_clamp (by omega)
  have ht := zk_tys_at (cA := G.1.2) kd (by omega) h8
  have k2 := kk ad H locs la (h.ws (zm_oc (hr l j y hy) (zm_ot (zm_ot h.oks))))
  have hin := vp_in_nI hj hn
  have hrt : (zk_ty kd).isReference = true := by
    rcases (by omega : kd = 4 ∨ kd = 5 ∨ kd = 6 ∨ kd = 7 ∨ kd = 8) with rfl | rfl | rfl | rfl | rfl <;> rfl
  exact W.aald (v := .ref (ad y)) (ty := zk_ty kd) X.1 X.2.1 (hP q _ ha) ((X.2.2.2.2.2.2.1.1.2 _ _ ht).1 n (fun j => va_rf ((mr l j).map ad))) hrt (fun q => by cases q) (by show ¬ (nI j < 0 ∨ (arrV _ _ _).slots.size ≤ _); rw [arrV_size]; exact hin) (by show (arrV _ _ _).slots[_]? = _; rw [hc, arrV_read _ _ hj]; show some (va_rf ((mr l j).map ad)) = _; rw [hy]; rfl) rfl rfl hdg k2
theorem zz_aast (X : zz_X Γ G own cc d mc ms) {l n kd y ci : Nat} {C : String} {T : u_T} {N : Nat} (hsh : sh l = some (kd, n)) (h4 : 4 ≤ kd) (h7 : kd ≤ 7) (hci : vwCl[ci]? = some (C, T, N)) (hkt : zk_ty kd = .object C) (hy : sh y = some (0, ci)) {i : Int32} (j : Nat) (hi : i = nI j) (hj : j < n) (hn : n < 2 ^ 31) (hdg : decode cc pc = .ok (.aastore, 1)) (kk : zz Γ G Q cells slots sh mi (zm_u2 mr l j (some y)) (pc + 1) ls st) : zz Γ G Q cells slots sh mi mr pc ls (.ref y :: .int i :: .ref l :: st) := by
  intro ad H locs la h
  subst hi
  obtain ⟨⟨L, hL, hP, hD⟩, hr, h9⟩ := id h.1
  obtain ⟨q, hq, ha⟩ := zm_at (D := G.1) (ad := ad) (mi := mi) (mr := mr) hL hsh (by show kd ≠ 9; omega)
  obtain ⟨q2, hq2, ha2⟩ := zm_at (D := G.1) (ad := ad) (mi := mi) (mr := mr) hL hy (fun q => nomatch q)
  rw [zm_entR h4] at ha
  have hc : (nI j).toNatClampNeg = j := nI_clamp (by omega)
  have ht := zk_tys_at (cA := G.1.2) kd (by omega) (by omega : kd ≤ 8)
  rw [hkt] at ht
  refine va_astq (D := G.1.1) (cl := vwCl) X.1 X.2.1 X.2.2.2.2.2.2.1.1 hP hD h.2.1 q _ q2 ci ha ht ha2 hci (vp_in_nI hj hn) hdg (fun H1 locs1 hP1 hD1 hS1 => ?_)
  refine kk ad H1 locs1 la ⟨zm_set (mi' := mi) (mr' := zm_u2 mr l j (some y)) hL hsh hq (fun z hz => ⟨rfl, zm_u2r hz⟩) ?_ hP1 hD1 (zm_hr_u2 hr (zm_oh h.oks)) h9, hS1, h.2.2.1, h.2.2.2.1, zm_ot (zm_ot (zm_ot h.oks)), h.2.2.2.2.2⟩
  rw [zm_entR h4]
  refine congrArg (fun z => (ad l, (Sum.inl (G.1.2 kd, n, .inr (.inr (.inr (.inr z)))) : va_E))) ?_
  funext k
  rw [hc]
  unfold va_up
  by_cases hk : k = j
  · subst hk
    rw [if_pos rfl, zm_u2s]
    rfl
  · rw [if_neg hk, zm_u2k hk]
-- new cells
theorem zz_born {ad : Nat → Nat} {H H1 : Heap} {locs : List Loc} {la : Array Slot} {lbl a : Nat} {s : Nat × Nat} {st2 : List Value} (h : zz_H Γ G sh mi mr ls st2 ad H locs la) (hf : sh lbl = none) (hP : zm_P G.1 G.2.1 (zm_u1 ad lbl a) (zm_u1 sh lbl (some s)) (zm_u1 mi lbl (fun _ => 0)) (zm_u1 mr lbl (fun _ => none)) H1) (hS : va_S (zz_A G.2.1) (zz_s Γ).heap H1 locs) (h2 : zm_oks sh st) :
    zz_H Γ G (zm_u1 sh lbl (some s)) (zm_u1 mi lbl (fun _ => 0)) (zm_u1 mr lbl (fun _ => none)) ls (.ref lbl :: st) (zm_u1 ad lbl a) H1 locs la := by
  refine ⟨hP, hS, fun x hx => ?_, fun q hq => ⟨zm_ok_new (h.2.2.2.1 q hq).1, (h.2.2.2.1 q hq).2⟩, zm_oc ?_ (fun v hv => zm_ok_new (h2 v hv)), ?_⟩
  · obtain ⟨e1, e2⟩ := h.2.2.1 x hx
    have hxl : x ≠ lbl := fun e => hx (by rw [← e2, e]; exact hf)
    rw [zm_u1n hxl, zm_u1n hxl]
    exact ⟨e1, e2⟩
  · show zm_u1 sh lbl (some s) lbl ≠ none
    rw [zm_u1s]
    exact fun q => nomatch q
  · have e : zz_ls (zm_u1 ad lbl a) ls = zz_ls ad ls := List.map_congr_left fun q hq => by rw [zm_cv_new hf (h.2.2.2.1 q hq).1]
    rw [e]
    exact h.2.2.2.2.2
theorem zz_new (X : zz_X Γ G own cc d mc ms) (lbl : Nat) (hf : sh lbl = none) {idx ci N : Nat} {C : String} {T : u_T} {ty : Nat → FieldType} (CL : zz_CL ci C T N ty) (hlk : Cond.classLink own idx C ∈ lw_tbl) (hin : Cond.instantiable C N ∈ lw_tbl) (hini : Cond.initialized C ∈ lw_tbl) (h1 : cells + 1 ≤ mc) (h2 : slots + N ≤ ms) (hdg : decode cc pc = .ok (.new idx, 3))
    (kk : zz Γ G Q (cells + 1) (slots + N) (zm_u1 sh lbl (some (0, ci))) (zm_u1 mi lbl (fun _ => 0)) (zm_u1 mr lbl (fun _ => none)) (pc + 3) ls (.ref lbl :: st)) : zz Γ G Q cells slots sh mi mr pc ls st := by
  intro ad H locs la h
  obtain ⟨hcl, hws, hty, hnm, hC, hnf, hdv⟩ := CL
  obtain ⟨⟨L, hL, hP, hD⟩, hr, h9⟩ := id h.1
  have K := X.2.2.2.2.2.2.1
  have hR := X.2.2.2.2.2.2.2
  refine va_new (D := G.1.1) (cl := vwCl) (ci := ci) (fs := (List.range (zm_nf ci)).map (fun k => if zm_rk ci k = true then Value.null else .int 0)) X.1 X.2.1 (fun w hw => zk_w K (hws w hw).1 (hws w hw).2) (fun w hw => hw) ty hty X.2.2.2.1 (zk_w K hlk rfl) (zk_w K hin rfl) (zk_w K hini rfl) K.1 hP hD h.2.1 (fun q hq => Nat.le_trans K.2.2.2.2.2.2.2.2.2.2 hq) hcl (fun j hj => ?_) (by rw [hR]; exact h1) (by rw [hR]; exact h2) hdg (fun q H1 hP1 hD1 hS1 => ?_)
  · rw [hdv j hj]
    unfold vp_V
    rw [List.getD_eq_getElem?_getD, List.getElem?_map, List.getElem?_range (by rw [hnf]; exact hj)]
    rfl
  · have k2 := kk (zm_u1 ad lbl q) H1 locs la (zz_born h hf (zm_new hL hf (fun q => nomatch q) ?_ hP1 hD1 hr h9) hS1 h.oks)
    · rw [List.map_cons, zm_cvs_new hf h.oks] at k2
      have e : zm_cv (zm_u1 ad lbl q) (.ref lbl) = .ref q := by
        show Value.ref (zm_u1 ad lbl q lbl) = _
        rw [zm_u1s]
      rw [e] at k2
      exact k2
    · refine congrArg (fun z => (Sum.inr (ci, z) : va_E)) (List.map_congr_left fun k _ => ?_)
      unfold zm_fv
      rw [zm_u1s, zm_u1s]
      rfl
theorem zz_newa (X : zz_X Γ G own cc d mc ms) (lbl : Nat) (hf : sh lbl = none) {at0 : ArrayType} {kd n : Nat} (hkd : kd = 1 ∨ kd = 2 ∨ kd = 2) (hty : newarray.typeOf at0 = zk_ty kd) (harr : Cond.arrayClass (zk_ty kd) ∈ lw_tbl) {i : Int32} (hi : i = nI n) (hn : n ≤ 60000) (h1 : cells + 1 ≤ mc) (h2 : slots + n ≤ ms) (hdg : decode cc pc = .ok (.newarray at0, 2))
    (kk : zz Γ G Q (cells + 1) (slots + n) (zm_u1 sh lbl (some (kd, n))) (zm_u1 mi lbl (fun _ => 0)) (zm_u1 mr lbl (fun _ => none)) (pc + 2) ls (.ref lbl :: st)) : zz Γ G Q cells slots sh mi mr pc ls (.int i :: st) := by
  intro ad H locs la h
  subst hi
  obtain ⟨⟨L, hL, hP, hD⟩, hr, h9⟩ := id h.1
  have K := X.2.2.2.2.2.2.1
  have hR := X.2.2.2.2.2.2.2
  have hc : (nI n).toNatClampNeg = n := nI_clamp (by omega)
  have hcb : componentBytes (zk_ty kd) ≤ 8 := by rcases hkd with rfl | rfl | rfl <;> decide
  have ha0 : ∃ a0 : vp_A, (∀ cA : ClassId, vp_cell cA a0 = arrV cA n (fun _ => defaultValue (zk_ty kd))) ∧ ∀ (cA : Nat → ClassId), zm_ent cA (fun x => x) (zm_u1 mi lbl (fun _ => 0)) mr lbl (kd, n) = .inl (cA kd, a0) := by
    rcases hkd with rfl | rfl | rfl
    · refine ⟨(n, .inl (fun _ => 0)), fun cA => rfl, fun cA => ?_⟩
      show (Sum.inl (cA 1, n, .inl (zm_u1 mi lbl (fun _ => 0) lbl)) : va_E) = _
      rw [zm_u1s]
    · refine ⟨(n, .inl (fun _ => 0)), fun cA => rfl, fun cA => ?_⟩
      show (Sum.inl (cA 2, n, .inl (zm_u1 mi lbl (fun _ => 0) lbl)) : va_E) = _
      rw [zm_u1s]
    · refine ⟨(n, .inl (fun _ => 0)), fun cA => rfl, fun cA => ?_⟩
      show (Sum.inl (cA 2, n, .inl (zm_u1 mi lbl (fun _ => 0) lbl)) : va_E) = _
      rw [zm_u1s]
  obtain ⟨a0, hb1, hb2⟩ := ha0
  refine va_newa (D := G.1.1) (cl := vwCl) (tys := zk_tys G.1.2) (atype := at0) (a0 := a0) X.1 X.2.1 (by rw [hty]; exact zk_w K harr rfl) hty K.1 hP hD h.2.1 (fun q hq => Nat.le_trans K.2.2.2.2.2.2.2.2.2.2 hq) hb1 (nI_pos (by omega)) hc ?_ (by rw [hR]; exact h1) (by rw [hR]; exact h2) hdg (fun q cA H1 hK1 hP1 hD1 hS1 => ?_)
  · exact Nat.le_trans (Nat.mul_le_mul hn hcb) (by decide)
  · have e1 := (hK1.2 (zk_tys G.1.2).length (cA, zk_ty kd) (by rw [List.getElem?_append_right (Nat.le_refl _), Nat.sub_self]; rfl)).2
    have e2 := (K.1.2 _ _ (zk_tys_at (cA := G.1.2) kd (by omega) (by omega))).2
    have hcA : cA = G.1.2 kd := by
      rcases hkd with rfl | rfl | rfl <;> exact Option.some.inj (e1.symm.trans e2)
    subst hcA
    have k2 := kk (zm_u1 ad lbl q) H1 locs la (zz_born h hf (zm_new hL hf (by show kd ≠ 9; omega) ?_ hP1 hD1 hr h9) hS1 (zm_ot h.oks))
    · rw [List.map_cons, zm_cvs_new hf (zm_ot h.oks)] at k2
      have e : zm_cv (zm_u1 ad lbl q) (.ref lbl) = .ref q := by
        show Value.ref (zm_u1 ad lbl q lbl) = _
        rw [zm_u1s]
      rw [e] at k2
      exact k2
    · rw [← hb2]
      rcases hkd with rfl | rfl | rfl <;> rfl
theorem zz_newq (X : zz_X Γ G own cc d mc ms) (lbl : Nat) (hf : sh lbl = none) {idx kd n : Nat} {C : String} (h4 : 4 ≤ kd) (h7 : kd ≤ 7) (hC : C ∈ [RX0, RX2, RX3, RX4]) (hty : zk_ty kd = .object C) (hlk : Cond.classLink own idx C ∈ lw_tbl) {i : Int32} (hi : i = nI n) (hn : n ≤ 60000) (h1 : cells + 1 ≤ mc) (h2 : slots + n ≤ ms) (hdg : decode cc pc = .ok (.anewarray idx, 3))
    (kk : zz Γ G Q (cells + 1) (slots + n) (zm_u1 sh lbl (some (kd, n))) (zm_u1 mi lbl (fun _ => 0)) (zm_u1 mr lbl (fun _ => none)) (pc + 3) ls (.ref lbl :: st)) : zz Γ G Q cells slots sh mi mr pc ls (.int i :: st) := by
  intro ad H locs la h
  subst hi
  obtain ⟨⟨L, hL, hP, hD⟩, hr, h9⟩ := id h.1
  have K := X.2.2.2.2.2.2.1
  have hR := X.2.2.2.2.2.2.2
  have hc : (nI n).toNatClampNeg = n := nI_clamp (by omega)
  refine va_newq (D := G.1.1) (cl := vwCl) (tys := zk_tys G.1.2) X.1 X.2.1 X.2.2.2.1 (zk_w K hlk rfl) (K.2.2.2.2.2.1 C hC) K.1 hP hD h.2.1 (fun q hq => Nat.le_trans K.2.2.2.2.2.2.2.2.2.2 hq) (nI_pos (by omega)) hc (by omega) (by rw [hR]; exact h1) (by rw [hR]; exact h2) hdg (fun q cA H1 hK1 hP1 hD1 hS1 => ?_)
  have e1 := (hK1.2 (zk_tys G.1.2).length (cA, .object C) (by rw [List.getElem?_append_right (Nat.le_refl _), Nat.sub_self]; rfl)).2
  have e2 := (K.1.2 _ _ (zk_tys_at (cA := G.1.2) kd (by omega) (by omega))).2
  have hcA : cA = G.1.2 kd := by
    rw [hty] at e2
    obtain ⟨_, _, _, _, _, f1⟩ := e1
    obtain ⟨_, _, _, _, _, f2⟩ := e2
    exact Option.some.inj (f1.symm.trans f2)
  subst hcA
  have k2 := kk (zm_u1 ad lbl q) H1 locs la (zz_born h hf (zm_new hL hf (by show kd ≠ 9; omega) ?_ hP1 hD1 hr h9) hS1 (zm_ot h.oks))
  · rw [List.map_cons, zm_cvs_new hf (zm_ot h.oks)] at k2
    have e : zm_cv (zm_u1 ad lbl q) (.ref lbl) = .ref q := by
      show Value.ref (zm_u1 ad lbl q lbl) = _
      rw [zm_u1s]
    rw [e] at k2
    exact k2
  · rw [zm_entR h4, zm_u1s]
    rfl
end ZF
