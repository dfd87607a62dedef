/-! ===== the places that hold the state's numbers as they are ===== -/
theorem zu_eq {mi : zm_Mi} {S : zS} {l0 k0 r0 c0 l k r c : Nat} {x : Int32} (h : mi l k = S r c) (hi : (l = l0 ∧ k = k0) ↔ (r = r0 ∧ c = c0)) : zm_u2 mi l0 k0 x l k = zm_u2 S r0 c0 x r c := by
  unfold zm_u2
  by_cases q : l = l0 ∧ k = k0
  · rw [if_pos q, if_pos (hi.mp q)]
  · rw [if_neg q, if_neg (fun z => q (hi.mpr z)), h]
def zR_at1 (S : zS) (l k r c : Nat) : Prop := (l = 2 ∧ k = 1 ∧ r = 0 ∧ c = 0) ∨ (l = 2 ∧ k = 3 ∧ r = 5 ∧ c = 0) ∨ (l = 2 ∧ k = 6 ∧ r = 9 ∧ c = 0) ∨ (l = 2 ∧ k = 9 ∧ r = 28 ∧ c = 0) ∨ (l = 2 ∧ k = 10 ∧ r = 20 ∧ c = 0) ∨ (l = 2 ∧ k = 11 ∧ r = 21 ∧ c = 0) ∨ (l = 6 ∧ k < 5 ∧ r = 17 ∧ c = k) ∨ (l = 7 ∧ k < zv_nf S ∧ r = 29 ∧ c = k)
def zR_at2 (S : zS) (l k r c : Nat) : Prop := ∃ p, p < zv_np S ∧ ((l = 200 + 4 * p ∧ k = 0 ∧ r = 1 ∧ c = p) ∨ (l = 200 + 4 * p + 1 ∧ k < zv_jn S p ∧ r = 2 ∧ c = 6 * p + k) ∨ (l = 200 + 4 * p + 2 ∧ k < zv_jn S p ∧ r = 3 ∧ c = 6 * p + k) ∨ (l = 200 + 4 * p + 3 ∧ k < 10 ∧ r = 4 ∧ c = 10 * p + k))
def zR_at3 (S : zS) (l k r c : Nat) : Prop := ∃ v, v ≤ zv_nv S ∧ ((l = 300 + 3 * v ∧ k = 2 ∧ r = 6 ∧ c = v) ∨ (l = 300 + 3 * v + 1 ∧ k < zv_sc S v ∧ r = 7 ∧ c = 12 * v + k))
def zR_at4 (S : zS) (l k r c : Nat) : Prop := ∃ i, i < zv_ns S ∧ ((l = 1000 + 100 * i ∧ c = i ∧ ((k = 1 ∧ r = 11) ∨ (k = 2 ∧ r = 12) ∨ (k = 3 ∧ r = 13) ∨ (k = 4 ∧ r = 14) ∨ (k = 5 ∧ r = 16))) ∨ (l = 1000 + 100 * i + 5 ∧ k = 6 ∧ r = 15 ∧ c = i))
def zR_at5 (S : zS) (l k r c : Nat) : Prop := ∃ i, i < zv_ns S ∧ k < zv_sk S i ∧ ((c = 48 * i + k ∧ ((l = 1000 + 100 * i + 7 ∧ r = 23) ∨ (l = 1000 + 100 * i + 8 ∧ r = 25) ∨ (l = 1000 + 100 * i + 9 ∧ r = 26) ∨ (l = 1000 + 100 * i + 10 ∧ r = 27) ∨ (l = 1000 + 100 * i + 11 ∧ r = 24))) ∨ ∃ j, j < zv_jn S (zv_pu S i) ∧ l = 1000 + 100 * i + 40 + j ∧ r = 22 ∧ c = 48 * (6 * i + j) + k)
def zR_at (S : zS) (l k r c : Nat) : Prop := zR_at1 S l k r c ∨ zR_at2 S l k r c ∨ zR_at3 S l k r c ∨ zR_at4 S l k r c ∨ zR_at5 S l k r c
/-- the objects' shapes and references -/
def zR_hs (S : zS) (sh : zm_Sh) (mr : zm_Mr) : Prop := (sh 2 = some (0, 5) ∧ mr 2 0 = some 3 ∧ mr 2 2 = some 4 ∧ mr 2 4 = some (300 + 3 * zv_nv S) ∧ mr 2 5 = some 5 ∧ mr 2 7 = some 6 ∧ mr 2 8 = some 7 ∧ sh 3 = some (4, 5) ∧ sh 4 = some (7, 6) ∧ sh 5 = some (5, 8) ∧ sh 6 = some (2, 5) ∧ sh 7 = some (1, 8)) ∧
  (∀ p, p < zv_np S → mr 3 p = some (200 + 4 * p) ∧ zr_P sh mr (200 + 4 * p) (zv_jn S p)) ∧ ((∀ v, v < zv_nv S → mr 4 v = some (300 + 3 * v)) ∧ ∀ v, v ≤ zv_nv S → zr_V sh mr (300 + 3 * v)) ∧ (∀ i, i < zv_ns S → mr 5 i = some (1000 + 100 * i) ∧ zr_S sh mr (1000 + 100 * i) (200 + 4 * zv_pu S i) (zv_jn S (zv_pu S i)) (zv_fr S i)) ∧ zR_free S sh
def zR_en (S : zS) (mi : zm_Mi) : Prop := ∀ v, v ≤ zv_nv S → ∀ k, k < zv_sc S v → mi (300 + 3 * v + 2) k = zs_sum (fun q => S 8 (12 * v + q)) (k + 1)
theorem zR_out {S : zS} {sh : zm_Sh} {mi : zm_Mi} {mr : zm_Mr} (h : zR S sh mi mr) : zR_hs S sh mr ∧ (∀ l k r c, zR_at S l k r c → mi l k = S r c) ∧ zR_en S mi ∧ ∀ i, i < zv_ns S → zR_k S mi i := by
  obtain ⟨⟨m1, m2, m3, m4, m5, m6, m7, m8, m9, m10, m11, m12, m13, m14, m15, m16, m17, m18, m19, m20⟩, hp, ⟨hv1, hv2⟩, hs, hf⟩ := h
  refine ⟨⟨⟨m1, m2, m3, m4, m5, m6, m7, m8, m9, m10, m11, m12⟩, fun p q => ⟨(hp p q).1, (hp p q).2.1⟩, ⟨hv1, fun v q => (hv2 v q).1⟩, fun i q => ⟨(hs i q).1, (hs i q).2.1⟩, hf⟩, ?_, fun v q => (hv2 v q).2.2.2, fun i q => (hs i q).2.2.2.2.2.2.2.2.1⟩
  rintro l k r c (H | H | H | H | H)
  · rcases H with ⟨rfl, rfl, rfl, rfl⟩ | ⟨rfl, rfl, rfl, rfl⟩ | ⟨rfl, rfl, rfl, rfl⟩ | ⟨rfl, rfl, rfl, rfl⟩ | ⟨rfl, rfl, rfl, rfl⟩ | ⟨rfl, rfl, rfl, rfl⟩ | ⟨rfl, h5, rfl, rfl⟩ | ⟨rfl, h5, rfl, rfl⟩
    · exact m13
    · exact m14
    · exact m15
    · exact m16
    · exact m17
    · exact m18
    · exact m19 _ h5
    · exact m20 _ h5
  · obtain ⟨p, q, H⟩ := H
    obtain ⟨e1, e2, e3, e4, e5, e6⟩ := hp p q
    rcases H with ⟨rfl, rfl, rfl, rfl⟩ | ⟨rfl, h5, rfl, rfl⟩ | ⟨rfl, h5, rfl, rfl⟩ | ⟨rfl, h5, rfl, rfl⟩
    · exact e3
    · exact e4 _ h5
    · exact e5 _ h5
    · exact e6 _ h5
  · obtain ⟨v, q, H⟩ := H
    obtain ⟨e1, e2, e3, e4⟩ := hv2 v q
    rcases H with ⟨rfl, rfl, rfl, rfl⟩ | ⟨rfl, h5, rfl, rfl⟩
    · exact e2
    · exact e3 _ h5
  · obtain ⟨i, q, H⟩ := H
    obtain ⟨e1, e2, e3, e4, e5, e6, e7, e8, e9, e10⟩ := hs i q
    rcases H with ⟨rfl, rfl, H⟩ | ⟨rfl, rfl, rfl, rfl⟩
    · rcases H with ⟨rfl, rfl⟩ | ⟨rfl, rfl⟩ | ⟨rfl, rfl⟩ | ⟨rfl, rfl⟩ | ⟨rfl, rfl⟩
      · exact e3
      · exact e4
      · exact e5
      · exact e6
      · exact e7
    · exact e8
  · obtain ⟨i, q, hk, H⟩ := H
    obtain ⟨g1, g2, g3, g4, g5, g6⟩ := (hs i q).2.2.2.2.2.2.2.2.2 k hk
    rcases H with ⟨rfl, H⟩ | ⟨j, hj, rfl, rfl, rfl⟩
    · rcases H with ⟨rfl, rfl⟩ | ⟨rfl, rfl⟩ | ⟨rfl, rfl⟩ | ⟨rfl, rfl⟩ | ⟨rfl, rfl⟩
      · exact g1
      · exact g2
      · exact g3
      · exact g4
      · exact g5
    · exact g6 j hj
theorem zR_in {S : zS} {sh : zm_Sh} {mi : zm_Mi} {mr : zm_Mr} (h1 : zR_hs S sh mr) (h : ∀ l k r c, zR_at S l k r c → mi l k = S r c) (h3 : zR_en S mi) (h4 : ∀ i, i < zv_ns S → zR_k S mi i) : zR S sh mi mr := by
  obtain ⟨⟨m1, m2, m3, m4, m5, m6, m7, m8, m9, m10, m11, m12⟩, hp, ⟨hv1, hv2⟩, hs, hf⟩ := h1
  have a1 : ∀ l k r c, zR_at1 S l k r c → mi l k = S r c := fun l k r c q => h l k r c (Or.inl q)
  have a2 : ∀ p, p < zv_np S → ∀ l k r c, _ → mi l k = S r c := fun p hp l k r c q => h l k r c (Or.inr (Or.inl ⟨p, hp, q⟩))
  have a3 : ∀ v, v ≤ zv_nv S → ∀ l k r c, _ → mi l k = S r c := fun v hv l k r c q => h l k r c (Or.inr (Or.inr (Or.inl ⟨v, hv, q⟩)))
  have a4 : ∀ i, i < zv_ns S → ∀ l k r c, _ → mi l k = S r c := fun i hi l k r c q => h l k r c (Or.inr (Or.inr (Or.inr (Or.inl ⟨i, hi, q⟩))))
  have a5 : ∀ i, i < zv_ns S → ∀ l k r c, k < zv_sk S i → _ → mi l k = S r c := fun i hi l k r c hk q => h l k r c (Or.inr (Or.inr (Or.inr (Or.inr ⟨i, hi, hk, q⟩))))
  refine ⟨⟨m1, m2, m3, m4, m5, m6, m7, m8, m9, m10, m11, m12, a1 _ _ _ _ (Or.inl ⟨rfl, rfl, rfl, rfl⟩), a1 _ _ _ _ (Or.inr (Or.inl ⟨rfl, rfl, rfl, rfl⟩)), a1 _ _ _ _ (Or.inr (Or.inr (Or.inl ⟨rfl, rfl, rfl, rfl⟩))), a1 _ _ _ _ (Or.inr (Or.inr (Or.inr (Or.inl ⟨rfl, rfl, rfl, rfl⟩)))), a1 _ _ _ _ (Or.inr (Or.inr (Or.inr (Or.inr (Or.inl ⟨rfl, rfl, rfl, rfl⟩))))), a1 _ _ _ _ (Or.inr (Or.inr (Or.inr (Or.inr (Or.inr (Or.inl ⟨rfl, rfl, rfl, rfl⟩)))))),
    fun a ha => a1 _ _ _ _ (Or.inr (Or.inr (Or.inr (Or.inr (Or.inr (Or.inr (Or.inl ⟨rfl, ha, rfl, rfl⟩))))))), fun a ha => a1 _ _ _ _ (Or.inr (Or.inr (Or.inr (Or.inr (Or.inr (Or.inr (Or.inr ⟨rfl, ha, rfl, rfl⟩)))))))⟩, fun p q => ?_, ⟨hv1, fun v q => ?_⟩, fun i q => ?_, hf⟩
  · exact ⟨(hp p q).1, (hp p q).2, a2 p q _ _ _ _ (Or.inl ⟨rfl, rfl, rfl, rfl⟩), fun j hj => a2 p q _ _ _ _ (Or.inr (Or.inl ⟨rfl, hj, rfl, rfl⟩)), fun j hj => a2 p q _ _ _ _ (Or.inr (Or.inr (Or.inl ⟨rfl, hj, rfl, rfl⟩))), fun j hj => a2 p q _ _ _ _ (Or.inr (Or.inr (Or.inr ⟨rfl, hj, rfl, rfl⟩)))⟩
  · exact ⟨hv2 v q, a3 v q _ _ _ _ (Or.inl ⟨rfl, rfl, rfl, rfl⟩), fun k hk => a3 v q _ _ _ _ (Or.inr ⟨rfl, hk, rfl, rfl⟩), h3 v q⟩
  · refine ⟨(hs i q).1, (hs i q).2, a4 i q _ _ _ _ (Or.inl ⟨rfl, rfl, Or.inl ⟨rfl, rfl⟩⟩), a4 i q _ _ _ _ (Or.inl ⟨rfl, rfl, Or.inr (Or.inl ⟨rfl, rfl⟩)⟩), a4 i q _ _ _ _ (Or.inl ⟨rfl, rfl, Or.inr (Or.inr (Or.inl ⟨rfl, rfl⟩))⟩), a4 i q _ _ _ _ (Or.inl ⟨rfl, rfl, Or.inr (Or.inr (Or.inr (Or.inl ⟨rfl, rfl⟩)))⟩), a4 i q _ _ _ _ (Or.inl ⟨rfl, rfl, Or.inr (Or.inr (Or.inr (Or.inr ⟨rfl, rfl⟩)))⟩), a4 i q _ _ _ _ (Or.inr ⟨rfl, rfl, rfl, rfl⟩), h4 i q, fun f hf => ?_⟩
    exact ⟨a5 i q _ _ _ _ hf (Or.inl ⟨rfl, Or.inl ⟨rfl, rfl⟩⟩), a5 i q _ _ _ _ hf (Or.inl ⟨rfl, Or.inr (Or.inl ⟨rfl, rfl⟩)⟩), a5 i q _ _ _ _ hf (Or.inl ⟨rfl, Or.inr (Or.inr (Or.inl ⟨rfl, rfl⟩))⟩), a5 i q _ _ _ _ hf (Or.inl ⟨rfl, Or.inr (Or.inr (Or.inr (Or.inl ⟨rfl, rfl⟩)))⟩), a5 i q _ _ _ _ hf (Or.inl ⟨rfl, Or.inr (Or.inr (Or.inr (Or.inr ⟨rfl, rfl⟩)))⟩), fun j hj => a5 i q _ _ _ _ hf (Or.inr ⟨j, hj, rfl, rfl, rfl⟩)⟩
/-- a number for each family of places -/
def zR_code (l k r c : Nat) : Prop := (l < 2 ∧ False) ∨ (r < 31 ∧ (
    (l = 2 ∧ c = 0 ∧ ((k = 1 ∧ r = 0) ∨ (k = 3 ∧ r = 5) ∨ (k = 6 ∧ r = 9) ∨ (k = 9 ∧ r = 28) ∨ (k = 10 ∧ r = 20) ∨ (k = 11 ∧ r = 21)))
  ∨ (l = 6 ∧ r = 17 ∧ c = k) ∨ (l = 7 ∧ r = 29 ∧ c = k)
  ∨ (∃ p, p < 5 ∧ ((l = 200 + 4 * p ∧ k = 0 ∧ r = 1 ∧ c = p) ∨ (l = 200 + 4 * p + 1 ∧ k < 6 ∧ r = 2 ∧ c = 6 * p + k) ∨ (l = 200 + 4 * p + 2 ∧ k < 6 ∧ r = 3 ∧ c = 6 * p + k) ∨ (l = 200 + 4 * p + 3 ∧ k < 10 ∧ r = 4 ∧ c = 10 * p + k)))
  ∨ (∃ v, v < 7 ∧ ((l = 300 + 3 * v ∧ k = 2 ∧ r = 6 ∧ c = v) ∨ (l = 300 + 3 * v + 1 ∧ k < 12 ∧ r = 7 ∧ c = 12 * v + k)))
  ∨ (∃ i, i < 8 ∧ ((l = 1000 + 100 * i ∧ c = i ∧ ((k = 1 ∧ r = 11) ∨ (k = 2 ∧ r = 12) ∨ (k = 3 ∧ r = 13) ∨ (k = 4 ∧ r = 14) ∨ (k = 5 ∧ r = 16))) ∨ (l = 1000 + 100 * i + 5 ∧ k = 6 ∧ r = 15 ∧ c = i)
     ∨ (k < 48 ∧ c = 48 * i + k ∧ ((l = 1000 + 100 * i + 7 ∧ r = 23) ∨ (l = 1000 + 100 * i + 8 ∧ r = 25) ∨ (l = 1000 + 100 * i + 9 ∧ r = 26) ∨ (l = 1000 + 100 * i + 10 ∧ r = 27) ∨ (l = 1000 + 100 * i + 11 ∧ r = 24)))
     ∨ (k < 48 ∧ ∃ j, j < 6 ∧ l = 1000 + 100 * i + 40 + j ∧ r = 22 ∧ c = 48 * (6 * i + j) + k)))))
theorem zR_at_code {S : zS} (hW : zW S) {l k r c : Nat} (H : zR_at S l k r c) : zR_code l k r c := by
  obtain ⟨hWp, hWv, hWs, hWk, hWr, hWf⟩ := hW
  have n1 := hWp.2.1
  have n2 := hWv.2.1
  have n3 := hWs.2.1
  refine Or.inr ?_
  rcases H with H | H | H | H | H
  · rcases H with ⟨rfl, rfl, rfl, rfl⟩ | ⟨rfl, rfl, rfl, rfl⟩ | ⟨rfl, rfl, rfl, rfl⟩ | ⟨rfl, rfl, rfl, rfl⟩ | ⟨rfl, rfl, rfl, rfl⟩ | ⟨rfl, rfl, rfl, rfl⟩ | ⟨rfl, h5, rfl, rfl⟩ | ⟨rfl, h5, rfl, rfl⟩ <;> refine ⟨by decide, ?_⟩
    all_goals first | exact Or.inl ⟨rfl, rfl, by omega⟩ | exact Or.inr (Or.inl ⟨rfl, rfl, rfl⟩) | exact Or.inr (Or.inr (Or.inl ⟨rfl, rfl, rfl⟩))
  · obtain ⟨p, q, H⟩ := H
    have := (hWp.2.2.1 p q).2.2
    exact ⟨by omega, Or.inr (Or.inr (Or.inr (Or.inl ⟨p, by omega, by omega⟩)))⟩
  · obtain ⟨v, q, H⟩ := H
    have := (hWv.2.2.1 v (by omega)).2
    exact ⟨by omega, Or.inr (Or.inr (Or.inr (Or.inr (Or.inl ⟨v, by omega, by omega⟩))))⟩
  · obtain ⟨i, q, H⟩ := H
    refine ⟨by omega, Or.inr (Or.inr (Or.inr (Or.inr (Or.inr ⟨i, by omega, ?_⟩))))⟩
    rcases H with H | H
    · exact Or.inl H
    · exact Or.inr (Or.inl H)
  · obtain ⟨i, q, hk, H⟩ := H
    obtain ⟨b1, b2, b3, b4, b5, b6, b7, b8, b9, b10, b11, b12, b13⟩ := hWs.2.2.1 i q
    have hj6 := (hWp.2.2.1 _ b2).2.2
    rcases H with H | ⟨j, hj, e1, e2, e3⟩
    · exact ⟨by omega, Or.inr (Or.inr (Or.inr (Or.inr (Or.inr ⟨i, by omega, Or.inr (Or.inr (Or.inl ⟨by omega, H⟩))⟩))))⟩
    · exact ⟨by omega, Or.inr (Or.inr (Or.inr (Or.inr (Or.inr ⟨i, by omega, Or.inr (Or.inr (Or.inr ⟨by omega, j, by omega, e1, e2, e3⟩))⟩))))⟩
theorem zR_code_inj {l k r c l0 k0 r0 c0 : Nat} (h : zR_code l k r c) (h0 : zR_code l0 k0 r0 c0) : (l = l0 ∧ k = k0) ↔ (r = r0 ∧ c = c0) := by
  rcases h with ⟨-, h⟩ | ⟨-, h⟩
  · exact h.elim
  rcases h0 with ⟨-, h0⟩ | ⟨-, h0⟩
  · exact h0.elim
  rcases h with h | h | h | ⟨p, hp, h⟩ | ⟨p, hp, h⟩ | ⟨p, hp, h | h | h | ⟨hk, j, hj, h⟩⟩ <;> rcases h0 with h0 | h0 | h0 | ⟨p0, hp0, h0⟩ | ⟨p0, hp0, h0⟩ | ⟨p0, hp0, h0 | h0 | h0 | ⟨hk0, j0, hj0, h0⟩⟩ <;> omega

/-! one number is set -/
def zs_str (r : Nat) : Prop := r = 2 ∨ r = 3 ∨ r = 4 ∨ r = 13 ∨ r = 14 ∨ r = 16 ∨ r = 17 ∨ r = 20 ∨ r = 21 ∨ (22 ≤ r ∧ r ≤ 27) ∨ 30 ≤ r
theorem zs_keep {S S' : zS} (hs : ∀ r, ¬ zs_str r → S' r = S r) : S' 0 = S 0 ∧ S' 1 = S 1 ∧ S' 5 = S 5 ∧ S' 6 = S 6 ∧ S' 7 = S 7 ∧ S' 8 = S 8 ∧ S' 9 = S 9 ∧ S' 10 = S 10 ∧ S' 11 = S 11 ∧ S' 12 = S 12 ∧ S' 15 = S 15 ∧ S' 18 = S 18 ∧ S' 19 = S 19 ∧ S' 28 = S 28 ∧ S' 29 = S 29 := by
  refine ⟨hs _ ?_, hs _ ?_, hs _ ?_, hs _ ?_, hs _ ?_, hs _ ?_, hs _ ?_, hs _ ?_, hs _ ?_, hs _ ?_, hs _ ?_, hs _ ?_, hs _ ?_, hs _ ?_, hs _ ?_⟩ <;> unfold zs_str <;> omega
theorem zR_at_keep {S S' : zS} (hs : ∀ r, ¬ zs_str r → S' r = S r) : zR_at S' = zR_at S := by
  obtain ⟨e0, e1, e5, e6, e7, e8, e9, e10, e11, e12, e15, e18, e19, e28, e29⟩ := zs_keep hs
  funext l k r c
  unfold zR_at zR_at1 zR_at2 zR_at3 zR_at4 zR_at5
  simp only [zv_np, zv_jn, zv_nv, zv_sc, zv_ns, zv_pu, zv_fr, zv_st, zv_sk, zv_nf, zv_fl, e0, e1, e5, e6, e7, e8, e9, e10, e11, e12, e15, e18, e19, e28, e29]
/-- the rows of no structure move as the memory does, and the rest stands -/
theorem zR_keep {S S' : zS} {sh : zm_Sh} {mi mi' : zm_Mi} {mr : zm_Mr} (hR : zR S sh mi mr) (hs : ∀ r, ¬ zs_str r → S' r = S r) (h : ∀ l k r c, zR_at S l k r c → mi' l k = S' r c)
    (hen : ∀ v, v ≤ zv_nv S → mi' (300 + 3 * v + 2) = mi (300 + 3 * v + 2)) (hk : ∀ i, i < zv_ns S → (∀ a, a < 19 → mi' (1000 + 100 * i + 20 + a) = mi (1000 + 100 * i + 20 + a)) ∧ ∀ a, a < 3 → mi' (1000 + 100 * i + 2 + a) = mi (1000 + 100 * i + 2 + a)) (hj : ∀ i, i < zv_ns S → zv_jn S (zv_pu S i) ≤ 6) : zR S' sh mi' mr := by
  obtain ⟨h1, h2, h3, h4⟩ := zR_out hR
  have he := zR_at_keep hs
  obtain ⟨e0, e1, e5, e6, e7, e8, e9, e10, e11, e12, e15, e18, e19, e28, e29⟩ := zs_keep hs
  refine zR_in ?_ (fun l k r c q => h l k r c (by rw [← he]; exact q)) ?_ ?_
  · unfold zR_hs zR_free
    simp only [zv_np, zv_jn, zv_nv, zv_sc, zv_ns, zv_pu, zv_fr, zv_st, zv_sk, zv_nf, zv_fl, e0, e1, e5, e6, e9, e10, e11]
    exact h1
  · unfold zR_en
    simp only [zv_np, zv_jn, zv_nv, zv_sc, zv_ns, zv_pu, zv_fr, zv_st, zv_sk, zv_nf, zv_fl, e5, e6, e8]
    intro v hv k hk9
    rw [hen v hv]
    exact h3 v hv k hk9
  · simp only [zv_np, zv_jn, zv_nv, zv_sc, zv_ns, zv_pu, zv_fr, zv_st, zv_sk, zv_nf, zv_fl, e9]
    intro i hi
    obtain ⟨q1, q2⟩ := hk i hi
    have hj6 : zn (S 1 (zn (S 10 i))) ≤ 6 := hj i hi
    obtain ⟨g1, g2, g3, g4⟩ := h4 i hi
    unfold zR_k
    simp only [zv_np, zv_jn, zv_nv, zv_sc, zv_ns, zv_pu, zv_fr, zv_st, zv_sk, zv_nf, zv_fl, e1, e10, e11, e18, e19]
    refine ⟨fun j hj => ?_, fun j f hj hf => ?_, ?_, fun f hf => ?_⟩
    · rw [show 1000 + 100 * i + 20 + 3 * j = 1000 + 100 * i + 20 + (3 * j) by omega, q1 (3 * j) (by omega)]
      exact g1 j hj
    · rw [show 1000 + 100 * i + 20 + 3 * j + 2 = 1000 + 100 * i + 20 + (3 * j + 2) by omega, show 1000 + 100 * i + 20 + 3 * j + 1 = 1000 + 100 * i + 20 + (3 * j + 1) by omega, q1 (3 * j + 2) (by omega), q1 (3 * j + 1) (by omega)]
      exact g2 j f hj hf
    · exact (congrFun (q2 0 (by omega)) 0).trans g3
    · rw [show 1000 + 100 * i + 2 + 2 = 1000 + 100 * i + 2 + 2 from rfl, q2 2 (by omega), q2 1 (by omega)]
      exact g4 f hf
theorem zR_set {S : zS} {sh : zm_Sh} {mi : zm_Mi} {mr : zm_Mr} (hW : zW S) (hR : zR S sh mi mr) {l k r c : Nat} {x : Int32} (ha : zR_at S l k r c) (hr : zs_str r) : zR (zm_u2 S r c x) sh (zm_u2 mi l k x) mr := by
  have h0 := zR_at_code hW ha
  have hn : (∀ v, v ≤ zv_nv S → ¬ 300 + 3 * v + 2 = l) ∧ (∀ i, i < zv_ns S → (∀ a, a < 19 → ¬ 1000 + 100 * i + 20 + a = l) ∧ ∀ a, a < 3 → ¬ 1000 + 100 * i + 2 + a = l) := by
    have n2 := hW.2.1.2.1
    have n3 := hW.2.2.1.2.1
    unfold zR_code at h0
    rcases h0 with ⟨-, h0⟩ | ⟨-, h0⟩
    · exact h0.elim
    rcases h0 with h | h | h | ⟨p, hp, h⟩ | ⟨p, hp, h⟩ | ⟨p, hp, h | h | h | ⟨hk, j, hj, h⟩⟩ <;> refine ⟨fun v hv => ?_, fun i hi => ⟨fun a ha => ?_, fun a ha => ?_⟩⟩ <;> omega
  refine zR_keep hR (fun q hq => zm_u2r (fun e => hq (e ▸ hr))) (fun l1 k1 r1 c1 h1 => zu_eq ((zR_out hR).2.1 _ _ _ _ h1) (zR_code_inj (zR_at_code hW h1) h0)) (fun v hv => zm_u2r (hn.1 v hv)) (fun i hi => ⟨fun a ha => zm_u2r ((hn.2 i hi).1 a ha), fun a ha => zm_u2r ((hn.2 i hi).2 a ha)⟩) (fun i hi => (hW.1.2.2.1 _ (hW.2.2.1.2.2.1 i hi).2.1).2.2)
/-- a place that holds no number of the state -/
theorem zR_quiet {S : zS} {sh : zm_Sh} {mi : zm_Mi} {mr : zm_Mr} (hW : zW S) (hR : zR S sh mi mr) {i l k : Nat} {x : Int32} (hi : i < zv_ns S) (hk : zv_sk S i ≤ k) (hl : (1000 + 100 * i + 7 ≤ l ∧ l ≤ 1000 + 100 * i + 11) ∨ (1000 + 100 * i + 40 ≤ l ∧ l < 1000 + 100 * i + 46)) : zR S sh (zm_u2 mi l k x) mr := by
  have n2 := hW.2.1.2.1
  have n3 := hW.2.2.1.2.1
  have n1 := hW.1.2.1
  refine zR_keep hR (fun _ _ => rfl) (fun l1 k1 r1 c1 h1 => ?_) (fun v hv => zm_u2r (by omega)) (fun q hq => ⟨fun a ha => zm_u2r (by omega), fun a ha => zm_u2r (by omega)⟩) (fun i hi => (hW.1.2.2.1 _ (hW.2.2.1.2.2.1 i hi).2.1).2.2)
  have e := (zR_out hR).2.1 _ _ _ _ h1
  rw [← e]
  refine if_neg ?_
  rintro ⟨rfl, rfl⟩
  rcases h1 with H | H | H | H | H
  · unfold zR_at1 at H; omega
  · obtain ⟨p, q, H⟩ := H; omega
  · obtain ⟨v, q, H⟩ := H; omega
  · obtain ⟨p, q, H⟩ := H; omega
  · obtain ⟨p, q, hk9, H⟩ := H
    have hj6 := (hW.1.2.2.1 _ (hW.2.2.1.2.2.1 p q).2.1).2.2
    by_cases e : p = i
    · rw [e] at hk9; omega
    · rcases H with H | ⟨j, hj, H⟩ <;> omega
/-! the state's own order -/
theorem zW_set {S : zS} (hW : zW S) {r c : Nat} {x : Int32} (hr : zs_str r) (h2 : r = 2 → zv_in x 0 359 ∧ c < 6 * zv_np S) (h3 : r = 3 → c < 6 * zv_np S) (h4 : r = 4 → c < 10 * zv_np S) (h13 : r = 13 → x = -1 ∨ zs_ix x (zv_nv S)) (h14 : r = 14 → zs_ix x 5) (h16 : r = 16 → c < zv_ns S) (h24 : ¬ (r = 24 ∨ r = 26)) (h17 : r = 17 → x = 0 ∨ x = 1) : zW (zm_u2 S r c x) := by
  have E : ∀ q, ¬ zs_str q → zm_u2 S r c x q = S q := fun q hq => zm_u2r (fun e => hq (e ▸ hr))
  obtain ⟨e0, e1, e5, e6, e7, e8, e9, e10, e11, e12, e15, e18, e19, e28, e29⟩ := zs_keep E
  have E24 : zm_u2 S r c x 24 = S 24 := zm_u2r (by omega)
  have E26 : zm_u2 S r c x 26 = S 26 := zm_u2r (by omega)
  obtain ⟨⟨p0, p1, p2, p3, p4, p5⟩, hWv, ⟨s0, s1, s2, s3⟩, hWk, hWr, hWf⟩ := hW
  have U : ∀ a b, zm_u2 S r c x a b = S a b ∨ (a = r ∧ b = c ∧ zm_u2 S r c x a b = x) := fun a b => by
    by_cases q : a = r ∧ b = c
    · exact Or.inr ⟨q.1, q.2, if_pos q⟩
    · exact Or.inl (if_neg q)
  refine ⟨?_, ?_, ?_, ?_, ?_, ?_⟩
  · unfold zW_p
    simp only [zv_np, zv_jn, zv_nv, zv_sc, zv_ns, zv_pu, zv_fr, zv_st, zv_sk, zv_nf, zv_fl, e0, e1]
    refine ⟨p0, p1, p2, fun a => ?_, fun a ha => ⟨?_, ?_⟩, fun a ha => ?_⟩
    · rcases U 2 a with h | ⟨h, -, q⟩
      · rw [h]; exact p3 a
      · rw [q]; exact (h2 h.symm).1
    · rcases U 2 a with h | ⟨h, h', q⟩
      · rw [h]; exact (p4 a ha).1
      · have : c < 6 * zn (S 0 0) := (h2 h.symm).2; omega
    · rcases U 3 a with h | ⟨h, h', q⟩
      · rw [h]; exact (p4 a ha).2
      · have : c < 6 * zn (S 0 0) := h3 h.symm; omega
    · rcases U 4 a with h | ⟨h, h', q⟩
      · rw [h]; exact p5 a ha
      · have : c < 10 * zn (S 0 0) := h4 h.symm; omega
  · unfold zW_v
    simp only [zv_np, zv_jn, zv_nv, zv_sc, zv_ns, zv_pu, zv_fr, zv_st, zv_sk, zv_nf, zv_fl, e5, e6, e7, e8]
    exact hWv
  · unfold zW_s
    simp only [zv_np, zv_jn, zv_nv, zv_sc, zv_ns, zv_pu, zv_fr, zv_st, zv_sk, zv_nf, zv_fl, e0, e5, e9, e10, e11, e12, e15]
    refine ⟨s0, s1, fun i hi => ?_, fun i hi => ⟨(s3 i hi).1, ?_⟩⟩
    · obtain ⟨b1, b2, b3, b4, b5, b6, b7, b8, b9, b10, b11, b12, b13⟩ := s2 i hi
      refine ⟨b1, b2, b3, b4, b5, b6, b7, b8, ?_, ?_, b11, b12, ?_⟩
      · rcases U 13 i with h | ⟨h, h', q⟩
        · rw [h]; exact b9
        · rw [q]; exact h13 h.symm
      · rcases U 14 i with h | ⟨h, h', q⟩
        · rw [h]; exact b10
        · rw [q]; exact Or.inr (h14 h.symm)
      · rcases U 14 i with h | ⟨h, h', q⟩
        · rw [h]; exact b13
        · rw [q]; exact fun _ => h14 h.symm
    · rcases U 16 i with h | ⟨h, h', q⟩
      · rw [h]; exact (s3 i hi).2
      · have : c < zn (S 9 0) := h16 h.symm; omega
  · unfold zW_k
    simp only [zv_np, zv_jn, zv_nv, zv_sc, zv_ns, zv_pu, zv_fr, zv_st, zv_sk, zv_nf, zv_fl, e9, e11, e18, e19]
    exact hWk
  · unfold zW_r
    simp only [zv_np, zv_jn, zv_nv, zv_sc, zv_ns, zv_pu, zv_fr, zv_st, zv_sk, zv_nf, zv_fl, e9, e15, E24, E26]
    exact hWr
  · unfold zW_f
    simp only [zv_np, zv_jn, zv_nv, zv_sc, zv_ns, zv_pu, zv_fr, zv_st, zv_sk, zv_nf, zv_fl, e9, e28, e29]
    refine ⟨hWf.1, hWf.2.1, hWf.2.2.1, hWf.2.2.2.1, fun a => ?_⟩
    rcases U 17 a with h | ⟨h, h', q⟩
    · rw [h]; exact hWf.2.2.2.2 a
    · rw [q]; exact h17 h.symm
