/-! ===== numbers as the classes count them ===== -/
def zs_rem (x y : Int32) : Int32 := x - x / y * y
def zs_fmod (x y : Int32) : Int32 := if 0 ≤ x ^^^ y then zs_rem x y else if zs_rem x y = 0 then zs_rem x y else zs_rem x y + y
def zs_cmp (x y : Int32) : Int32 := if y ≤ x then if x = y then 0 else 1 else -1
def zs_sw (a b : Int32) : Int32 := if zs_fmod (b - a) (nI 360) ≤ nI 180 then zs_fmod (b - a) (nI 360) else zs_fmod (b - a) (nI 360) - nI 360
def zs_abs (z : Int32) : Int32 := if 0 ≤ z then z else 0 - z
def zs_any (p : Nat → Prop) [DecidablePred p] : Nat → Bool
  | 0 => false
  | n + 1 => zs_any p n || decide (p n)
theorem zs_any_iff {p : Nat → Prop} [DecidablePred p] : ∀ n, zs_any p n = true ↔ ∃ i, i < n ∧ p i
  | 0 => ⟨(fun h => nomatch h), fun ⟨_, h, _⟩ => absurd h (Nat.not_lt_zero _)⟩
  | n + 1 => by
    simp only [zs_any, Bool.or_eq_true, decide_eq_true_eq, zs_any_iff n]
    constructor
    · rintro (⟨i, h1, h2⟩ | h)
      · exact ⟨i, by omega, h2⟩
      · exact ⟨n, by omega, h⟩
    · rintro ⟨i, h1, h2⟩
      by_cases e : i = n
      · exact Or.inr (e ▸ h2)
      · exact Or.inl ⟨i, by omega, h2⟩
/-- the nearest place below q that g marks; -1 without -/
def zs_up (g : Nat → Prop) [DecidablePred g] : Nat → Int32
  | 0 => -1
  | i + 1 => if g i then nI i else zs_up g i
/-- what v has at the first of k places from i on that g marks; -1 without -/
def zs_fst (g : Nat → Prop) [DecidablePred g] (v : Nat → Int32) : Nat → Nat → Int32
  | 0, _ => -1
  | k + 1, i => if g i then v i else zs_fst g v k (i + 1)
theorem zs_fst_hit {g : Nat → Prop} [DecidablePred g] {v : Nat → Int32} {c i : Nat} (h : i < c) (hg : g i) : zs_fst g v (c - i) i = v i := by
  rw [show c - i = (c - (i + 1)) + 1 by omega]
  exact if_pos hg
theorem zs_fst_step {g : Nat → Prop} [DecidablePred g] {v : Nat → Int32} {c i : Nat} (h : i < c) (hg : ¬ g i) : zs_fst g v (c - i) i = zs_fst g v (c - (i + 1)) (i + 1) := by
  rw [show c - i = (c - (i + 1)) + 1 by omega]
  exact if_neg hg
theorem zs_fst_end {g : Nat → Prop} [DecidablePred g] {v : Nat → Int32} {c i : Nat} (h : c ≤ i) : zs_fst g v (c - i) i = -1 := by
  rw [show c - i = 0 by omega]
  rfl
theorem zs_up_cases (g : Nat → Prop) [DecidablePred g] : ∀ q : Nat, (zs_up g q = -1 ∧ ∀ i, i < q → ¬ g i) ∨ ∃ i, i < q ∧ g i ∧ zs_up g q = nI i ∧ ∀ j, i < j → j < q → ¬ g j
  | 0 => Or.inl ⟨rfl, fun _ h => absurd h (Nat.not_lt_zero _)⟩
  | q + 1 => by
    by_cases hg : g q
    · exact Or.inr ⟨q, by omega, hg, if_pos hg, fun j h1 h2 => by omega⟩
    · have e : zs_up g (q + 1) = zs_up g q := if_neg hg
      rw [e]
      rcases zs_up_cases g q with ⟨h1, h2⟩ | ⟨i, h1, h2, h3, h4⟩
      · refine Or.inl ⟨h1, fun i hi => ?_⟩
        by_cases hq : i = q
        · rw [hq]; exact hg
        · exact h2 i (by omega)
      · refine Or.inr ⟨i, by omega, h2, h3, fun j g1 g2 => ?_⟩
        by_cases hq : j = q
        · rw [hq]; exact hg
        · exact h4 j g1 (by omega)
theorem zs_fst_cases (g : Nat → Prop) [DecidablePred g] (v : Nat → Int32) : ∀ (k i : Nat), (zs_fst g v k i = -1 ∧ ∀ j, i ≤ j → j < i + k → ¬ g j) ∨ ∃ j, i ≤ j ∧ j < i + k ∧ g j ∧ zs_fst g v k i = v j ∧ ∀ q, i ≤ q → q < j → ¬ g q
  | 0, _ => Or.inl ⟨rfl, fun _ h1 h2 => by omega⟩
  | k + 1, i => by
    by_cases hg : g i
    · exact Or.inr ⟨i, by omega, by omega, hg, if_pos hg, fun q h1 h2 => by omega⟩
    · have e : zs_fst g v (k + 1) i = zs_fst g v k (i + 1) := if_neg hg
      rw [e]
      rcases zs_fst_cases g v k (i + 1) with ⟨h1, h2⟩ | ⟨j, h1, h2, h3, h4, h5⟩
      · refine Or.inl ⟨h1, fun j g1 g2 => ?_⟩
        by_cases hq : j = i
        · rw [hq]; exact hg
        · exact h2 j (by omega) (by omega)
      · refine Or.inr ⟨j, by omega, by omega, h3, h4, fun q g1 g2 => ?_⟩
        by_cases hq : q = i
        · rw [hq]; exact hg
        · exact h5 q (by omega) g2
/-- the value of a track at a frame f: what its keys tell (K where g), in between by mix -/
def zs_val (mix : Int32 → Int32 → Int32 → Int32 → Int32) (K : Nat → Int32) (up fr f : Int32) : Int32 :=
  if up = -1 then if fr = -1 then 0 else K fr.toNatClampNeg
  else if fr ≤ up then K up.toNatClampNeg else mix (K up.toNatClampNeg) (K fr.toNatClampNeg) (f - up) (fr - up)
def zs_mixR (a b p q : Int32) : Int32 := zs_fmod (a + zs_sw a b * p / q) (nI 360)
def zs_mixC (a b p q : Int32) : Int32 := a + (b - a) * p / q
/-- the places that the frames were told, up to the j-th: the way, whether it has turned -/
def zs_cs (o : Nat → Int32) : Nat → Int32 × Int32
  | 0 => (0, 0)
  | j + 1 => if zs_cmp (o (j + 1)) (o j) = 0 then zs_cs o j else (zs_cmp (o (j + 1)) (o j), if ¬ (zs_cs o j).2 = 0 then 1 else if 0 ≤ (zs_cs o j).1 * zs_cmp (o (j + 1)) (o j) then 0 else 1)
def zs_cam (o : Nat → Int32) (k : Nat) (play : Int32) : Int32 := if (zs_cs o k).2 = 0 then o k else if (zs_cs o k).1 ≤ 0 then o k + play else o k - play
/-- rows q, q + 1 .. (jn of them) have at k what they have ahead of it -/
def zs_cpm (mi : zm_Mi) (q jn k : Nat) : zm_Mi := fun a b => if (q ≤ a ∧ a < q + jn) ∧ b = k then mi a (k - 1) else mi a b
theorem zs_cpm_0 {mi : zm_Mi} {q k : Nat} : zs_cpm mi q 0 k = mi := by
  funext a b
  exact if_neg (by omega)
theorem zs_cpm_s {mi : zm_Mi} {q j k : Nat} (hk : 0 < k) : zm_u2 (zs_cpm mi q j k) (q + j) k (mi (q + j) (k - 1)) = zs_cpm mi q (j + 1) k := by
  funext a b
  unfold zm_u2 zs_cpm
  by_cases h : a = q + j ∧ b = k
  · obtain ⟨rfl, rfl⟩ := h
    rw [if_pos ⟨rfl, rfl⟩, if_pos ⟨⟨by omega, by omega⟩, rfl⟩]
  · rw [if_neg h]
    by_cases h2 : (q ≤ a ∧ a < q + j) ∧ b = k
    · rw [if_pos h2, if_pos ⟨⟨h2.1.1, by omega⟩, h2.2⟩]
    · rw [if_neg h2, if_neg (by omega)]
theorem zs_cpm_r {mi : zm_Mi} {q j k a b : Nat} (h : b ≠ k ∨ a < q ∨ q + j ≤ a) : zs_cpm mi q j k a b = mi a b := if_neg (by omega)
/-! ===== small methods ===== -/
set_option maxRecDepth 20000 in
theorem k_floorMod (x y : Int32) (hy : ¬ y = 0) (sh : zm_Sh) (mi : zm_Mi) (mr : zm_Mr) : zz_Con yJ9_floorMod_7cf53 (.code yJ9_floorMod_7cf53 cJ9_floorMod_7cf53 3 (some Jvm.ClassFile.FieldType.int)) 0 0 0 [.int x, .int y] sh mi mr (zz_q (some (.int (zs_fmod x y))) sh mi mr) zz_none := by
  refine zz_beginF RJ9 [(0, .int x), (1, .int y)] (by decide +kernel) rfl rfl (Nat.le_of_ble_eq_true rfl) rfl ?_
  intro Γ D E ad hX hr hN hT
  refine zz_iload_n hX dJ9_floorMod_7cf53_0 0 rfl rfl ?_
  refine zz_iload_n hX dJ9_floorMod_7cf53_1 1 rfl rfl ?_
  refine zz_irem (z := zs_rem x y) hX dJ9_floorMod_7cf53_2 hy rfl ?_
  refine zz_istore_n (ls' := [(0, .int x), (1, .int y), (2, .int (zs_rem x y))]) hX dJ9_floorMod_7cf53_3 rfl (Nat.le_of_ble_eq_true rfl) rfl ?_
  refine zz_iload_n hX dJ9_floorMod_7cf53_4 0 rfl rfl ?_
  refine zz_iload_n hX dJ9_floorMod_7cf53_5 1 rfl rfl ?_
  refine zz_ixor (z := x ^^^ y) hX dJ9_floorMod_7cf53_6 rfl ?_
  refine zz_if_ge hX 18 dJ9_floorMod_7cf53_7 (by decide) (fun c7 => ?_) (fun c7 => ?_)
  · skip
    refine zz_iload_n hX dJ9_floorMod_7cf53_18 2 rfl rfl ?_
    refine zz_iret hX hr rfl (Nat.le_of_ble_eq_true rfl) (Nat.le_of_ble_eq_true rfl) dJ9_floorMod_7cf53_19 ?_
    exact ⟨by rw [show zs_fmod x y = zs_rem x y from by unfold zs_fmod; first | rw [if_pos c7] | rw [if_neg c7, if_pos c11]], rfl, rfl, rfl⟩
  · skip
    refine zz_iload_n hX dJ9_floorMod_7cf53_10 2 rfl rfl ?_
    refine zz_if_eq hX 18 dJ9_floorMod_7cf53_11 (by decide) (fun c11 => ?_) (fun c11 => ?_)
    · skip
      refine zz_iload_n hX dJ9_floorMod_7cf53_18 2 rfl rfl ?_
      refine zz_iret hX hr rfl (Nat.le_of_ble_eq_true rfl) (Nat.le_of_ble_eq_true rfl) dJ9_floorMod_7cf53_19 ?_
      exact ⟨by rw [show zs_fmod x y = zs_rem x y from by unfold zs_fmod; first | rw [if_pos c7] | rw [if_neg c7, if_pos c11]], rfl, rfl, rfl⟩
    · skip
      refine zz_iload_n hX dJ9_floorMod_7cf53_14 2 rfl rfl ?_
      refine zz_iload_n hX dJ9_floorMod_7cf53_15 1 rfl rfl ?_
      refine zz_iadd (z := (zs_rem x y) + y) hX dJ9_floorMod_7cf53_16 rfl ?_
      refine zz_iret hX hr rfl (Nat.le_of_ble_eq_true rfl) (Nat.le_of_ble_eq_true rfl) dJ9_floorMod_7cf53_17 ?_
      exact ⟨by rw [show zs_fmod x y = zs_rem x y + y from (if_neg c7).trans (if_neg c11)], rfl, rfl, rfl⟩

set_option maxRecDepth 20000 in
theorem k_compare (x y : Int32) (sh : zm_Sh) (mi : zm_Mi) (mr : zm_Mr) : zz_Con yJ6_compare_7cf53 (.code yJ6_compare_7cf53 cJ6_compare_7cf53 2 (some Jvm.ClassFile.FieldType.int)) 0 0 0 [.int x, .int y] sh mi mr (zz_q (some (.int (zs_cmp x y))) sh mi mr) zz_none := by
  refine zz_beginF RJ6 [(0, .int x), (1, .int y)] (by decide +kernel) rfl rfl (Nat.le_of_ble_eq_true rfl) rfl ?_
  intro Γ D E ad hX hr hN hT
  refine zz_iload_n hX dJ6_compare_7cf53_0 0 rfl rfl ?_
  refine zz_iload_n hX dJ6_compare_7cf53_1 1 rfl rfl ?_
  refine zz_icmp_ge hX 9 dJ6_compare_7cf53_2 (by decide) (fun c2 => ?_) (fun c2 => ?_)
  · skip
    refine zz_iload_n hX dJ6_compare_7cf53_9 0 rfl rfl ?_
    refine zz_iload_n hX dJ6_compare_7cf53_10 1 rfl rfl ?_
    refine zz_icmp_ne hX 18 dJ6_compare_7cf53_11 (by decide) (fun c11 => ?_) (fun c11 => ?_)
    · skip
      refine zz_iconst (v := nI 1) hX dJ6_compare_7cf53_18 rfl ?_
      refine zz_iret hX hr rfl (Nat.le_of_ble_eq_true rfl) (Nat.le_of_ble_eq_true rfl) dJ6_compare_7cf53_19 ?_
      exact ⟨by rw [show zs_cmp x y = 1 from (if_pos c2).trans (if_neg c11)]; rfl, rfl, rfl, rfl⟩
    · skip
      refine zz_iconst (v := nI 0) hX dJ6_compare_7cf53_14 rfl ?_
      refine zz_goto hX 19 dJ6_compare_7cf53_15 (by decide) ?_
      refine zz_iret hX hr rfl (Nat.le_of_ble_eq_true rfl) (Nat.le_of_ble_eq_true rfl) dJ6_compare_7cf53_19 ?_
      exact ⟨by rw [show zs_cmp x y = 0 from (if_pos c2).trans (if_pos c11)]; rfl, rfl, rfl, rfl⟩
  · skip
    refine zz_iconst (v := (-1)) hX dJ6_compare_7cf53_5 rfl ?_
    refine zz_goto hX 19 dJ6_compare_7cf53_6 (by decide) ?_
    refine zz_iret hX hr rfl (Nat.le_of_ble_eq_true rfl) (Nat.le_of_ble_eq_true rfl) dJ6_compare_7cf53_19 ?_
    exact ⟨by rw [show zs_cmp x y = -1 from if_neg c2], rfl, rfl, rfl⟩

set_option maxRecDepth 20000 in
theorem k_shorterWay (a b : Int32) (sh : zm_Sh) (mi : zm_Mi) (mr : zm_Mr) : zz_Con yX5_shorterWay (.code yX5_shorterWay cX5_shorterWay 3 (some Jvm.ClassFile.FieldType.int)) 1 0 0 [.int a, .int b] sh mi mr (zz_q (some (.int (zs_sw a b))) sh mi mr) zz_none := by
  refine zz_begin RX5 [(0, .int a), (1, .int b)] (by decide) rfl rfl (Nat.le_of_ble_eq_true rfl) rfl ?_
  intro Γ D E ad hX hr hN hT
  refine zz_iload_n hX dX5_shorterWay_0 1 rfl rfl ?_
  refine zz_iload_n hX dX5_shorterWay_1 0 rfl rfl ?_
  refine zz_isub (z := b - a) hX dX5_shorterWay_2 rfl ?_
  refine zz_sipush (v := nI 360) hX dX5_shorterWay_3 rfl ?_
  refine zz_sI (x := zs_fmod (b - a) (nI 360)) hX zf_M_X5_344 (As := [.int (b - a), .int (nI 360)]) (st := []) (k_floorMod (b - a) (nI 360) (by decide) sh mi mr) rfl rfl (by decide) (Nat.le_of_ble_eq_true rfl) (Nat.le_of_ble_eq_true rfl) (Nat.le_of_ble_eq_true rfl) dX5_shorterWay_6 ?_
  refine zz_istore_n (ls' := [(0, .int a), (1, .int b), (2, .int (zs_fmod (b - a) (nI 360)))]) hX dX5_shorterWay_9 rfl (Nat.le_of_ble_eq_true rfl) rfl ?_
  refine zz_iload_n hX dX5_shorterWay_10 2 rfl rfl ?_
  refine zz_sipush (v := nI 180) hX dX5_shorterWay_11 rfl ?_
  refine zz_icmp_le hX 25 dX5_shorterWay_14 (by decide) (fun c14 => ?_) (fun c14 => ?_)
  · skip
    refine zz_iload_n hX dX5_shorterWay_25 2 rfl rfl ?_
    refine zz_iret hX hr rfl (Nat.le_of_ble_eq_true rfl) (Nat.le_of_ble_eq_true rfl) dX5_shorterWay_26 ?_
    exact ⟨by rw [show zs_sw a b = _ from if_pos c14], rfl, rfl, rfl⟩
  · skip
    refine zz_iload_n hX dX5_shorterWay_17 2 rfl rfl ?_
    refine zz_sipush (v := nI 360) hX dX5_shorterWay_18 rfl ?_
    refine zz_isub (z := (zs_fmod (b - a) (nI 360)) - (nI 360)) hX dX5_shorterWay_21 rfl ?_
    refine zz_goto hX 26 dX5_shorterWay_22 (by decide) ?_
    refine zz_iret hX hr rfl (Nat.le_of_ble_eq_true rfl) (Nat.le_of_ble_eq_true rfl) dX5_shorterWay_26 ?_
    exact ⟨by rw [show zs_sw a b = _ from if_neg c14], rfl, rfl, rfl⟩

set_option maxRecDepth 20000 in
theorem k_needRange (v a b : Int32) (sh : zm_Sh) (mi : zm_Mi) (mr : zm_Mr) : zz_Con yX5_needRange (.code yX5_needRange cX5_needRange 3 none) 8 1 6 [.int v, .int a, .int b] sh mi mr (zz_ck (a ≤ v ∧ v ≤ b) none sh mi mr) (zz_ex (¬ (a ≤ v ∧ v ≤ b)) "java/lang/IllegalArgumentException" sh mi mr) := by
  refine zz_begin RX5 [(0, .int v), (1, .int a), (2, .int b)] (by decide) rfl rfl (Nat.le_of_ble_eq_true rfl) rfl ?_
  intro Γ D E ad hX hr hN hT
  refine zz_iload_n hX dX5_needRange_0 0 rfl rfl ?_
  refine zz_iload_n hX dX5_needRange_1 1 rfl rfl ?_
  refine zz_icmp_lt hX 10 dX5_needRange_2 (by decide) (fun c2 => ?_) (fun c2 => ?_)
  · skip
    refine zz_throwW hX hT zf_T_X5_278 dX5_needRange_10 dX5_needRange_13 dX5_needRange_14 dX5_needRange_17 dX5_needRange_20 (by decide) (Nat.le_of_ble_eq_true rfl) (Nat.le_of_ble_eq_true rfl) (Nat.le_of_ble_eq_true rfl) ?_
    exact ⟨by rw [zs_le, zs_le]; first | (rw [zs_lt] at c2; omega) | (rw [zs_le] at c7; omega), rfl, rfl, rfl, rfl⟩
  · skip
    refine zz_iload_n hX dX5_needRange_5 0 rfl rfl ?_
    refine zz_iload_n hX dX5_needRange_6 2 rfl rfl ?_
    refine zz_icmp_le hX 21 dX5_needRange_7 (by decide) (fun c7 => ?_) (fun c7 => ?_)
    · skip
      refine zz_vret hX hr (Nat.le_of_ble_eq_true rfl) (Nat.le_of_ble_eq_true rfl) dX5_needRange_21 ?_
      exact ⟨by rw [zs_le, zs_le]; rw [zs_lt] at c2; rw [zs_le] at c7; omega, rfl, rfl, rfl, rfl⟩
    · skip
      refine zz_throwW hX hT zf_T_X5_278 dX5_needRange_10 dX5_needRange_13 dX5_needRange_14 dX5_needRange_17 dX5_needRange_20 (by decide) (Nat.le_of_ble_eq_true rfl) (Nat.le_of_ble_eq_true rfl) (Nat.le_of_ble_eq_true rfl) ?_
      exact ⟨by rw [zs_le, zs_le]; first | (rw [zs_lt] at c2; omega) | (rw [zs_le] at c7; omega), rfl, rfl, rfl, rfl⟩

set_option maxRecDepth 20000 in
theorem k_turn (sh : zm_Sh) (mi : zm_Mi) (mr : zm_Mr) (t w s : Nat) (jn : Nat) (hj9 : jn ≤ 6) (ht : sh t = some (0, 0)) (hw : mr t 2 = some w) (hs : mr t 1 = some s) (hsw : sh w = some (1, jn)) (hss : sh s = some (1, jn)) (hne : s ≠ w) (j : Nat) (hj : j < jn) (v : Int32) : zz_Con yX0_turn (.code yX0_turn cX0_turn 3 none) 2 0 0 [.ref t, .int (nI j), .int v] sh mi mr (zz_q (none) sh (zm_u2 (zm_u2 mi w j (mi w j + zs_abs (zs_sw (mi s j) v))) s j v) mr) zz_none := by
  refine zz_begin RX0 [(0, .ref t), (1, .int (nI j)), (2, .int v)] (by decide) rfl rfl (Nat.le_of_ble_eq_true rfl) rfl ?_
  intro Γ D E ad hX hr hN hT
  refine zz_aload_n hX dX0_turn_0 0 rfl rfl ?_
  refine zz_getR (y := w) hX zf_F_X0_22.r ht rfl hw dX0_turn_1 ?_
  refine zz_iload_n hX dX0_turn_4 1 rfl rfl ?_
  refine zz_dup2 hX dX0_turn_5 rfl rfl ?_
  refine zz_iald (x := mi w j) hX hsw j rfl (by omega) (by omega) rfl dX0_turn_6 ?_
  refine zz_aload_n hX dX0_turn_7 0 rfl rfl ?_
  refine zz_getR (y := s) hX zf_F_X0_19.r ht rfl hs dX0_turn_8 ?_
  refine zz_iload_n hX dX0_turn_11 1 rfl rfl ?_
  refine zz_iald (x := mi s j) hX hss j rfl (by omega) (by omega) rfl dX0_turn_12 ?_
  refine zz_iload_n hX dX0_turn_13 2 rfl rfl ?_
  refine zz_snI (x := zs_sw (mi s j) v) hX zf_M_X0_25 (As := [.int (mi s j), .int v]) (st := [.int (mi w j), .int (nI j), .ref w]) (k_shorterWay (mi s j) v sh mi mr) rfl rfl (by decide) (Nat.le_of_ble_eq_true rfl) (Nat.le_of_ble_eq_true rfl) (Nat.le_of_ble_eq_true rfl) dX0_turn_14 ?_
  refine zz_abs (z := zs_abs (zs_sw (mi s j) v)) hX zf_M_X0_29 zw_abss zw_mi zw_absc (by decide) (Nat.le_of_ble_eq_true rfl) (Nat.le_of_ble_eq_true rfl) (Nat.le_of_ble_eq_true rfl) rfl dX0_turn_17 ?_
  refine zz_iadd (z := (mi w j) + (zs_abs (zs_sw (mi s j) v))) hX dX0_turn_20 rfl ?_
  refine zz_iast hX hsw j rfl (by omega) (by omega) dX0_turn_21 ?_
  refine zz_aload_n hX dX0_turn_22 0 rfl rfl ?_
  refine zz_getR (y := s) hX zf_F_X0_19.r ht rfl hs dX0_turn_23 ?_
  refine zz_iload_n hX dX0_turn_26 1 rfl rfl ?_
  refine zz_iload_n hX dX0_turn_27 2 rfl rfl ?_
  refine zz_iast hX hss j rfl (by omega) (by omega) dX0_turn_28 ?_
  refine zz_vret hX hr (Nat.le_of_ble_eq_true rfl) (Nat.le_of_ble_eq_true rfl) dX0_turn_29 ?_
  exact ⟨rfl, rfl, rfl, rfl⟩

set_option maxRecDepth 20000 in
theorem k_isBroken (sh : zm_Sh) (mi : zm_Mi) (mr : zm_Mr) (t w s : Nat) (jn : Nat) (hj9 : jn ≤ 6) (ht : sh t = some (0, 0)) (hw : mr t 2 = some w) (hs : mr t 1 = some s) (hsw : sh w = some (1, jn)) (hss : sh s = some (1, jn)) (hjn : mi t 0 = nI jn) : zz_Con yX0_isBroken (.code yX0_isBroken cX0_isBroken 2 (some Jvm.ClassFile.FieldType.boolean)) 0 0 0 [.ref t] sh mi mr (zz_q (some (.int (zz_bi (zs_any (fun i => nI 1000 ≤ mi w i) jn = true)))) sh mi mr) zz_none := by
  refine zz_begin RX0 [(0, .ref t)] (by decide) rfl rfl (Nat.le_of_ble_eq_true rfl) rfl ?_
  intro Γ D E ad hX hr hN hT
  refine zz_iconst (v := nI 0) hX dX0_isBroken_0 rfl ?_
  refine zz_istore_n (ls' := [(0, .ref t), (1, .int (nI 0))]) hX dX0_isBroken_1 rfl (Nat.le_of_ble_eq_true rfl) rfl ?_
  have L2 : ∀ (k2 : Nat) (i : Nat), jn - i < k2 → (i ≤ jn) → (∀ q, q < i → ¬ nI 1000 ≤ mi w q) → zz Γ (D, E, 2, ad, sh) (zz_End Γ (D, E, 2, ad, sh) (zz_q (some (.int (zz_bi (zs_any (fun i => nI 1000 ≤ mi w i) jn = true)))) sh mi mr) zz_none 0 0) 0 0 sh mi mr 2 [(0, .ref t), (1, .int (nI i))] [] := by
    intro k2
    induction k2 with
    | zero => intro i hk2; exact absurd hk2 (Nat.not_lt_zero _)
    | succ k2 ih2 =>
      intro i hk2 hi hall
      refine zz_iload_n hX dX0_isBroken_2 1 rfl rfl ?_
      refine zz_aload_n hX dX0_isBroken_3 0 rfl rfl ?_
      refine zz_getI (x := nI jn) hX zf_F_X0_15.r ht rfl (hjn) dX0_isBroken_4 ?_
      refine zz_icmp_geN hX (by omega) (by omega) 30 dX0_isBroken_7 (by decide) (fun c7 => ?_) (fun c7 => ?_)
      · skip
        refine zz_iconst (v := nI 0) hX dX0_isBroken_30 rfl ?_
        refine zz_iret hX hr rfl (Nat.le_of_ble_eq_true rfl) (Nat.le_of_ble_eq_true rfl) dX0_isBroken_31 ?_
        exact ⟨by rw [zz_bi_f (fun h => by obtain ⟨q, h1, h2⟩ := (zs_any_iff _).mp h; exact hall q (by omega) h2)]; rfl, rfl, rfl, rfl⟩
      · skip
        refine zz_aload_n hX dX0_isBroken_10 0 rfl rfl ?_
        refine zz_getR (y := w) hX zf_F_X0_22.r ht rfl hw dX0_isBroken_11 ?_
        refine zz_iload_n hX dX0_isBroken_14 1 rfl rfl ?_
        refine zz_iald (x := mi w i) hX hsw i rfl (by omega) (by omega) rfl dX0_isBroken_15 ?_
        refine zz_sipush (v := nI 1000) hX dX0_isBroken_16 rfl ?_
        refine zz_icmp_lt hX 24 dX0_isBroken_19 (by decide) (fun c19 => ?_) (fun c19 => ?_)
        · skip
          refine zz_iinc (v := nI (i + 1)) (ls' := [(0, .ref t), (1, .int (nI (i + 1)))]) hX dX0_isBroken_24 1 rfl (nI_1 _) (Nat.le_of_ble_eq_true rfl) rfl ?_
          refine zz_goto hX 2 dX0_isBroken_27 (by decide) ?_
          exact ih2 (i + 1) (by omega) (by omega) (fun q hq => by
            by_cases e : q = i
            · rw [e, Int32.le_iff_toInt_le]; rw [Int32.lt_iff_toInt_lt] at c19; omega
            · exact hall q (by omega))
        · skip
          refine zz_iconst (v := nI 1) hX dX0_isBroken_22 rfl ?_
          refine zz_iret hX hr rfl (Nat.le_of_ble_eq_true rfl) (Nat.le_of_ble_eq_true rfl) dX0_isBroken_23 ?_
          exact ⟨by rw [zz_bi_t ((zs_any_iff _).mpr ⟨i, c7, zs_nlt c19⟩)]; rfl, rfl, rfl, rfl⟩
  exact L2 ((jn - 0 + 1)) 0 (by omega) (Nat.zero_le _) (fun q hq => absurd hq (Nat.not_lt_zero _))

set_option maxRecDepth 20000 in
theorem k_add (sh : zm_Sh) (mi : zm_Mi) (mr : zm_Mr) (t a b : Nat) (c : Nat) (ht : sh t = some (0, 4)) (ha : mr t 0 = some a) (hb : mr t 1 = some b) (hsa : sh a = some (1, 12)) (hsb : sh b = some (1, 12)) (hc : mi t 2 = nI c) (hab : a ≠ b) (hta : t ≠ a) (htb : t ≠ b) (hc12 : c < 12) (x f : Int32) : zz_Con yX4_add (.code yX4_add cX4_add 3 none) 0 0 0 [.ref t, .int x, .int f] sh mi mr (zz_q (none) sh (zm_u2 (zm_u2 (zm_u2 mi a c x) b c (if c = 0 then f else mi b (c - 1) + f)) t 2 (nI (c + 1))) mr) zz_none := by
  refine zz_begin RX4 [(0, .ref t), (1, .int x), (2, .int f)] (by decide) rfl rfl (Nat.le_of_ble_eq_true rfl) rfl ?_
  intro Γ D E ad hX hr hN hT
  refine zz_aload_n hX dX4_add_0 0 rfl rfl ?_
  refine zz_getR (y := a) hX zf_F_X4_9.r ht rfl ha dX4_add_1 ?_
  refine zz_aload_n hX dX4_add_4 0 rfl rfl ?_
  refine zz_getI (x := nI c) hX zf_F_X4_18.r ht rfl (hc) dX4_add_5 ?_
  refine zz_iload_n hX dX4_add_8 1 rfl rfl ?_
  refine zz_iast hX hsa c rfl (by omega) (by decide) dX4_add_9 ?_
  refine zz_aload_n hX dX4_add_10 0 rfl rfl ?_
  refine zz_getR (y := b) hX zf_F_X4_15.r ht rfl hb dX4_add_11 ?_
  refine zz_aload_n hX dX4_add_14 0 rfl rfl ?_
  refine zz_getI (x := nI c) hX zf_F_X4_18.r ht rfl ((zm_u2l hta).trans (hc)) dX4_add_15 ?_
  refine zz_aload_n hX dX4_add_18 0 rfl rfl ?_
  refine zz_getI (x := nI c) hX zf_F_X4_18.r ht rfl ((zm_u2l hta).trans (hc)) dX4_add_19 ?_
  refine zz_if_neN hX (by omega) 29 dX4_add_22 (by decide) (fun c22 => ?_) (fun c22 => ?_)
  · skip
    refine zz_aload_n hX dX4_add_29 0 rfl rfl ?_
    refine zz_getR (y := b) hX zf_F_X4_15.r ht rfl hb dX4_add_30 ?_
    refine zz_aload_n hX dX4_add_33 0 rfl rfl ?_
    refine zz_getI (x := nI c) hX zf_F_X4_18.r ht rfl ((zm_u2l hta).trans (hc)) dX4_add_34 ?_
    refine zz_iconst (v := nI 1) hX dX4_add_37 rfl ?_
    refine zz_isub (z := nI (c - 1)) hX dX4_add_38 (pk_sub (by omega)) ?_
    refine zz_iald (x := mi b (c - 1)) hX hsb (c - 1) rfl (by omega) (by decide) (zm_u2l hab.symm) dX4_add_39 ?_
    refine zz_iload_n hX dX4_add_40 2 rfl rfl ?_
    refine zz_iadd (z := (mi b (c - 1)) + f) hX dX4_add_41 rfl ?_
    refine zz_iast hX hsb c rfl (by omega) (by decide) dX4_add_42 ?_
    refine zz_aload_n hX dX4_add_43 0 rfl rfl ?_
    refine zz_dup hX dX4_add_44 rfl ?_
    refine zz_getI (x := nI c) hX zf_F_X4_18.r ht rfl ((zm_u2l htb).trans ((zm_u2l hta).trans (hc))) dX4_add_45 ?_
    refine zz_iconst (v := nI 1) hX dX4_add_48 rfl ?_
    refine zz_iadd (z := nI (c + 1)) hX dX4_add_49 (nI_add _ _) ?_
    refine zz_putI hX zf_F_X4_18 ht rfl rfl rfl dX4_add_50 ?_
    refine zz_vret hX hr (Nat.le_of_ble_eq_true rfl) (Nat.le_of_ble_eq_true rfl) dX4_add_53 ?_
    exact ⟨rfl, rfl, by rw [if_neg c22], rfl⟩
  · skip
    refine zz_iload_n hX dX4_add_25 2 rfl rfl ?_
    refine zz_goto hX 42 dX4_add_26 (by decide) ?_
    refine zz_iast hX hsb c rfl (by omega) (by decide) dX4_add_42 ?_
    refine zz_aload_n hX dX4_add_43 0 rfl rfl ?_
    refine zz_dup hX dX4_add_44 rfl ?_
    refine zz_getI (x := nI c) hX zf_F_X4_18.r ht rfl ((zm_u2l htb).trans ((zm_u2l hta).trans (hc))) dX4_add_45 ?_
    refine zz_iconst (v := nI 1) hX dX4_add_48 rfl ?_
    refine zz_iadd (z := nI (c + 1)) hX dX4_add_49 (nI_add _ _) ?_
    refine zz_putI hX zf_F_X4_18 ht rfl rfl rfl dX4_add_50 ?_
    refine zz_vret hX hr (Nat.le_of_ble_eq_true rfl) (Nat.le_of_ble_eq_true rfl) dX4_add_53 ?_
    exact ⟨rfl, rfl, by rw [if_pos c22], rfl⟩

set_option maxRecDepth 20000 in
theorem k_soundAt (sh : zm_Sh) (mi : zm_Mi) (mr : zm_Mr) (t a b : Nat) (c : Nat) (ht : sh t = some (0, 4)) (ha : mr t 0 = some a) (hb : mr t 1 = some b) (hsa : sh a = some (1, 12)) (hsb : sh b = some (1, 12)) (hc : mi t 2 = nI c) (hc12 : c ≤ 12) (f : Int32) : zz_Con yX4_soundAt (.code yX4_soundAt cX4_soundAt 3 (some Jvm.ClassFile.FieldType.int)) 0 0 0 [.ref t, .int f] sh mi mr (zz_q (some (.int (zs_fst (fun i => f < mi b i) (mi a) c 0))) sh mi mr) zz_none := by
  refine zz_begin RX4 [(0, .ref t), (1, .int f)] (by decide) rfl rfl (Nat.le_of_ble_eq_true rfl) rfl ?_
  intro Γ D E ad hX hr hN hT
  refine zz_iconst (v := nI 0) hX dX4_soundAt_0 rfl ?_
  refine zz_istore_n (ls' := [(0, .ref t), (1, .int f), (2, .int (nI 0))]) hX dX4_soundAt_1 rfl (Nat.le_of_ble_eq_true rfl) rfl ?_
  have L2 : ∀ (k2 : Nat) (i : Nat), c - i < k2 → (i ≤ c) → (zs_fst (fun i => f < mi b i) (mi a) c 0 = zs_fst (fun i => f < mi b i) (mi a) (c - i) i) → zz Γ (D, E, 3, ad, sh) (zz_End Γ (D, E, 3, ad, sh) (zz_q (some (.int (zs_fst (fun i => f < mi b i) (mi a) c 0))) sh mi mr) zz_none 0 0) 0 0 sh mi mr 2 [(0, .ref t), (1, .int f), (2, .int (nI i))] [] := by
    intro k2
    induction k2 with
    | zero => intro i hk2; exact absurd hk2 (Nat.not_lt_zero _)
    | succ k2 ih2 =>
      intro i hk2 hi hv
      refine zz_iload_n hX dX4_soundAt_2 2 rfl rfl ?_
      refine zz_aload_n hX dX4_soundAt_3 0 rfl rfl ?_
      refine zz_getI (x := nI c) hX zf_F_X4_18.r ht rfl (hc) dX4_soundAt_4 ?_
      refine zz_icmp_geN hX (by omega) (by omega) 33 dX4_soundAt_7 (by decide) (fun c7 => ?_) (fun c7 => ?_)
      · skip
        refine zz_iconst (v := (-1)) hX dX4_soundAt_33 rfl ?_
        refine zz_iret hX hr rfl (Nat.le_of_ble_eq_true rfl) (Nat.le_of_ble_eq_true rfl) dX4_soundAt_34 ?_
        exact ⟨by rw [hv, zs_fst_end c7], rfl, rfl, rfl⟩
      · skip
        refine zz_iload_n hX dX4_soundAt_10 1 rfl rfl ?_
        refine zz_aload_n hX dX4_soundAt_11 0 rfl rfl ?_
        refine zz_getR (y := b) hX zf_F_X4_15.r ht rfl hb dX4_soundAt_12 ?_
        refine zz_iload_n hX dX4_soundAt_15 2 rfl rfl ?_
        refine zz_iald (x := mi b i) hX hsb i rfl (by omega) (by decide) rfl dX4_soundAt_16 ?_
        refine zz_icmp_ge hX 27 dX4_soundAt_17 (by decide) (fun c17 => ?_) (fun c17 => ?_)
        · skip
          refine zz_iinc (v := nI (i + 1)) (ls' := [(0, .ref t), (1, .int f), (2, .int (nI (i + 1)))]) hX dX4_soundAt_27 2 rfl (nI_1 _) (Nat.le_of_ble_eq_true rfl) rfl ?_
          refine zz_goto hX 2 dX4_soundAt_30 (by decide) ?_
          exact ih2 (i + 1) (by omega) (by omega) (by rw [hv, zs_fst_step c7 (fun h => absurd h (by rw [zs_lt]; rw [zs_le] at c17; omega))])
        · skip
          refine zz_aload_n hX dX4_soundAt_20 0 rfl rfl ?_
          refine zz_getR (y := a) hX zf_F_X4_9.r ht rfl ha dX4_soundAt_21 ?_
          refine zz_iload_n hX dX4_soundAt_24 2 rfl rfl ?_
          refine zz_iald (x := mi a i) hX hsa i rfl (by omega) (by decide) rfl dX4_soundAt_25 ?_
          refine zz_iret hX hr rfl (Nat.le_of_ble_eq_true rfl) (Nat.le_of_ble_eq_true rfl) dX4_soundAt_26 ?_
          exact ⟨by rw [hv, zs_fst_hit c7 (zs_nle c17)], rfl, rfl, rfl⟩
  exact L2 ((c - 0 + 1)) 0 (by omega) (Nat.zero_le _) rfl

set_option maxRecDepth 20000 in
theorem k_tell (sh : zm_Sh) (mi : zm_Mi) (mr : zm_Mr) (t v w : Nat) (n : Nat) (hn48 : n ≤ 48) (ht : sh t = some (0, 3)) (hv : mr t 1 = some v) (hw : mr t 2 = some w) (hsv : sh v = some (1, n)) (hsw : sh w = some (2, n)) (f : Nat) (hf : f < n) (x : Int32) : zz_Con yX3_tell (.code yX3_tell cX3_tell 3 none) 0 0 0 [.ref t, .int (nI f), .int x] sh mi mr (zz_q (none) sh (zm_u2 (zm_u2 mi v f x) w f (nI 1)) mr) zz_none := by
  refine zz_begin RX3 [(0, .ref t), (1, .int (nI f)), (2, .int x)] (by decide) rfl rfl (Nat.le_of_ble_eq_true rfl) rfl ?_
  intro Γ D E ad hX hr hN hT
  refine zz_aload_n hX dX3_tell_0 0 rfl rfl ?_
  refine zz_getR (y := v) hX zf_F_X3_15.r ht rfl hv dX3_tell_1 ?_
  refine zz_iload_n hX dX3_tell_4 1 rfl rfl ?_
  refine zz_iload_n hX dX3_tell_5 2 rfl rfl ?_
  refine zz_iast hX hsv f rfl (by omega) (by omega) dX3_tell_6 ?_
  refine zz_aload_n hX dX3_tell_7 0 rfl rfl ?_
  refine zz_getR (y := w) hX zf_F_X3_19.r ht rfl hw dX3_tell_8 ?_
  refine zz_iload_n hX dX3_tell_11 1 rfl rfl ?_
  refine zz_iconst (v := nI 1) hX dX3_tell_12 rfl ?_
  refine zz_bast hX hsw f rfl (by omega) (by omega) rfl dX3_tell_13 ?_
  refine zz_vret hX hr (Nat.le_of_ble_eq_true rfl) (Nat.le_of_ble_eq_true rfl) dX3_tell_14 ?_
  exact ⟨rfl, rfl, rfl, rfl⟩

set_option maxRecDepth 20000 in
theorem k_keyUpTo (sh : zm_Sh) (mi : zm_Mi) (mr : zm_Mr) (t v w : Nat) (n : Nat) (hn48 : n ≤ 48) (ht : sh t = some (0, 3)) (hv : mr t 1 = some v) (hw : mr t 2 = some w) (hsv : sh v = some (1, n)) (hsw : sh w = some (2, n)) (f : Nat) (hf : f < n) : zz_Con yX3_keyUpTo (.code yX3_keyUpTo cX3_keyUpTo 3 (some Jvm.ClassFile.FieldType.int)) 0 0 0 [.ref t, .int (nI f)] sh mi mr (zz_q (some (.int (zs_up (fun i => ¬ mi w i = 0) (f + 1)))) sh mi mr) zz_none := by
  refine zz_begin RX3 [(0, .ref t), (1, .int (nI f))] (by decide) rfl rfl (Nat.le_of_ble_eq_true rfl) rfl ?_
  intro Γ D E ad hX hr hN hT
  refine zz_iload_n hX dX3_keyUpTo_0 1 rfl rfl ?_
  refine zz_istore_n (ls' := [(0, .ref t), (1, .int (nI f)), (2, .int (nI f))]) hX dX3_keyUpTo_1 rfl (Nat.le_of_ble_eq_true rfl) rfl ?_
  have L2 : ∀ q : Nat, q ≤ n → zs_up (fun i => ¬ mi w i = 0) (f + 1) = zs_up (fun i => ¬ mi w i = 0) q → zz Γ (D, E, 3, ad, sh) (zz_End Γ (D, E, 3, ad, sh) (zz_q (some (.int (zs_up (fun i => ¬ mi w i = 0) (f + 1)))) sh mi mr) zz_none 0 0) 0 0 sh mi mr 2 [(0, .ref t), (1, .int (nI f)), (2, .int (nI q + (-1)))] [] := by
    intro q
    induction q with
    | zero =>
      intro _ hq
      refine zz_lcl (ls' := [(0, .ref t), (1, .int (nI f)), (2, .int (-1))]) rfl ?_
      refine zz_iload_n hX dX3_keyUpTo_2 2 rfl rfl ?_
      refine zz_if_lt hX 23 dX3_keyUpTo_3 (by decide) (fun _ => ?_) (fun c => absurd c (by decide))
      refine zz_iconst (v := (-1)) hX dX3_keyUpTo_23 rfl ?_
      refine zz_iret hX hr rfl (Nat.le_of_ble_eq_true rfl) (Nat.le_of_ble_eq_true rfl) dX3_keyUpTo_24 ?_
      exact ⟨by rw [hq]; rfl, rfl, rfl, rfl⟩
    | succ i ih =>
      intro hi hq
      refine zz_lcl (ls' := [(0, .ref t), (1, .int (nI f)), (2, .int (nI i))]) (by rw [pk_m1]) ?_
      refine zz_iload_n hX dX3_keyUpTo_2 2 rfl rfl ?_
      refine zz_if_lt hX 23 dX3_keyUpTo_3 (by decide) (fun c3 => absurd c3 (nI_pos (by omega))) (fun c3 => ?_)
      refine zz_aload_n hX dX3_keyUpTo_6 0 rfl rfl ?_
      refine zz_getR (y := w) hX zf_F_X3_19.r ht rfl hw dX3_keyUpTo_7 ?_
      refine zz_iload_n hX dX3_keyUpTo_10 2 rfl rfl ?_
      refine zz_bald (x := mi w i) hX hsw i rfl (by omega) (by omega) rfl dX3_keyUpTo_11 ?_
      refine zz_if_eq hX 17 dX3_keyUpTo_12 (by decide) (fun c12 => ?_) (fun c12 => ?_)
      · skip
        refine zz_iinc (v := nI i + -1) (ls' := [(0, .ref t), (1, .int (nI f)), (2, .int (nI i + -1))]) hX dX3_keyUpTo_17 2 rfl rfl (Nat.le_of_ble_eq_true rfl) rfl ?_
        refine zz_goto hX 2 dX3_keyUpTo_20 (by decide) ?_
        exact ih (by omega) (hq.trans (if_neg (fun h => h c12)))
      · skip
        refine zz_iload_n hX dX3_keyUpTo_15 2 rfl rfl ?_
        refine zz_iret hX hr rfl (Nat.le_of_ble_eq_true rfl) (Nat.le_of_ble_eq_true rfl) dX3_keyUpTo_16 ?_
        exact ⟨by rw [hq]; exact congrArg (fun z => some (Value.int z)) (if_pos c12).symm, rfl, rfl, rfl⟩
  refine zz_lcl (ls' := [(0, .ref t), (1, .int (nI f)), (2, .int (nI (f + 1) + (-1)))]) (by rw [pk_m1]) ?_
  exact L2 (f + 1) (by omega) rfl

set_option maxRecDepth 20000 in
theorem k_keyFrom (sh : zm_Sh) (mi : zm_Mi) (mr : zm_Mr) (t v w : Nat) (n : Nat) (hn48 : n ≤ 48) (ht : sh t = some (0, 3)) (hv : mr t 1 = some v) (hw : mr t 2 = some w) (hsv : sh v = some (1, n)) (hsw : sh w = some (2, n)) (f : Nat) (hf : f < n) : zz_Con yX3_keyFrom (.code yX3_keyFrom cX3_keyFrom 3 (some Jvm.ClassFile.FieldType.int)) 0 0 0 [.ref t, .int (nI f)] sh mi mr (zz_q (some (.int (zs_fst (fun i => ¬ mi w i = 0) nI (n - f) f))) sh mi mr) zz_none := by
  refine zz_begin RX3 [(0, .ref t), (1, .int (nI f))] (by decide) rfl rfl (Nat.le_of_ble_eq_true rfl) rfl ?_
  intro Γ D E ad hX hr hN hT
  refine zz_iload_n hX dX3_keyFrom_0 1 rfl rfl ?_
  refine zz_istore_n (ls' := [(0, .ref t), (1, .int (nI f)), (2, .int (nI f))]) hX dX3_keyFrom_1 rfl (Nat.le_of_ble_eq_true rfl) rfl ?_
  have L2 : ∀ (k2 : Nat) (i : Nat), n - i < k2 → (i ≤ n) → (zs_fst (fun i => ¬ mi w i = 0) nI (n - f) f = zs_fst (fun i => ¬ mi w i = 0) nI (n - i) i) → zz Γ (D, E, 3, ad, sh) (zz_End Γ (D, E, 3, ad, sh) (zz_q (some (.int (zs_fst (fun i => ¬ mi w i = 0) nI (n - f) f))) sh mi mr) zz_none 0 0) 0 0 sh mi mr 2 [(0, .ref t), (1, .int (nI f)), (2, .int (nI i))] [] := by
    intro k2
    induction k2 with
    | zero => intro i hk2; exact absurd hk2 (Nat.not_lt_zero _)
    | succ k2 ih2 =>
      intro i hk2 hi hq
      refine zz_iload_n hX dX3_keyFrom_2 2 rfl rfl ?_
      refine zz_aload_n hX dX3_keyFrom_3 0 rfl rfl ?_
      refine zz_getR (y := w) hX zf_F_X3_19.r ht rfl hw dX3_keyFrom_4 ?_
      refine zz_alen hX hsw (by decide) (by decide) dX3_keyFrom_7 ?_
      refine zz_icmp_geN hX (by omega) (by omega) 28 dX3_keyFrom_8 (by decide) (fun c8 => ?_) (fun c8 => ?_)
      · skip
        refine zz_iconst (v := (-1)) hX dX3_keyFrom_28 rfl ?_
        refine zz_iret hX hr rfl (Nat.le_of_ble_eq_true rfl) (Nat.le_of_ble_eq_true rfl) dX3_keyFrom_29 ?_
        exact ⟨by rw [hq, zs_fst_end c8], rfl, rfl, rfl⟩
      · skip
        refine zz_aload_n hX dX3_keyFrom_11 0 rfl rfl ?_
        refine zz_getR (y := w) hX zf_F_X3_19.r ht rfl hw dX3_keyFrom_12 ?_
        refine zz_iload_n hX dX3_keyFrom_15 2 rfl rfl ?_
        refine zz_bald (x := mi w i) hX hsw i rfl (by omega) (by omega) rfl dX3_keyFrom_16 ?_
        refine zz_if_eq hX 22 dX3_keyFrom_17 (by decide) (fun c17 => ?_) (fun c17 => ?_)
        · skip
          refine zz_iinc (v := nI (i + 1)) (ls' := [(0, .ref t), (1, .int (nI f)), (2, .int (nI (i + 1)))]) hX dX3_keyFrom_22 2 rfl (nI_1 _) (Nat.le_of_ble_eq_true rfl) rfl ?_
          refine zz_goto hX 2 dX3_keyFrom_25 (by decide) ?_
          exact ih2 (i + 1) (by omega) (by omega) (hq.trans (zs_fst_step c8 (fun h => h c17)))
        · skip
          refine zz_iload_n hX dX3_keyFrom_20 2 rfl rfl ?_
          refine zz_iret hX hr rfl (Nat.le_of_ble_eq_true rfl) (Nat.le_of_ble_eq_true rfl) dX3_keyFrom_21 ?_
          exact ⟨by rw [hq, zs_fst_hit (g := (fun i => ¬ mi w i = 0)) c8 c17], rfl, rfl, rfl⟩
  exact L2 ((n - f + 1)) f (by omega) (by omega) rfl

set_option maxRecDepth 20000 in
theorem k_betweenR (sh : zm_Sh) (mi : zm_Mi) (mr : zm_Mr) (t v w : Nat) (n : Nat) (hn48 : n ≤ 48) (ht : sh t = some (0, 3)) (hv : mr t 1 = some v) (hw : mr t 2 = some w) (hsv : sh v = some (1, n)) (hsw : sh w = some (2, n)) (hr0 : mi t 0 = nI 1) (f i j : Nat) (hij : i < j) (hj : j < n) (hif : i ≤ f) : zz_Con yX3_between (.code yX3_between cX3_between 7 (some Jvm.ClassFile.FieldType.int)) 2 0 0 [.ref t, .int (nI i), .int (nI j), .int (nI f)] sh mi mr (zz_q (some (.int (zs_mixR (mi v i) (mi v j) (nI (f - i)) (nI (j - i))))) sh mi mr) zz_none := by
  refine zz_begin RX3 [(0, .ref t), (1, .int (nI i)), (2, .int (nI j)), (3, .int (nI f))] (by decide) rfl rfl (Nat.le_of_ble_eq_true rfl) rfl ?_
  intro Γ D E ad hX hr hN hT
  refine zz_iload_n hX dX3_between_0 2 rfl rfl ?_
  refine zz_iload_n hX dX3_between_1 1 rfl rfl ?_
  refine zz_isub (z := nI (j - i)) hX dX3_between_2 (pk_sub (by omega)) ?_
  refine zz_istore (ls' := [(0, .ref t), (1, .int (nI i)), (2, .int (nI j)), (3, .int (nI f)), (4, .int (nI (j - i)))]) hX dX3_between_3 (Nat.le_of_ble_eq_true rfl) rfl ?_
  refine zz_iload hX dX3_between_5 4 rfl ?_
  refine zz_if_gtN hX (by omega) 17 dX3_between_7 (by decide) (fun c7 => ?_) (fun c7 => absurd c7 (by omega))
  refine zz_aload_n hX dX3_between_17 0 rfl rfl ?_
  refine zz_getI (x := nI 1) hX zf_F_X3_9.r ht rfl (hr0) dX3_between_18 ?_
  refine zz_if_eq hX 42 dX3_between_21 (by decide) (fun c => absurd c (by decide)) (fun _ => ?_)
  refine zz_aload_n hX dX3_between_24 0 rfl rfl ?_
  refine zz_getR (y := v) hX zf_F_X3_15.r ht rfl hv dX3_between_25 ?_
  refine zz_iload_n hX dX3_between_28 1 rfl rfl ?_
  refine zz_iald (x := mi v i) hX hsv i rfl (by omega) (by omega) rfl dX3_between_29 ?_
  refine zz_aload_n hX dX3_between_30 0 rfl rfl ?_
  refine zz_getR (y := v) hX zf_F_X3_15.r ht rfl hv dX3_between_31 ?_
  refine zz_iload_n hX dX3_between_34 2 rfl rfl ?_
  refine zz_iald (x := mi v j) hX hsv j rfl (by omega) (by omega) rfl dX3_between_35 ?_
  refine zz_snI (x := zs_sw (mi v i) (mi v j)) hX zf_M_X3_34 (As := [.int (mi v i), .int (mi v j)]) (st := []) (k_shorterWay (mi v i) (mi v j) sh mi mr) rfl rfl (by decide) (Nat.le_of_ble_eq_true rfl) (Nat.le_of_ble_eq_true rfl) (Nat.le_of_ble_eq_true rfl) dX3_between_36 ?_
  refine zz_goto hX 55 dX3_between_39 (by decide) ?_
  refine zz_istore (ls' := [(0, .ref t), (1, .int (nI i)), (2, .int (nI j)), (3, .int (nI f)), (4, .int (nI (j - i))), (5, .int (zs_sw (mi v i) (mi v j)))]) hX dX3_between_55 (Nat.le_of_ble_eq_true rfl) rfl ?_
  refine zz_aload_n hX dX3_between_57 0 rfl rfl ?_
  refine zz_getR (y := v) hX zf_F_X3_15.r ht rfl hv dX3_between_58 ?_
  refine zz_iload_n hX dX3_between_61 1 rfl rfl ?_
  refine zz_iald (x := mi v i) hX hsv i rfl (by omega) (by omega) rfl dX3_between_62 ?_
  refine zz_iload hX dX3_between_63 5 rfl ?_
  refine zz_iload_n hX dX3_between_65 3 rfl rfl ?_
  refine zz_iload_n hX dX3_between_66 1 rfl rfl ?_
  refine zz_isub (z := nI (f - i)) hX dX3_between_67 (pk_sub (by omega)) ?_
  refine zz_imul (z := (zs_sw (mi v i) (mi v j)) * (nI (f - i))) hX dX3_between_68 rfl ?_
  refine zz_iload hX dX3_between_69 4 rfl ?_
  refine zz_idiv (z := ((zs_sw (mi v i) (mi v j)) * (nI (f - i))) / (nI (j - i))) hX dX3_between_71 (nI_ne0 (by omega) (by omega)) rfl ?_
  refine zz_iadd (z := (mi v i) + (((zs_sw (mi v i) (mi v j)) * (nI (f - i))) / (nI (j - i)))) hX dX3_between_72 rfl ?_
  refine zz_istore (ls' := [(0, .ref t), (1, .int (nI i)), (2, .int (nI j)), (3, .int (nI f)), (4, .int (nI (j - i))), (5, .int (zs_sw (mi v i) (mi v j))), (6, .int ((mi v i) + (((zs_sw (mi v i) (mi v j)) * (nI (f - i))) / (nI (j - i)))))]) hX dX3_between_73 (Nat.le_of_ble_eq_true rfl) rfl ?_
  refine zz_aload_n hX dX3_between_75 0 rfl rfl ?_
  refine zz_getI (x := nI 1) hX zf_F_X3_9.r ht rfl (hr0) dX3_between_76 ?_
  refine zz_if_eq hX 93 dX3_between_79 (by decide) (fun c => absurd c (by decide)) (fun _ => ?_)
  refine zz_iload hX dX3_between_82 6 rfl ?_
  refine zz_sipush (v := nI 360) hX dX3_between_84 rfl ?_
  refine zz_sI (x := zs_fmod ((mi v i) + (((zs_sw (mi v i) (mi v j)) * (nI (f - i))) / (nI (j - i)))) (nI 360)) hX zf_M_X3_38 (As := [.int ((mi v i) + (((zs_sw (mi v i) (mi v j)) * (nI (f - i))) / (nI (j - i)))), .int (nI 360)]) (st := []) (k_floorMod ((mi v i) + (((zs_sw (mi v i) (mi v j)) * (nI (f - i))) / (nI (j - i)))) (nI 360) (by decide) sh mi mr) rfl rfl (by decide) (Nat.le_of_ble_eq_true rfl) (Nat.le_of_ble_eq_true rfl) (Nat.le_of_ble_eq_true rfl) dX3_between_87 ?_
  refine zz_goto hX 95 dX3_between_90 (by decide) ?_
  refine zz_iret hX hr rfl (Nat.le_of_ble_eq_true rfl) (Nat.le_of_ble_eq_true rfl) dX3_between_95 ?_
  exact ⟨rfl, rfl, rfl, rfl⟩

set_option maxRecDepth 20000 in
theorem k_valueAtR (sh : zm_Sh) (mi : zm_Mi) (mr : zm_Mr) (t v w : Nat) (n : Nat) (hn48 : n ≤ 48) (ht : sh t = some (0, 3)) (hv : mr t 1 = some v) (hw : mr t 2 = some w) (hsv : sh v = some (1, n)) (hsw : sh w = some (2, n)) (hr0 : mi t 0 = nI 1) (f : Nat) (hf : f < n) : zz_Con yX3_valueAt (.code yX3_valueAt cX3_valueAt 4 (some Jvm.ClassFile.FieldType.int)) 3 0 0 [.ref t, .int (nI f)] sh mi mr (zz_q (some (.int (zs_val zs_mixR (mi v) (zs_up (fun i => ¬ mi w i = 0) (f + 1)) (zs_fst (fun i => ¬ mi w i = 0) nI (n - f) f) (nI f)))) sh mi mr) zz_none := by
  refine zz_begin RX3 [(0, .ref t), (1, .int (nI f))] (by decide) rfl rfl (Nat.le_of_ble_eq_true rfl) rfl ?_
  intro Γ D E ad hX hr hN hT
  refine zz_aload_n hX dX3_valueAt_0 0 rfl rfl ?_
  refine zz_iload_n hX dX3_valueAt_1 1 rfl rfl ?_
  refine zz_vI (x := zs_up (fun i => ¬ mi w i = 0) (f + 1)) hX zf_M_X3_23 (As := [.int (nI f)]) (st := []) (k_keyUpTo sh mi mr t v w n hn48 ht hv hw hsv hsw f hf) ht rfl rfl rfl (by decide) (Nat.le_of_ble_eq_true rfl) (Nat.le_of_ble_eq_true rfl) (Nat.le_of_ble_eq_true rfl) dX3_valueAt_2 ?_
  refine zz_istore_n (ls' := [(0, .ref t), (1, .int (nI f)), (2, .int (zs_up (fun i => ¬ mi w i = 0) (f + 1)))]) hX dX3_valueAt_5 rfl (Nat.le_of_ble_eq_true rfl) rfl ?_
  refine zz_aload_n hX dX3_valueAt_6 0 rfl rfl ?_
  refine zz_iload_n hX dX3_valueAt_7 1 rfl rfl ?_
  refine zz_vI (x := zs_fst (fun i => ¬ mi w i = 0) nI (n - f) f) hX zf_M_X3_27 (As := [.int (nI f)]) (st := []) (k_keyFrom sh mi mr t v w n hn48 ht hv hw hsv hsw f hf) ht rfl rfl rfl (by decide) (Nat.le_of_ble_eq_true rfl) (Nat.le_of_ble_eq_true rfl) (Nat.le_of_ble_eq_true rfl) dX3_valueAt_8 ?_
  refine zz_istore_n (ls' := [(0, .ref t), (1, .int (nI f)), (2, .int (zs_up (fun i => ¬ mi w i = 0) (f + 1))), (3, .int (zs_fst (fun i => ¬ mi w i = 0) nI (n - f) f))]) hX dX3_valueAt_11 rfl (Nat.le_of_ble_eq_true rfl) rfl ?_
  rcases zs_up_cases (fun i => ¬ mi w i = 0) (f + 1) with ⟨hu, -⟩ | ⟨i, hi, -, hu, -⟩ <;> rcases zs_fst_cases (fun i => ¬ mi w i = 0) nI (n - f) f with ⟨hf2, -⟩ | ⟨j, hj1, hj2, -, hf2, -⟩
  · skip
    refine zz_lcl (ls' := [(0, .ref t), (1, .int (nI f)), (2, .int (-1)), (3, .int (-1))]) (by rw [hu, hf2]) ?_
    refine zz_iload_n hX dX3_valueAt_12 2 rfl rfl ?_
    refine zz_iconst (v := (-1)) hX dX3_valueAt_13 rfl ?_
    refine zz_icmp_ne hX 33 dX3_valueAt_14 (by decide) (fun c => absurd c (by decide)) (fun _ => ?_)
    refine zz_iload_n hX dX3_valueAt_17 3 rfl rfl ?_
    refine zz_iconst (v := (-1)) hX dX3_valueAt_18 rfl ?_
    refine zz_icmp_ne hX 26 dX3_valueAt_19 (by decide) (fun c => absurd c (by decide)) (fun _ => ?_)
    refine zz_iconst (v := nI 0) hX dX3_valueAt_22 rfl ?_
    refine zz_goto hX 32 dX3_valueAt_23 (by decide) ?_
    refine zz_iret hX hr rfl (Nat.le_of_ble_eq_true rfl) (Nat.le_of_ble_eq_true rfl) dX3_valueAt_32 ?_
    exact ⟨by rw [hu, hf2]; rfl, rfl, rfl, rfl⟩
  · skip
    refine zz_lcl (ls' := [(0, .ref t), (1, .int (nI f)), (2, .int (-1)), (3, .int (nI j))]) (by rw [hu, hf2]) ?_
    refine zz_iload_n hX dX3_valueAt_12 2 rfl rfl ?_
    refine zz_iconst (v := (-1)) hX dX3_valueAt_13 rfl ?_
    refine zz_icmp_ne hX 33 dX3_valueAt_14 (by decide) (fun c => absurd c (by decide)) (fun _ => ?_)
    refine zz_iload_n hX dX3_valueAt_17 3 rfl rfl ?_
    refine zz_iconst (v := (-1)) hX dX3_valueAt_18 rfl ?_
    refine zz_icmp_ne hX 26 dX3_valueAt_19 (by decide) (fun c19 => ?_) (fun c19 => absurd c19 (fun q => by have := congrArg Int32.toInt q; rw [nI_toInt (by omega)] at this; exact absurd this (by show ¬ (j : Int) = -1; omega)))
    refine zz_aload_n hX dX3_valueAt_26 0 rfl rfl ?_
    refine zz_getR (y := v) hX zf_F_X3_15.r ht rfl hv dX3_valueAt_27 ?_
    refine zz_iload_n hX dX3_valueAt_30 3 rfl rfl ?_
    refine zz_iald (x := mi v j) hX hsv j rfl (by omega) (by omega) rfl dX3_valueAt_31 ?_
    refine zz_iret hX hr rfl (Nat.le_of_ble_eq_true rfl) (Nat.le_of_ble_eq_true rfl) dX3_valueAt_32 ?_
    exact ⟨by rw [hu, hf2]; unfold zs_val; rw [if_pos rfl, if_neg (fun q => by have := congrArg Int32.toInt q; rw [nI_toInt (by omega)] at this; exact absurd this (by show ¬ (j : Int) = -1; omega)), nI_clamp (n := j) (by omega)], rfl, rfl, rfl⟩
  · skip
    refine zz_lcl (ls' := [(0, .ref t), (1, .int (nI f)), (2, .int (nI i)), (3, .int (-1))]) (by rw [hu, hf2]) ?_
    refine zz_iload_n hX dX3_valueAt_12 2 rfl rfl ?_
    refine zz_iconst (v := (-1)) hX dX3_valueAt_13 rfl ?_
    refine zz_icmp_ne hX 33 dX3_valueAt_14 (by decide) (fun c14 => ?_) (fun c14 => absurd c14 (fun q => by have := congrArg Int32.toInt q; rw [nI_toInt (by omega)] at this; exact absurd this (by show ¬ (i : Int) = -1; omega)))
    refine zz_iload_n hX dX3_valueAt_33 3 rfl rfl ?_
    refine zz_iload_n hX dX3_valueAt_34 2 rfl rfl ?_
    refine zz_icmp_gt hX 45 dX3_valueAt_35 (by decide) (fun c35 => absurd c35 (by rw [zs_lt, nI_toInt (by omega)]; show ¬ (i : Int) < -1; omega)) (fun c35 => ?_)
    refine zz_aload_n hX dX3_valueAt_38 0 rfl rfl ?_
    refine zz_getR (y := v) hX zf_F_X3_15.r ht rfl hv dX3_valueAt_39 ?_
    refine zz_iload_n hX dX3_valueAt_42 2 rfl rfl ?_
    refine zz_iald (x := mi v i) hX hsv i rfl (by omega) (by omega) rfl dX3_valueAt_43 ?_
    refine zz_iret hX hr rfl (Nat.le_of_ble_eq_true rfl) (Nat.le_of_ble_eq_true rfl) dX3_valueAt_44 ?_
    exact ⟨by rw [hu, hf2]; unfold zs_val; rw [if_neg (fun q => by have := congrArg Int32.toInt q; rw [nI_toInt (by omega)] at this; exact absurd this (by show ¬ (i : Int) = -1; omega)), if_pos (by rw [zs_le, nI_toInt (by omega)]; show (-1 : Int) ≤ i; omega), nI_clamp (n := i) (by omega)], rfl, rfl, rfl⟩
  · skip
    refine zz_lcl (ls' := [(0, .ref t), (1, .int (nI f)), (2, .int (nI i)), (3, .int (nI j))]) (by rw [hu, hf2]) ?_
    refine zz_iload_n hX dX3_valueAt_12 2 rfl rfl ?_
    refine zz_iconst (v := (-1)) hX dX3_valueAt_13 rfl ?_
    refine zz_icmp_ne hX 33 dX3_valueAt_14 (by decide) (fun c14 => ?_) (fun c14 => absurd c14 (fun q => by have := congrArg Int32.toInt q; rw [nI_toInt (by omega)] at this; exact absurd this (by show ¬ (i : Int) = -1; omega)))
    refine zz_iload_n hX dX3_valueAt_33 3 rfl rfl ?_
    refine zz_iload_n hX dX3_valueAt_34 2 rfl rfl ?_
    refine zz_icmp_gtN hX (by omega) (by omega) 45 dX3_valueAt_35 (by decide) (fun c35 => ?_) (fun c35 => ?_)
    · skip
      refine zz_aload_n hX dX3_valueAt_45 0 rfl rfl ?_
      refine zz_iload_n hX dX3_valueAt_46 2 rfl rfl ?_
      refine zz_iload_n hX dX3_valueAt_47 3 rfl rfl ?_
      refine zz_iload_n hX dX3_valueAt_48 1 rfl rfl ?_
      refine zz_vI (x := zs_mixR (mi v i) (mi v j) (nI (f - i)) (nI (j - i))) hX zf_M_X3_30 (As := [.int (nI i), .int (nI j), .int (nI f)]) (st := []) (k_betweenR sh mi mr t v w n hn48 ht hv hw hsv hsw hr0 f i j (by omega) (by omega) (by omega)) ht rfl rfl rfl (by decide) (Nat.le_of_ble_eq_true rfl) (Nat.le_of_ble_eq_true rfl) (Nat.le_of_ble_eq_true rfl) dX3_valueAt_49 ?_
      refine zz_iret hX hr rfl (Nat.le_of_ble_eq_true rfl) (Nat.le_of_ble_eq_true rfl) dX3_valueAt_52 ?_
      exact ⟨by rw [hu, hf2]; unfold zs_val; rw [if_neg (fun q => by have := congrArg Int32.toInt q; rw [nI_toInt (by omega)] at this; exact absurd this (by show ¬ (i : Int) = -1; omega)), if_neg (nI_ge c35 (by omega)), nI_clamp (n := i) (by omega), nI_clamp (n := j) (by omega), pk_sub (by omega), pk_sub (by omega)], rfl, rfl, rfl⟩
    · skip
      refine zz_aload_n hX dX3_valueAt_38 0 rfl rfl ?_
      refine zz_getR (y := v) hX zf_F_X3_15.r ht rfl hv dX3_valueAt_39 ?_
      refine zz_iload_n hX dX3_valueAt_42 2 rfl rfl ?_
      refine zz_iald (x := mi v i) hX hsv i rfl (by omega) (by omega) rfl dX3_valueAt_43 ?_
      refine zz_iret hX hr rfl (Nat.le_of_ble_eq_true rfl) (Nat.le_of_ble_eq_true rfl) dX3_valueAt_44 ?_
      exact ⟨by rw [hu, hf2]; unfold zs_val; rw [if_neg (fun q => by have := congrArg Int32.toInt q; rw [nI_toInt (by omega)] at this; exact absurd this (by show ¬ (i : Int) = -1; omega)), if_pos (nI_le c35 (by omega)), nI_clamp (n := i) (by omega)], rfl, rfl, rfl⟩

set_option maxRecDepth 20000 in
theorem k_betweenC (sh : zm_Sh) (mi : zm_Mi) (mr : zm_Mr) (t v w : Nat) (n : Nat) (hn48 : n ≤ 48) (ht : sh t = some (0, 3)) (hv : mr t 1 = some v) (hw : mr t 2 = some w) (hsv : sh v = some (1, n)) (hsw : sh w = some (2, n)) (hr0 : mi t 0 = nI 0) (f i j : Nat) (hij : i < j) (hj : j < n) (hif : i ≤ f) : zz_Con yX3_between (.code yX3_between cX3_between 7 (some Jvm.ClassFile.FieldType.int)) 2 0 0 [.ref t, .int (nI i), .int (nI j), .int (nI f)] sh mi mr (zz_q (some (.int (zs_mixC (mi v i) (mi v j) (nI (f - i)) (nI (j - i))))) sh mi mr) zz_none := by
  refine zz_begin RX3 [(0, .ref t), (1, .int (nI i)), (2, .int (nI j)), (3, .int (nI f))] (by decide) rfl rfl (Nat.le_of_ble_eq_true rfl) rfl ?_
  intro Γ D E ad hX hr hN hT
  refine zz_iload_n hX dX3_between_0 2 rfl rfl ?_
  refine zz_iload_n hX dX3_between_1 1 rfl rfl ?_
  refine zz_isub (z := nI (j - i)) hX dX3_between_2 (pk_sub (by omega)) ?_
  refine zz_istore (ls' := [(0, .ref t), (1, .int (nI i)), (2, .int (nI j)), (3, .int (nI f)), (4, .int (nI (j - i)))]) hX dX3_between_3 (Nat.le_of_ble_eq_true rfl) rfl ?_
  refine zz_iload hX dX3_between_5 4 rfl ?_
  refine zz_if_gtN hX (by omega) 17 dX3_between_7 (by decide) (fun c7 => ?_) (fun c7 => absurd c7 (by omega))
  refine zz_aload_n hX dX3_between_17 0 rfl rfl ?_
  refine zz_getI (x := nI 0) hX zf_F_X3_9.r ht rfl (hr0) dX3_between_18 ?_
  refine zz_if_eq hX 42 dX3_between_21 (by decide) (fun _ => ?_) (fun c => absurd c (by decide))
  refine zz_aload_n hX dX3_between_42 0 rfl rfl ?_
  refine zz_getR (y := v) hX zf_F_X3_15.r ht rfl hv dX3_between_43 ?_
  refine zz_iload_n hX dX3_between_46 2 rfl rfl ?_
  refine zz_iald (x := mi v j) hX hsv j rfl (by omega) (by omega) rfl dX3_between_47 ?_
  refine zz_aload_n hX dX3_between_48 0 rfl rfl ?_
  refine zz_getR (y := v) hX zf_F_X3_15.r ht rfl hv dX3_between_49 ?_
  refine zz_iload_n hX dX3_between_52 1 rfl rfl ?_
  refine zz_iald (x := mi v i) hX hsv i rfl (by omega) (by omega) rfl dX3_between_53 ?_
  refine zz_isub (z := (mi v j) - (mi v i)) hX dX3_between_54 rfl ?_
  refine zz_istore (ls' := [(0, .ref t), (1, .int (nI i)), (2, .int (nI j)), (3, .int (nI f)), (4, .int (nI (j - i))), (5, .int ((mi v j) - (mi v i)))]) hX dX3_between_55 (Nat.le_of_ble_eq_true rfl) rfl ?_
  refine zz_aload_n hX dX3_between_57 0 rfl rfl ?_
  refine zz_getR (y := v) hX zf_F_X3_15.r ht rfl hv dX3_between_58 ?_
  refine zz_iload_n hX dX3_between_61 1 rfl rfl ?_
  refine zz_iald (x := mi v i) hX hsv i rfl (by omega) (by omega) rfl dX3_between_62 ?_
  refine zz_iload hX dX3_between_63 5 rfl ?_
  refine zz_iload_n hX dX3_between_65 3 rfl rfl ?_
  refine zz_iload_n hX dX3_between_66 1 rfl rfl ?_
  refine zz_isub (z := nI (f - i)) hX dX3_between_67 (pk_sub (by omega)) ?_
  refine zz_imul (z := ((mi v j) - (mi v i)) * (nI (f - i))) hX dX3_between_68 rfl ?_
  refine zz_iload hX dX3_between_69 4 rfl ?_
  refine zz_idiv (z := (((mi v j) - (mi v i)) * (nI (f - i))) / (nI (j - i))) hX dX3_between_71 (nI_ne0 (by omega) (by omega)) rfl ?_
  refine zz_iadd (z := (mi v i) + ((((mi v j) - (mi v i)) * (nI (f - i))) / (nI (j - i)))) hX dX3_between_72 rfl ?_
  refine zz_istore (ls' := [(0, .ref t), (1, .int (nI i)), (2, .int (nI j)), (3, .int (nI f)), (4, .int (nI (j - i))), (5, .int ((mi v j) - (mi v i))), (6, .int ((mi v i) + ((((mi v j) - (mi v i)) * (nI (f - i))) / (nI (j - i)))))]) hX dX3_between_73 (Nat.le_of_ble_eq_true rfl) rfl ?_
  refine zz_aload_n hX dX3_between_75 0 rfl rfl ?_
  refine zz_getI (x := nI 0) hX zf_F_X3_9.r ht rfl (hr0) dX3_between_76 ?_
  refine zz_if_eq hX 93 dX3_between_79 (by decide) (fun _ => ?_) (fun c => absurd c (by decide))
  refine zz_iload hX dX3_between_93 6 rfl ?_
  refine zz_iret hX hr rfl (Nat.le_of_ble_eq_true rfl) (Nat.le_of_ble_eq_true rfl) dX3_between_95 ?_
  exact ⟨rfl, rfl, rfl, rfl⟩

set_option maxRecDepth 20000 in
theorem k_valueAtC (sh : zm_Sh) (mi : zm_Mi) (mr : zm_Mr) (t v w : Nat) (n : Nat) (hn48 : n ≤ 48) (ht : sh t = some (0, 3)) (hv : mr t 1 = some v) (hw : mr t 2 = some w) (hsv : sh v = some (1, n)) (hsw : sh w = some (2, n)) (hr0 : mi t 0 = nI 0) (f : Nat) (hf : f < n) : zz_Con yX3_valueAt (.code yX3_valueAt cX3_valueAt 4 (some Jvm.ClassFile.FieldType.int)) 3 0 0 [.ref t, .int (nI f)] sh mi mr (zz_q (some (.int (zs_val zs_mixC (mi v) (zs_up (fun i => ¬ mi w i = 0) (f + 1)) (zs_fst (fun i => ¬ mi w i = 0) nI (n - f) f) (nI f)))) sh mi mr) zz_none := by
  refine zz_begin RX3 [(0, .ref t), (1, .int (nI f))] (by decide) rfl rfl (Nat.le_of_ble_eq_true rfl) rfl ?_
  intro Γ D E ad hX hr hN hT
  refine zz_aload_n hX dX3_valueAt_0 0 rfl rfl ?_
  refine zz_iload_n hX dX3_valueAt_1 1 rfl rfl ?_
  refine zz_vI (x := zs_up (fun i => ¬ mi w i = 0) (f + 1)) hX zf_M_X3_23 (As := [.int (nI f)]) (st := []) (k_keyUpTo sh mi mr t v w n hn48 ht hv hw hsv hsw f hf) ht rfl rfl rfl (by decide) (Nat.le_of_ble_eq_true rfl) (Nat.le_of_ble_eq_true rfl) (Nat.le_of_ble_eq_true rfl) dX3_valueAt_2 ?_
  refine zz_istore_n (ls' := [(0, .ref t), (1, .int (nI f)), (2, .int (zs_up (fun i => ¬ mi w i = 0) (f + 1)))]) hX dX3_valueAt_5 rfl (Nat.le_of_ble_eq_true rfl) rfl ?_
  refine zz_aload_n hX dX3_valueAt_6 0 rfl rfl ?_
  refine zz_iload_n hX dX3_valueAt_7 1 rfl rfl ?_
  refine zz_vI (x := zs_fst (fun i => ¬ mi w i = 0) nI (n - f) f) hX zf_M_X3_27 (As := [.int (nI f)]) (st := []) (k_keyFrom sh mi mr t v w n hn48 ht hv hw hsv hsw f hf) ht rfl rfl rfl (by decide) (Nat.le_of_ble_eq_true rfl) (Nat.le_of_ble_eq_true rfl) (Nat.le_of_ble_eq_true rfl) dX3_valueAt_8 ?_
  refine zz_istore_n (ls' := [(0, .ref t), (1, .int (nI f)), (2, .int (zs_up (fun i => ¬ mi w i = 0) (f + 1))), (3, .int (zs_fst (fun i => ¬ mi w i = 0) nI (n - f) f))]) hX dX3_valueAt_11 rfl (Nat.le_of_ble_eq_true rfl) rfl ?_
  rcases zs_up_cases (fun i => ¬ mi w i = 0) (f + 1) with ⟨hu, -⟩ | ⟨i, hi, -, hu, -⟩ <;> rcases zs_fst_cases (fun i => ¬ mi w i = 0) nI (n - f) f with ⟨hf2, -⟩ | ⟨j, hj1, hj2, -, hf2, -⟩
  · skip
    refine zz_lcl (ls' := [(0, .ref t), (1, .int (nI f)), (2, .int (-1)), (3, .int (-1))]) (by rw [hu, hf2]) ?_
    refine zz_iload_n hX dX3_valueAt_12 2 rfl rfl ?_
    refine zz_iconst (v := (-1)) hX dX3_valueAt_13 rfl ?_
    refine zz_icmp_ne hX 33 dX3_valueAt_14 (by decide) (fun c => absurd c (by decide)) (fun _ => ?_)
    refine zz_iload_n hX dX3_valueAt_17 3 rfl rfl ?_
    refine zz_iconst (v := (-1)) hX dX3_valueAt_18 rfl ?_
    refine zz_icmp_ne hX 26 dX3_valueAt_19 (by decide) (fun c => absurd c (by decide)) (fun _ => ?_)
    refine zz_iconst (v := nI 0) hX dX3_valueAt_22 rfl ?_
    refine zz_goto hX 32 dX3_valueAt_23 (by decide) ?_
    refine zz_iret hX hr rfl (Nat.le_of_ble_eq_true rfl) (Nat.le_of_ble_eq_true rfl) dX3_valueAt_32 ?_
    exact ⟨by rw [hu, hf2]; rfl, rfl, rfl, rfl⟩
  · skip
    refine zz_lcl (ls' := [(0, .ref t), (1, .int (nI f)), (2, .int (-1)), (3, .int (nI j))]) (by rw [hu, hf2]) ?_
    refine zz_iload_n hX dX3_valueAt_12 2 rfl rfl ?_
    refine zz_iconst (v := (-1)) hX dX3_valueAt_13 rfl ?_
    refine zz_icmp_ne hX 33 dX3_valueAt_14 (by decide) (fun c => absurd c (by decide)) (fun _ => ?_)
    refine zz_iload_n hX dX3_valueAt_17 3 rfl rfl ?_
    refine zz_iconst (v := (-1)) hX dX3_valueAt_18 rfl ?_
    refine zz_icmp_ne hX 26 dX3_valueAt_19 (by decide) (fun c19 => ?_) (fun c19 => absurd c19 (fun q => by have := congrArg Int32.toInt q; rw [nI_toInt (by omega)] at this; exact absurd this (by show ¬ (j : Int) = -1; omega)))
    refine zz_aload_n hX dX3_valueAt_26 0 rfl rfl ?_
    refine zz_getR (y := v) hX zf_F_X3_15.r ht rfl hv dX3_valueAt_27 ?_
    refine zz_iload_n hX dX3_valueAt_30 3 rfl rfl ?_
    refine zz_iald (x := mi v j) hX hsv j rfl (by omega) (by omega) rfl dX3_valueAt_31 ?_
    refine zz_iret hX hr rfl (Nat.le_of_ble_eq_true rfl) (Nat.le_of_ble_eq_true rfl) dX3_valueAt_32 ?_
    exact ⟨by rw [hu, hf2]; unfold zs_val; rw [if_pos rfl, if_neg (fun q => by have := congrArg Int32.toInt q; rw [nI_toInt (by omega)] at this; exact absurd this (by show ¬ (j : Int) = -1; omega)), nI_clamp (n := j) (by omega)], rfl, rfl, rfl⟩
  · skip
    refine zz_lcl (ls' := [(0, .ref t), (1, .int (nI f)), (2, .int (nI i)), (3, .int (-1))]) (by rw [hu, hf2]) ?_
    refine zz_iload_n hX dX3_valueAt_12 2 rfl rfl ?_
    refine zz_iconst (v := (-1)) hX dX3_valueAt_13 rfl ?_
    refine zz_icmp_ne hX 33 dX3_valueAt_14 (by decide) (fun c14 => ?_) (fun c14 => absurd c14 (fun q => by have := congrArg Int32.toInt q; rw [nI_toInt (by omega)] at this; exact absurd this (by show ¬ (i : Int) = -1; omega)))
    refine zz_iload_n hX dX3_valueAt_33 3 rfl rfl ?_
    refine zz_iload_n hX dX3_valueAt_34 2 rfl rfl ?_
    refine zz_icmp_gt hX 45 dX3_valueAt_35 (by decide) (fun c35 => absurd c35 (by rw [zs_lt, nI_toInt (by omega)]; show ¬ (i : Int) < -1; omega)) (fun c35 => ?_)
    refine zz_aload_n hX dX3_valueAt_38 0 rfl rfl ?_
    refine zz_getR (y := v) hX zf_F_X3_15.r ht rfl hv dX3_valueAt_39 ?_
    refine zz_iload_n hX dX3_valueAt_42 2 rfl rfl ?_
    refine zz_iald (x := mi v i) hX hsv i rfl (by omega) (by omega) rfl dX3_valueAt_43 ?_
    refine zz_iret hX hr rfl (Nat.le_of_ble_eq_true rfl) (Nat.le_of_ble_eq_true rfl) dX3_valueAt_44 ?_
    exact ⟨by rw [hu, hf2]; unfold zs_val; rw [if_neg (fun q => by have := congrArg Int32.toInt q; rw [nI_toInt (by omega)] at this; exact absurd this (by show ¬ (i : Int) = -1; omega)), if_pos (by rw [zs_le, nI_toInt (by omega)]; show (-1 : Int) ≤ i; omega), nI_clamp (n := i) (by omega)], rfl, rfl, rfl⟩
  · skip
    refine zz_lcl (ls' := [(0, .ref t), (1, .int (nI f)), (2, .int (nI i)), (3, .int (nI j))]) (by rw [hu, hf2]) ?_
    refine zz_iload_n hX dX3_valueAt_12 2 rfl rfl ?_
    refine zz_iconst (v := (-1)) hX dX3_valueAt_13 rfl ?_
    refine zz_icmp_ne hX 33 dX3_valueAt_14 (by decide) (fun c14 => ?_) (fun c14 => absurd c14 (fun q => by have := congrArg Int32.toInt q; rw [nI_toInt (by omega)] at this; exact absurd this (by show ¬ (i : Int) = -1; omega)))
    refine zz_iload_n hX dX3_valueAt_33 3 rfl rfl ?_
    refine zz_iload_n hX dX3_valueAt_34 2 rfl rfl ?_
    refine zz_icmp_gtN hX (by omega) (by omega) 45 dX3_valueAt_35 (by decide) (fun c35 => ?_) (fun c35 => ?_)
    · skip
      refine zz_aload_n hX dX3_valueAt_45 0 rfl rfl ?_
      refine zz_iload_n hX dX3_valueAt_46 2 rfl rfl ?_
      refine zz_iload_n hX dX3_valueAt_47 3 rfl rfl ?_
      refine zz_iload_n hX dX3_valueAt_48 1 rfl rfl ?_
      refine zz_vI (x := zs_mixC (mi v i) (mi v j) (nI (f - i)) (nI (j - i))) hX zf_M_X3_30 (As := [.int (nI i), .int (nI j), .int (nI f)]) (st := []) (k_betweenC sh mi mr t v w n hn48 ht hv hw hsv hsw hr0 f i j (by omega) (by omega) (by omega)) ht rfl rfl rfl (by decide) (Nat.le_of_ble_eq_true rfl) (Nat.le_of_ble_eq_true rfl) (Nat.le_of_ble_eq_true rfl) dX3_valueAt_49 ?_
      refine zz_iret hX hr rfl (Nat.le_of_ble_eq_true rfl) (Nat.le_of_ble_eq_true rfl) dX3_valueAt_52 ?_
      exact ⟨by rw [hu, hf2]; unfold zs_val; rw [if_neg (fun q => by have := congrArg Int32.toInt q; rw [nI_toInt (by omega)] at this; exact absurd this (by show ¬ (i : Int) = -1; omega)), if_neg (nI_ge c35 (by omega)), nI_clamp (n := i) (by omega), nI_clamp (n := j) (by omega), pk_sub (by omega), pk_sub (by omega)], rfl, rfl, rfl⟩
    · skip
      refine zz_aload_n hX dX3_valueAt_38 0 rfl rfl ?_
      refine zz_getR (y := v) hX zf_F_X3_15.r ht rfl hv dX3_valueAt_39 ?_
      refine zz_iload_n hX dX3_valueAt_42 2 rfl rfl ?_
      refine zz_iald (x := mi v i) hX hsv i rfl (by omega) (by omega) rfl dX3_valueAt_43 ?_
      refine zz_iret hX hr rfl (Nat.le_of_ble_eq_true rfl) (Nat.le_of_ble_eq_true rfl) dX3_valueAt_44 ?_
      exact ⟨by rw [hu, hf2]; unfold zs_val; rw [if_neg (fun q => by have := congrArg Int32.toInt q; rw [nI_toInt (by omega)] at this; exact absurd this (by show ¬ (i : Int) = -1; omega)), if_pos (nI_le c35 (by omega)), nI_clamp (n := i) (by omega)], rfl, rfl, rfl⟩

set_option maxRecDepth 20000 in
theorem k_lastMouth (sh : zm_Sh) (mi : zm_Mi) (mr : zm_Mr) (t P m c l b o : Nat) (jn n : Nat) (k : Nat) (hj6 : jn ≤ 6) (hn48 : n ≤ 48) (ht : sh t = some (0, 1)) (hP : mr t 0 = some P) (hm : mr t 1 = some m) (hcm : mr t 2 = some c) (hlt : mr t 3 = some l) (hb : mr t 4 = some b) (ho : mr t 5 = some o) (hsP : sh P = some (8, jn)) (hsm : sh m = some (1, n)) (hsc : sh c = some (1, n)) (hsl : sh l = some (1, n)) (hsb : sh b = some (1, n)) (hso : sh o = some (1, n)) (hk : mi t 6 = nI k) (hkn : k ≤ n) : zz_Con yX1_lastMouth (.code yX1_lastMouth cX1_lastMouth 1 (some Jvm.ClassFile.FieldType.int)) 0 0 0 [.ref t] sh mi mr (zz_q (some (.int (if k = 0 then -1 else mi m (k - 1)))) sh mi mr) zz_none := by
  refine zz_begin RX1 [(0, .ref t)] (by decide) rfl rfl (Nat.le_of_ble_eq_true rfl) rfl ?_
  intro Γ D E ad hX hr hN hT
  refine zz_aload_n hX dX1_lastMouth_0 0 rfl rfl ?_
  refine zz_getI (x := nI k) hX zf_F_X1_9.r ht rfl (hk) dX1_lastMouth_1 ?_
  refine zz_if_neN hX (by omega) 11 dX1_lastMouth_4 (by decide) (fun c4 => ?_) (fun c4 => ?_)
  · skip
    refine zz_aload_n hX dX1_lastMouth_11 0 rfl rfl ?_
    refine zz_getR (y := m) hX zf_F_X1_20.r ht rfl hm dX1_lastMouth_12 ?_
    refine zz_aload_n hX dX1_lastMouth_15 0 rfl rfl ?_
    refine zz_getI (x := nI k) hX zf_F_X1_9.r ht rfl (hk) dX1_lastMouth_16 ?_
    refine zz_iconst (v := nI 1) hX dX1_lastMouth_19 rfl ?_
    refine zz_isub (z := nI (k - 1)) hX dX1_lastMouth_20 (pk_sub (by omega)) ?_
    refine zz_iald (x := mi m (k - 1)) hX hsm (k - 1) rfl (by omega) (by omega) rfl dX1_lastMouth_21 ?_
    refine zz_iret hX hr rfl (Nat.le_of_ble_eq_true rfl) (Nat.le_of_ble_eq_true rfl) dX1_lastMouth_22 ?_
    exact ⟨by rw [if_neg c4], rfl, rfl, rfl⟩
  · skip
    refine zz_iconst (v := (-1)) hX dX1_lastMouth_7 rfl ?_
    refine zz_goto hX 22 dX1_lastMouth_8 (by decide) ?_
    refine zz_iret hX hr rfl (Nat.le_of_ble_eq_true rfl) (Nat.le_of_ble_eq_true rfl) dX1_lastMouth_22 ?_
    exact ⟨by rw [if_pos c4], rfl, rfl, rfl⟩

set_option maxRecDepth 20000 in
theorem k_repeat (sh : zm_Sh) (mi : zm_Mi) (mr : zm_Mr) (t P m c l b o : Nat) (jn n : Nat) (k : Nat) (hj6 : jn ≤ 6) (hn48 : n ≤ 48) (ht : sh t = some (0, 1)) (hP : mr t 0 = some P) (hm : mr t 1 = some m) (hcm : mr t 2 = some c) (hlt : mr t 3 = some l) (hb : mr t 4 = some b) (ho : mr t 5 = some o) (hsP : sh P = some (8, jn)) (hsm : sh m = some (1, n)) (hsc : sh c = some (1, n)) (hsl : sh l = some (1, n)) (hsb : sh b = some (1, n)) (hso : sh o = some (1, n)) (hk : mi t 6 = nI k) (q : Nat) (htm : t ≠ m) (htq : t < q) (hmq : m < q) (hk0 : 0 < k) (hkn : k < n) (hPq : ∀ j, j < jn → mr P j = some (q + j)) (hsq : ∀ j, j < jn → sh (q + j) = some (1, n)) : zz_Con yX1_repeatPoseAndMouth (.code yX1_repeatPoseAndMouth cX1_repeatPoseAndMouth 2 none) 1 0 0 [.ref t] sh mi mr (zz_q (none) sh (zs_cpm (zm_u2 mi m k (mi m (k - 1))) q jn k) mr) zz_none := by
  refine zz_begin RX1 [(0, .ref t)] (by decide) rfl rfl (Nat.le_of_ble_eq_true rfl) rfl ?_
  intro Γ D E ad hX hr hN hT
  refine zz_aload_n hX dX1_repeatPoseAndMouth_0 0 rfl rfl ?_
  refine zz_getR (y := m) hX zf_F_X1_20.r ht rfl hm dX1_repeatPoseAndMouth_1 ?_
  refine zz_aload_n hX dX1_repeatPoseAndMouth_4 0 rfl rfl ?_
  refine zz_getI (x := nI k) hX zf_F_X1_9.r ht rfl (hk) dX1_repeatPoseAndMouth_5 ?_
  refine zz_aload_n hX dX1_repeatPoseAndMouth_8 0 rfl rfl ?_
  refine zz_vI (x := if k = 0 then -1 else mi m (k - 1)) hX zf_M_X1_36 (As := []) (st := [.int (nI k), .ref m]) (k_lastMouth sh mi mr t P m c l b o jn n k hj6 hn48 ht hP hm hcm hlt hb ho hsP hsm hsc hsl hsb hso hk (by omega)) ht rfl rfl rfl (by decide) (Nat.le_of_ble_eq_true rfl) (Nat.le_of_ble_eq_true rfl) (Nat.le_of_ble_eq_true rfl) dX1_repeatPoseAndMouth_9 ?_
  refine zz_top (y := mi m (k - 1)) (if_neg (by omega)) ?_
  refine zz_iast hX hsm k rfl (by omega) (by omega) dX1_repeatPoseAndMouth_12 ?_
  refine zz_aload_n hX dX1_repeatPoseAndMouth_13 0 rfl rfl ?_
  refine zz_getI (x := nI k) hX zf_F_X1_9.r ht rfl ((zm_u2l htm).trans (hk)) dX1_repeatPoseAndMouth_14 ?_
  refine zz_if_neN hX (by omega) 21 dX1_repeatPoseAndMouth_17 (by decide) (fun c17 => ?_) (fun c17 => absurd c17 (by omega))
  refine zz_iconst (v := nI 0) hX dX1_repeatPoseAndMouth_21 rfl ?_
  refine zz_istore_n (ls' := [(0, .ref t), (1, .int (nI 0))]) hX dX1_repeatPoseAndMouth_22 rfl (Nat.le_of_ble_eq_true rfl) rfl ?_
  refine zz_mem (mi' := zs_cpm (zm_u2 mi m k (mi m (k - 1))) q 0 k) zs_cpm_0.symm ?_
  have L23 : ∀ (k23 : Nat) (j : Nat), jn - j < k23 → (j ≤ jn) → zz Γ (D, E, 2, ad, sh) (zz_End Γ (D, E, 2, ad, sh) (zz_q (none) sh (zs_cpm (zm_u2 mi m k (mi m (k - 1))) q jn k) mr) zz_none 0 0) 0 0 sh (zs_cpm (zm_u2 mi m k (mi m (k - 1))) q j k) mr 23 [(0, .ref t), (1, .int (nI j))] [] := by
    intro k23
    induction k23 with
    | zero => intro j hk23; exact absurd hk23 (Nat.not_lt_zero _)
    | succ k23 ih23 =>
      intro j hk23 hj
      refine zz_iload_n hX dX1_repeatPoseAndMouth_23 1 rfl rfl ?_
      refine zz_aload_n hX dX1_repeatPoseAndMouth_24 0 rfl rfl ?_
      refine zz_getR (y := P) hX zf_F_X1_17.r ht rfl hP dX1_repeatPoseAndMouth_25 ?_
      refine zz_alen hX hsP (by decide) (by decide) dX1_repeatPoseAndMouth_28 ?_
      refine zz_icmp_geN hX (by omega) (by omega) 62 dX1_repeatPoseAndMouth_29 (by decide) (fun c29 => ?_) (fun c29 => ?_)
      · skip
        refine zz_vret hX hr (Nat.le_of_ble_eq_true rfl) (Nat.le_of_ble_eq_true rfl) dX1_repeatPoseAndMouth_62 ?_
        exact ⟨rfl, rfl, by rw [show j = jn by omega], rfl⟩
      · skip
        refine zz_aload_n hX dX1_repeatPoseAndMouth_32 0 rfl rfl ?_
        refine zz_getR (y := P) hX zf_F_X1_17.r ht rfl hP dX1_repeatPoseAndMouth_33 ?_
        refine zz_iload_n hX dX1_repeatPoseAndMouth_36 1 rfl rfl ?_
        refine zz_aald (y := (q + j)) hX hsP (by decide) (by decide) j rfl (by omega) (by omega) (hPq j c29) dX1_repeatPoseAndMouth_37 ?_
        refine zz_aload_n hX dX1_repeatPoseAndMouth_38 0 rfl rfl ?_
        refine zz_getI (x := nI k) hX zf_F_X1_9.r ht rfl (((zs_cpm_r (Or.inr (Or.inl htq))).trans ((zm_u2l htm).trans hk))) dX1_repeatPoseAndMouth_39 ?_
        refine zz_aload_n hX dX1_repeatPoseAndMouth_42 0 rfl rfl ?_
        refine zz_getR (y := P) hX zf_F_X1_17.r ht rfl hP dX1_repeatPoseAndMouth_43 ?_
        refine zz_iload_n hX dX1_repeatPoseAndMouth_46 1 rfl rfl ?_
        refine zz_aald (y := (q + j)) hX hsP (by decide) (by decide) j rfl (by omega) (by omega) (hPq j c29) dX1_repeatPoseAndMouth_47 ?_
        refine zz_aload_n hX dX1_repeatPoseAndMouth_48 0 rfl rfl ?_
        refine zz_getI (x := nI k) hX zf_F_X1_9.r ht rfl (((zs_cpm_r (Or.inr (Or.inl htq))).trans ((zm_u2l htm).trans hk))) dX1_repeatPoseAndMouth_49 ?_
        refine zz_iconst (v := nI 1) hX dX1_repeatPoseAndMouth_52 rfl ?_
        refine zz_isub (z := nI (k - 1)) hX dX1_repeatPoseAndMouth_53 (pk_sub (by omega)) ?_
        refine zz_iald (x := mi (q + j) (k - 1)) hX (hsq j c29) (k - 1) rfl (by omega) (by omega) (((zs_cpm_r (Or.inl (by omega))).trans (zm_u2l (by omega)))) dX1_repeatPoseAndMouth_54 ?_
        refine zz_iast hX (hsq j c29) k rfl (by omega) (by omega) dX1_repeatPoseAndMouth_55 ?_
        refine zz_iinc (v := nI (j + 1)) (ls' := [(0, .ref t), (1, .int (nI (j + 1)))]) hX dX1_repeatPoseAndMouth_56 1 rfl (nI_1 _) (Nat.le_of_ble_eq_true rfl) rfl ?_
        refine zz_goto hX 23 dX1_repeatPoseAndMouth_59 (by decide) ?_
        refine zz_mem (mi' := zs_cpm (zm_u2 mi m k (mi m (k - 1))) q (j + 1) k) ?_ ?_
        · rw [← zs_cpm_s hk0, zm_u2l (show q + j ≠ m by omega)]
        exact ih23 (j + 1) (by omega) (by omega)
  exact L23 ((jn - 0 + 1)) 0 (by omega) (Nat.zero_le _)
