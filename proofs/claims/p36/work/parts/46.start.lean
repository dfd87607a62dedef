/-! ===== what the claim gives at the start; the law from its entry ===== -/
theorem zW_room {p : Program} {l : Launch} {e : Env} {R R' : Room} {s : State} {m : MethodId} {args : Array Value} {below : List Frame} {meth : Method} {c : Code} {H : Heap} {locs : List Loc} {cells slots : Nat} {Q : State → Prop} {g : JFrame} (hf : R.frames ≤ R'.frames) (hl : R.locals ≤ R'.locals) (hc : R.cells ≤ R'.cells) (hs : R.slots ≤ R'.slots) (h : W p l e R s m args below meth c H locs cells slots Q g) : W p l e R' s m args below meth c H locs cells slots Q g := fun T hT X =>
  h T hT ⟨X.admits, X.cas, X.clock, X.frames, hasRoom_mono hf hl hc hs X.room, X.hears, X.method, X.code, X.here, X.tail, X.warmed, X.limits, X.bytes, X.same⟩
/-- the law's own end, in any room -/
theorem zl_ret {p : Program} {l : Launch} {e : Env} {R : Room} {s : State} {m : MethodId} {below : List Frame} {meth : Method} {c : Code} {b : Nat} (hx : p.tables.exec = Jvm.exec) (hb : c.code = code) (hr : meth.sig.returnType = ret) (hlocks : meth.locks = false) {pc : Nat} {H : Heap} {ls : Array Slot} (hdg : decode code pc = .ok (.ireturn, 1)) : W p l e R s m #[Value.ref b] below meth c H [] 600104 7301313 (lw_Z below #[Value.ref b] s) (F0 m pc ls [.int 1]) := by
  intro T hT X
  obtain ⟨fs, hret, hrun, hended, hW, hframe⟩ := X.leave (v := some (.int 1)) (hlocks := hlocks) (fun h => by rw [hr] at h; cases h)
  have hmeth' : T.vm.method? m = some meth := X.method'
  refine ⟨T.setFrames fs, ?_, .returned (some (.int 1)), hrun, hended, rfl, ⟨_, rfl⟩, hW, hframe⟩
  jvm_step X.here [X.here.top, hx, hb, hdg, hmeth', hr, ret, narrow_b1]
  (try refine ⟨rfl, ?_⟩); (try refine ⟨rfl, ?_⟩)
  first | (intro acts; rw [hret _ acts rfl rfl rfl]) | rw [hret _ _ rfl rfl rfl]
  exact Steps.refl _
theorem zk_arrP {a : Array Value} {s : State} {t : FieldType} (h : (Cond.arrayClass t).before a s = true) : ∃ cA : ClassId, ArrOfT s cA t ∧ s.vm.findClass ("[" ++ t.toString) = some cA := by
  obtain ⟨c, k, comp, h1, h2, h3⟩ := Cond.arrayClass_spec h
  exact ⟨c, fun n z => ⟨fun k h => (by cases h), k, h2, comp, h3⟩, h1⟩
theorem zk_arrO {a : Array Value} {s : State} {C : String} (h : (Cond.arrayOver (.object C)).before a s = true) : ∃ cA : ClassId, ArrOfT s cA (.object C) ∧ va_RA s cA (.object C) := by
  obtain ⟨comp, c, k, h1, -, h2, h3, h4⟩ := Cond.arrayOver_spec h
  exact ⟨c, fun n z => ⟨fun k h => (by cases h), k, h2, comp, h3⟩, k, comp, h2, h3, h1, h4⟩
theorem zk_arrA {a : Array Value} {s : State} {t : FieldType} (h : (Cond.arrayOver (.array t)).before a s = true) : ∃ cA : ClassId, ArrOfT s cA (.array t) ∧ va_RA s cA (.array t) := by
  obtain ⟨comp, c, k, h1, -, h2, h3, h4⟩ := arrayOverA_spec h
  exact ⟨c, fun n z => ⟨fun k h => (by cases h), k, h2, comp, h3⟩, h4⟩
theorem zw_over_X0 : Cond.arrayOver (.object RX0) ∈ lw_tbl := (List.mem_of_getElem? (i := 44) (by decide +kernel))
theorem zw_over_X4 : Cond.arrayOver (.object RX4) ∈ lw_tbl := (List.mem_of_getElem? (i := 46) (by decide +kernel))
theorem zw_over_X2 : Cond.arrayOver (.object RX2) ∈ lw_tbl := (List.mem_of_getElem? (i := 65) (by decide +kernel))
theorem zw_over_X3 : Cond.arrayOver (.object RX3) ∈ lw_tbl := (List.mem_of_getElem? (i := 292) (by decide +kernel))
theorem zw_over_A : Cond.arrayOver (.array .int) ∈ lw_tbl := (List.mem_of_getElem? (i := 315) (by decide +kernel))
theorem zw_str_in : ∀ q ∈ zk_str, Cond.stringRef q.1 q.2.1 q.2.2 ∈ lw_tbl ∧ q.1 = RX5 := by
  intro q hq
  have h : (zk_str.all fun q => decide (Cond.stringRef q.1 q.2.1 q.2.2 ∈ lw_tbl) && decide (q.1 = RX5)) = true := by decide +kernel
  have h5 := List.all_eq_true.mp h q hq
  simp only [Bool.and_eq_true, decide_eq_true_eq] at h5
  exact h5
theorem zk_start {p : Program} {s : State} {m : MethodId} {meth : Method} {c : Code} {b L : Nat} {xs : Nat → Int32} (hL : L ≤ 260) (C0 : lw_At p s m meth c b L xs) : ∃ D : zz_D, zk_K D (s.heap.size, b, L, xs) s := by
  obtain ⟨hx, hb, hr, hml, hown, hts, hX, hbl, hlocks, hgv⟩ := C0
  have hg := flat_of_before _ hgv
  have hcl : ∀ (k : Nat) (q : vw_C), vwCl[k]? = some q → ∃ (c : ClassId) (i : Nat → Nat), u_Kn s q.1 q.2.1 q.2.2 c i := by
    intro k q hq
    match k, hq with
    | 0, hq => obtain rfl := Option.some.inj hq; exact u_known (n := 4) hts (fun w hw => (zf_CL0.2.1 w hw).1) (hts _ zw_inst_X0)
    | 1, hq => obtain rfl := Option.some.inj hq; exact u_known (n := 7) hts (fun w hw => (zf_CL1.2.1 w hw).1) (hts _ zw_inst_X1)
    | 2, hq => obtain rfl := Option.some.inj hq; exact u_known (n := 9) hts (fun w hw => (zf_CL2.2.1 w hw).1) (hts _ zw_inst_X2)
    | 3, hq => obtain rfl := Option.some.inj hq; exact u_known (n := 3) hts (fun w hw => (zf_CL3.2.1 w hw).1) (hts _ zw_inst_X3)
    | 4, hq => obtain rfl := Option.some.inj hq; exact u_known (n := 3) hts (fun w hw => (zf_CL4.2.1 w hw).1) (hts _ zw_inst_X4)
    | 5, hq => obtain rfl := Option.some.inj hq; exact u_known (n := 12) hts (fun w hw => (zf_CL5.2.1 w hw).1) (hts _ zw_inst_X5)
    | k + 6, hq => cases hq
  have h1 : ∀ k : Nat, ∃ z : ClassId × (Nat → Nat), ∀ q : vw_C, vwCl[k]? = some q → u_Kn s q.1 q.2.1 q.2.2 z.1 z.2 := fun k => by
    cases e : vwCl[k]? with
    | none => exact ⟨((0 : Nat), fun _ => 0), fun q hq => nomatch hq⟩
    | some q =>
      obtain ⟨c, i, h⟩ := hcl k q e
      exact ⟨(c, i), fun q' hq => by obtain rfl := Option.some.inj hq; exact h⟩
  have h2 : ∀ k : Nat, ∃ cA : ClassId, 1 ≤ k → k ≤ 8 → ArrOfT s cA (zk_ty k) ∧ va_RA s cA (zk_ty k) := fun k => by
    by_cases hk : 1 ≤ k ∧ k ≤ 8
    · rcases (by omega : k = 1 ∨ k = 2 ∨ k = 3 ∨ k = 4 ∨ k = 5 ∨ k = 6 ∨ k = 7 ∨ k = 8) with rfl | rfl | rfl | rfl | rfl | rfl | rfl | rfl
      · obtain ⟨cA, g1, g2⟩ := zk_arrP (hts _ zw_arr_int); exact ⟨cA, fun _ _ => ⟨g1, g2⟩⟩
      · obtain ⟨cA, g1, g2⟩ := zk_arrP (hts _ zw_arr_boolean); exact ⟨cA, fun _ _ => ⟨g1, g2⟩⟩
      · obtain ⟨cA, g1, g2⟩ := zk_arrP (hts _ zw_arr_boolean); exact ⟨cA, fun _ _ => ⟨g1, g2⟩⟩
      · obtain ⟨cA, g⟩ := zk_arrO (hts _ zw_over_X0); exact ⟨cA, fun _ _ => g⟩
      · obtain ⟨cA, g⟩ := zk_arrO (hts _ zw_over_X2); exact ⟨cA, fun _ _ => g⟩
      · obtain ⟨cA, g⟩ := zk_arrO (hts _ zw_over_X3); exact ⟨cA, fun _ _ => g⟩
      · obtain ⟨cA, g⟩ := zk_arrO (hts _ zw_over_X4); exact ⟨cA, fun _ _ => g⟩
      · obtain ⟨cA, g⟩ := zk_arrA (hts _ zw_over_A); exact ⟨cA, fun _ _ => g⟩
    · exact ⟨(0 : Nat), fun a b => absurd ⟨a, b⟩ hk⟩
  have hK5 := Classical.choose_spec (h1 5) (RX5, TX5, 12) rfl
  have hA : ∀ a : Nat, a < s.heap.size → ¬ s.heap.size ≤ a := fun a ha => Nat.not_le.mpr ha
  refine ⟨((fun k => (Classical.choose (h1 k)).1, fun k => (Classical.choose (h1 k)).2), fun k => Classical.choose (h2 k)), ⟨fun k q hq => Classical.choose_spec (h1 k) q hq, fun k q hq => ?_⟩, ?_, ?_, fun w hw ho => zk_word (State.WarmedH.refl s) ho (hts w hw), ?_, ?_, fun q hq => ?_, ?_, ?_, ⟨⟨hbl, (show L < 2 ^ 31 by omega)⟩, hX⟩, Nat.le_refl _⟩
  · have hk : k < 8 := by
      have h9 := (List.getElem?_eq_some_iff.mp hq).1
      have e9 : (zk_tys fun k => Classical.choose (h2 k)).length = 8 := by unfold zk_tys; rw [List.length_map, List.length_range]
      exact Nat.lt_of_lt_of_eq h9 e9
    have h9 := zk_tys_at (cA := fun k => Classical.choose (h2 k)) (k + 1) (by omega) (by omega)
    rw [show k + 1 - 1 = k by omega] at h9
    obtain rfl := Option.some.inj (h9.symm.trans hq)
    exact Classical.choose_spec (h2 (k + 1)) (by omega) (by omega)
  · exact vx_Zqof (hts _ (List.mem_of_getElem? (i := 135) (by decide +kernel))) (hts _ (List.mem_of_getElem? (i := 23) (by decide +kernel))) (hg _ (List.mem_of_getElem? (i := 4) (by decide +kernel))) hA
  · exact vx_Zqof (hts _ (List.mem_of_getElem? (i := 137) (by decide +kernel))) (hts _ (List.mem_of_getElem? (i := 23) (by decide +kernel))) (hg _ (List.mem_of_getElem? (i := 5) (by decide +kernel))) hA
  · unfold zk_nest
    exact List.forall_mem_cons.mpr ⟨va_Nw.of rfl (hts _ (List.mem_of_getElem? (i := 48) (by decide +kernel))), List.forall_mem_cons.mpr ⟨va_Nw.of rfl (hts _ (List.mem_of_getElem? (i := 470) (by decide +kernel))), List.forall_mem_cons.mpr ⟨va_Nw.of rfl (hts _ (List.mem_of_getElem? (i := 558) (by decide +kernel))), fun _ h => nomatch h⟩⟩⟩
  · exact List.forall_mem_cons.mpr ⟨va_AO.of (hts _ zw_over_X0), List.forall_mem_cons.mpr ⟨va_AO.of (hts _ zw_over_X2), List.forall_mem_cons.mpr ⟨va_AO.of (hts _ zw_over_X3), List.forall_mem_cons.mpr ⟨va_AO.of (hts _ zw_over_X4), fun _ h => nomatch h⟩⟩⟩⟩
  · obtain ⟨g1, g2⟩ := zw_str_in q hq
    have hw := hts _ g1
    obtain ⟨-, -, -, a, -, -, -, -, -, hev⟩ := Cond.stringRef_spec (g2 ▸ hK5.2.1) hw
    exact ⟨a, vk_R.of hw hev⟩
  · unfold zk_nc
    exact List.forall_mem_cons.mpr ⟨va_Nc.of (hg _ (List.mem_of_getElem? (i := 8) (by decide +kernel))), List.forall_mem_cons.mpr ⟨va_Nc.of (hg _ (List.mem_of_getElem? (i := 9) (by decide +kernel))), List.forall_mem_cons.mpr ⟨va_Nc.of (hg _ (List.mem_of_getElem? (i := 16) (by decide +kernel))), List.forall_mem_cons.mpr ⟨va_Nc.of (hg _ (List.mem_of_getElem? (i := 18) (by decide +kernel))), List.forall_mem_cons.mpr ⟨va_Nc.of (hg _ (List.mem_of_getElem? (i := 24) (by decide +kernel))), List.forall_mem_cons.mpr ⟨va_Nc.of (hg _ (List.mem_of_getElem? (i := 26) (by decide +kernel))), fun _ h => nomatch h⟩⟩⟩⟩⟩⟩
  · exact hts _ zw_over_A
theorem whole_start {p : Program} {e : Env} {s : State} {m : MethodId} {below : List Frame} {meth : Method} {c : Code} (l : Launch) (hflags : l.flags = flags0) {b L : Nat} {xs : Nat → Int32} (hL : L ≤ 260) (C0 : lw_At p s m meth c b L xs) : W p l e room_1 s m #[Value.ref b] below meth c s.heap [] 0 0 (lw_Z below #[Value.ref b] s) (entryFrame m ([Value.ref b] : List Value).toArray 17) := by
  obtain ⟨D, K⟩ := zk_start hL C0
  obtain ⟨hx, hb, hr, hml, hown, hts, hX, hbl, hlocks, hgv⟩ := id C0
  have hst : l.stackTraces = false := by unfold Launch.stackTraces; rw [hflags]; decide +kernel
  have hl := lv_entry ([.ref b]) (n := 17) (Nat.le_of_ble_eq_true rfl)
  rw [lg_entry_eq]
  generalize (lg_sl ([.ref b]) ++ List.replicate (17 - (lg_sl ([.ref b])).length) Slot.unset).toArray = ls at hl ⊢
  have hl : lv_has ls 17 [(0, .ref b)] := hl
  refine zW_room (R := zz_rm 13 600104 7301313) (Nat.le_of_ble_eq_true rfl) (Nat.le_of_ble_eq_true rfl) (Nat.le_of_ble_eq_true rfl) (Nat.le_of_ble_eq_true rfl) ?_
  let sh0 : zm_Sh := fun l => if l = 10 then some (9, 0) else none
  have hXX : zz_X (p, l, e, zz_rm 13 600104 7301313, s, m, #[Value.ref b], below, meth, c) (D, (s.heap.size, b, L, xs), 17, (fun _ => b), sh0) RL cL_law 13 600104 7301313 := ⟨hx, hb, hml, hown, hlocks, hst, K, rfl⟩
  have Z := law_entry (Q := lw_Z below #[Value.ref b] s) hXX (fun sh mi mr c9 s9 n h1 h2 => by
    refine zz_iload hXX dL_law_494 12 rfl ?_
    refine zz_top (show nI 1 = 1 from rfl) ?_
    intro ad H locs la h
    refine va_forget (fun q hq => h.2.1.2.2 q hq) ?_
    refine W.widen h1 h2 ?_
    exact zl_ret hx hb hr hlocks dL_law_496) sh0 (fun _ _ => 0) (fun _ _ => none) (if_pos rfl) (fun l h => if_neg h)
  have hz : ∀ l, sh0 l = some (9, 0) ∨ sh0 l = none := fun l => by
    by_cases h : l = 10
    · exact Or.inl (if_pos h)
    · exact Or.inr (if_neg h)
  refine Z (fun _ => b) s.heap [] ls ⟨⟨⟨[], ⟨List.nodup_nil, fun l => ⟨(fun h => nomatch h), fun h => ?_⟩⟩, (fun k q h => (by simp at h)), (fun i j p q h => (by simp at h)), (fun k q h => (by simp at h))⟩, (fun l k x h => (by cases h)), (fun l h => rfl)⟩, va_S.rf, fun x _ => ⟨rfl, rfl⟩, fun q hq => ?_, zm_on, hl⟩
  · exact ((hz l).elim (fun e => absurd e h.2) (fun e => absurd e h.1))
  · rw [List.mem_singleton] at hq
    subst hq
    have e10 : sh0 10 = some (9, 0) := if_pos rfl
    exact ⟨(fun (h : sh0 10 = none) => (nomatch (e10.symm.trans h))), rfl⟩
