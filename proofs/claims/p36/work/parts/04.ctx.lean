/-! ===== what every method may rest on: the tables' words, the classes, the constants, the script ===== -/
def zk_ok (w : Cond) : Bool := (w.onTables && w.keepsFace) || (match w with
  | .arrayClass _ => true
  | _ => false)
def zk_nest : List (String × Nat × MethodName × String) := [("FrameClay", 28, (⟨"FrameClay$Voice", "<init>", "()V"⟩ : MethodName), "FrameClay"), ("FrameClay$Track", 34, (⟨"FrameClay", "shorterWay", "(II)I"⟩ : MethodName), "FrameClay"), ("FrameClay$Puppet", 25, (⟨"FrameClay", "shorterWay", "(II)I"⟩ : MethodName), "FrameClay")]
def zk_str : List (String × Nat × String) := [("FrameClay", 273, "no such frame of the film"), ("FrameClay", 278, "out of range"), ("FrameClay", 65, "there are 5 puppets"), ("FrameClay", 298, "no such puppet"), ("FrameClay", 83, "more than 9 mouths"), ("FrameClay", 88, "the voice has 12 sounds"), ("FrameClay", 94, "the voice has no sound"), ("FrameClay", 96, "there are 6 voices"), ("FrameClay", 283, "no such voice"), ("FrameClay", 101, "there are 8 shots"), ("FrameClay", 285, "no such shot"), ("FrameClay", 281, "no such animator"), ("FrameClay", 117, "the shot is done"), ("FrameClay", 129, "the shot has begun, and its animator is not ill"), ("FrameClay", 290, "no such joint"), ("FrameClay", 292, "no such frame"), ("FrameClay", 296, "the frame is struck"), ("FrameClay", 152, "the frame is held"), ("FrameClay", 319, "the shot has no animator"), ("FrameClay", 321, "the animator is ill"), ("FrameClay", 323, "another shot has begun, and is not done"), ("FrameClay", 325, "a joint is broken"), ("FrameClay", 327, "no such mouth is left"), ("FrameClay", 206, "the shot has not begun"), ("FrameClay", 211, "the frame is not struck"), ("FrameClay", 216, "the shot is in the film"), ("FrameClay", 221, "the shot is not done"), ("FrameClay", 229, "the shot is not in the film"), ("FrameClay", 294, "no such struck frame")]
def zk_nc : List (String × String) := [("java/lang/IllegalArgumentException", "java/lang/IndexOutOfBoundsException"), ("java/lang/IllegalStateException", "java/lang/IndexOutOfBoundsException"), ("java/lang/IllegalStateException", "java/lang/IllegalArgumentException"), ("java/lang/IndexOutOfBoundsException", "java/lang/IllegalArgumentException"), ("java/lang/IllegalArgumentException", "java/lang/IllegalStateException"), ("java/lang/IndexOutOfBoundsException", "java/lang/IllegalStateException")]
def zk_ty : Nat → FieldType := fun k => match k with
  | 1 => .int
  | 2 => .boolean
  | 3 => .boolean
  | 4 => .object RX0
  | 5 => .object RX2
  | 6 => .object RX3
  | 7 => .object RX4
  | _ => .array .int
def zk_tys (cA : Nat → ClassId) : List (ClassId × FieldType) := (List.range 8).map fun k => (cA (k + 1), zk_ty (k + 1))
theorem zk_tys_at {cA : Nat → ClassId} (k : Nat) (h1 : 1 ≤ k) (h2 : k ≤ 8) : (zk_tys cA)[k - 1]? = some (cA k, zk_ty k) := by
  unfold zk_tys
  rw [List.getElem?_map, List.getElem?_range (by omega), Option.map_some, show k - 1 + 1 = k by omega]
/-- [[I may be made -/
def zk_AOA (U : State) : Prop := (Cond.arrayOver (.array .int)).before #[] U = true
def zk_K (D : zz_D) (E : zz_E) (U : State) : Prop :=
  va_K D.1 vwCl (zk_tys D.2) U ∧ vx_Zq Bundle.tN "UNASSIGNED_STACK" Bundle.steD (fun q => E.1 ≤ q) U U.heap ∧ vx_Zq Bundle.tN "SUPPRESSED_SENTINEL" Bundle.listD (fun q => E.1 ≤ q) U U.heap ∧
  (∀ w ∈ lw_tbl, zk_ok w = true → w.before #[] U = true) ∧ (∀ q ∈ zk_nest, va_Nw (.methodLinkNest q.1 q.2.1 q.2.2.1 q.2.2.2) U) ∧ (∀ C ∈ [RX0, RX2, RX3, RX4], va_AO C U) ∧
  (∀ q ∈ zk_str, ∃ a, vk_R q.1 q.2.1 q.2.2 a U) ∧ (∀ q ∈ zk_nc, va_Nc q.1 q.2 U) ∧ zk_AOA U ∧ ((E.2.1 < E.1 ∧ E.2.2.1 < 2 ^ 31) ∧ va_X E.2.1 E.2.2.1 E.2.2.2 U U.heap) ∧ E.1 ≤ U.heap.size
theorem zk_idx_bare (vm : Vm) (comp : ClassId) : (vm.bare.classes.findIdx? fun (x : Class) => match x.kind with | .array component _ => component == comp | _ => false) = (vm.classes.findIdx? fun (x : Class) => match x.kind with | .array component _ => component == comp | _ => false) := by
  simp only [Vm.bare, Array.findIdx?_map]
  rfl
theorem zk_over {args : Array Value} {s : State} {t : FieldType} (h : (Cond.arrayOver (.array t)).before args s = true) :
    ∃ comp c k, s.vm.findClass (FieldType.array t).toString = some comp ∧ (s.vm.classes.findIdx? fun x => match x.kind with | .array component _ => component == comp | _ => false) = some c ∧ s.vm.classes[c]? = some k ∧ k.kind = .array comp (.array t) ∧ s.vm.findClass ("[" ++ (FieldType.array t).toString) = some c := by
  simp only [Cond.before, Cond.holds, Cond.value, beq_iff_eq] at h
  cases hc : s.vm.findClass (FieldType.array t).toString with
  | none => simp [hc] at h
  | some comp =>
    simp only [hc, Option.bind_some, Option.bind_eq_some_iff, Option.map_eq_some_iff] at h
    obtain ⟨c, hi, k, hk, hb⟩ := h
    obtain ⟨hlt, hp, -⟩ := Array.findIdx?_eq_some_iff_getElem.mp hi
    have hkk : s.vm.classes[c] = k := (Array.getElem?_eq_some_iff.mp hk).2
    rw [hkk] at hp
    cases hkind : k.kind with
    | array component ty =>
      rw [hkind] at hb hp
      simp at hb hp
      exact ⟨comp, c, k, rfl, hi, hk, by rw [hkind, hp, hb.1], hb.2⟩
    | _ => rw [hkind] at hb; simp at hb
theorem zk_AOA.moved {u U : State} (hvm : u.vm.Alike U.vm) (h : zk_AOA u) : zk_AOA U := by
  obtain ⟨comp, c, k, h1, h2, h3, h4, h5⟩ := zk_over h
  obtain ⟨k', hk', he⟩ := hvm.2.2 _ _ h3
  have hi : (U.vm.classes.findIdx? fun (x : Class) => match x.kind with | .array component _ => component == comp | _ => false) = some c := by
    rw [← zk_idx_bare]
    first | rw [hvm.bare_eq] | rw [← hvm.bare_eq]
    rw [zk_idx_bare]
    exact h2
  have hkind : k'.kind = .array comp (.array .int) := by rw [he]; exact h4
  have f1 : U.vm.findClass (FieldType.array .int).toString = some comp := by rw [hvm.findClass]; exact h1
  have f2 : U.vm.findClass ("[" ++ (FieldType.array .int).toString) = some c := by rw [hvm.findClass]; exact h5
  unfold zk_AOA Cond.before Cond.holds
  simp only [Cond.value]
  rw [f1, Option.bind_some]
  refine (congrArg (fun o : Option Nat => (o.bind (fun c => (U.vm.classes[c]?).map fun (k : Class) => match k.kind with | .array _ ty => decide (ty = FieldType.array .int) && decide (U.vm.findClass ("[" ++ (FieldType.array .int).toString) = some c) | _ => false) == some true)) hi).trans ?_
  simp [hk', hkind, f2]
theorem zk_Nc.moved {E T : String} {u U : State} (hvm : u.vm.Alike U.vm) (h : va_Nc E T u) : va_Nc E T U := by
  obtain ⟨c, t, h1, h2, h3⟩ := h
  exact ⟨c, t, by rw [hvm.findClass]; exact h1, by rw [hvm.findClass]; exact h2, by rw [hvm.assignable]; exact h3⟩
theorem zk_word {args args' : Array Value} {s U : State} (hW : s.WarmedH U.vm) {w : Cond} (hw : zk_ok w = true) (h : w.before args s = true) : w.before args' U = true := by
  unfold zk_ok at hw
  rw [Bool.or_eq_true, Bool.and_eq_true] at hw
  rcases hw with ⟨h1, h2⟩ | h1
  · have h3 := Cond.before_shiftedFace (State.Shifted.of_warmed hW) w h2 h
    exact va_tabs h1 (rfl : (s.setVm U.vm).vm = U.vm) h3
  · refine word_at hW (Or.inr ?_) h
    cases w <;> first | exact ⟨_, rfl⟩ | cases h1
theorem zk_K.moved {D : zz_D} {E : zz_E} {u U : State} (h : zk_K D E u) (hW : u.WarmedH U.vm) (hz : u.heap.size ≤ U.heap.size) (hq : ∀ q : Nat, q < u.heap.size → ¬ E.1 ≤ q → U.heap[q]? = u.heap[q]?) : zk_K D E U := by
  obtain ⟨h1, h2, h3, h4, h5, h6, h7, h8, h9, ⟨h10, h11⟩, h12⟩ := h
  refine ⟨va_K.moved hW.alike h1, vx_Zq.moved hW.alike (h2.kept hq), vx_Zq.moved hW.alike (h3.kept hq), fun w hw ho => zk_word hW ho (h4 w hw ho), fun q hx => va_Nw.warmM hW (h5 q hx), fun C hC => va_AO.moved hW.alike (h6 C hC), fun q hx => ?_, fun q hx => zk_Nc.moved hW.alike (h8 q hx), zk_AOA.moved hW.alike h9, ⟨h10, va_X.moved hW.alike (h11.kept (hq _ (by omega) (by omega)))⟩, by omega⟩
  obtain ⟨a, ha⟩ := h7 q hx
  exact ⟨a, vk_R.warm hW ha⟩
theorem zk_w {D : zz_D} {E : zz_E} {s : State} (h : zk_K D E s) {w : Cond} (hw : w ∈ lw_tbl) (ho : zk_ok w = true) {args : Array Value} : w.before args s = true := zk_word (State.WarmedH.refl s) ho (h.2.2.2.1 w hw ho)
