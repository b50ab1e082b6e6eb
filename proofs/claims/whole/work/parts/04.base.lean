def F_B : u_T := fun k => match k with
  | 0 => ("MemberInspection$Box", "kind", "I", true)
  | 1 => ("MemberInspection$Box", "whole", "J", true)
  | _ => ("MemberInspection$Box", "real", "D", true)
def ft_B : Nat → FieldType := fun k => match k with
  | 0 => .int
  | 1 => .long
  | _ => .double
theorem nm_B : ∀ a, a < 3 → ∀ b, b < 3 → a ≠ b → (F_B a).2.1 ≠ (F_B b).2.1 := by decide +kernel
theorem to_B : ∀ k, k < 3 → parseFieldDescriptor (F_B k).2.2.1 = some (ft_B k) := by decide +kernel
theorem in_B : ∀ w ∈ u_ws N_B F_B 3, w ∈ gd_tbl := by
  intro w hw
  obtain ⟨k, hk, rfl⟩ := List.mem_map.mp hw
  have hk := List.mem_range.mp hk
  match k, hk with
  | 0, _ => exact gd_in 74 (by decide +kernel) rfl
  | 1, _ => exact gd_in 76 (by decide +kernel) rfl
  | 2, _ => exact gd_in 78 (by decide +kernel) rfl
  | k + 3, hk => exact absurd hk (by omega)
def F_I : u_T := fun k => match k with
  | 0 => ("MemberInspection$Item", "whole", "I", false)
  | 1 => ("MemberInspection$Item", "small", "B", false)
  | 2 => ("MemberInspection$Item", "real", "D", false)
  | 3 => ("MemberInspection$Item", "text", "LMemberInspection$Text;", false)
  | 4 => ("MemberInspection$Item", "any", "LMemberInspection$Held;", false)
  | _ => ("MemberInspection$Item", "next", "LMemberInspection$Item;", false)
def ft_I : Nat → FieldType := fun k => match k with
  | 0 => .int
  | 1 => .byte
  | 2 => .double
  | 3 => .object "MemberInspection$Text"
  | 4 => .object "MemberInspection$Held"
  | _ => .object "MemberInspection$Item"
theorem nm_I : ∀ a, a < 6 → ∀ b, b < 6 → a ≠ b → (F_I a).2.1 ≠ (F_I b).2.1 := by decide +kernel
theorem to_I : ∀ k, k < 6 → parseFieldDescriptor (F_I k).2.2.1 = some (ft_I k) := by decide +kernel
theorem in_I : ∀ w ∈ u_ws N_I F_I 6, w ∈ gd_tbl := by
  intro w hw
  obtain ⟨k, hk, rfl⟩ := List.mem_map.mp hw
  have hk := List.mem_range.mp hk
  match k, hk with
  | 0, _ => exact gd_in 121 (by decide +kernel) rfl
  | 1, _ => exact gd_in 123 (by decide +kernel) rfl
  | 2, _ => exact gd_in 125 (by decide +kernel) rfl
  | 3, _ => exact gd_in 127 (by decide +kernel) rfl
  | 4, _ => exact gd_in 129 (by decide +kernel) rfl
  | 5, _ => exact gd_in 131 (by decide +kernel) rfl
  | k + 6, hk => exact absurd hk (by omega)
def F_P : u_T := fun k => match k with
  | _ => ("", "", "", false)
def ft_P : Nat → FieldType := fun k => match k with
  | _ => .int
theorem nm_P : ∀ a, a < 0 → ∀ b, b < 0 → a ≠ b → (F_P a).2.1 ≠ (F_P b).2.1 := by decide +kernel
theorem to_P : ∀ k, k < 0 → parseFieldDescriptor (F_P k).2.2.1 = some (ft_P k) := by decide +kernel
theorem in_P : ∀ w ∈ u_ws N_P F_P 0, w ∈ gd_tbl := by
  intro w hw
  obtain ⟨k, hk, rfl⟩ := List.mem_map.mp hw
  have hk := List.mem_range.mp hk
  exact absurd hk (by omega)
def F_S : u_T := fun k => match k with
  | 0 => ("MemberInspection$Item", "whole", "I", false)
  | 1 => ("MemberInspection$Item", "small", "B", false)
  | 2 => ("MemberInspection$Item", "real", "D", false)
  | 3 => ("MemberInspection$Item", "text", "LMemberInspection$Text;", false)
  | 4 => ("MemberInspection$Item", "any", "LMemberInspection$Held;", false)
  | 5 => ("MemberInspection$Item", "next", "LMemberInspection$Item;", false)
  | _ => ("MemberInspection$Special", "extra", "S", false)
def ft_S : Nat → FieldType := fun k => match k with
  | 0 => .int
  | 1 => .byte
  | 2 => .double
  | 3 => .object "MemberInspection$Text"
  | 4 => .object "MemberInspection$Held"
  | 5 => .object "MemberInspection$Item"
  | _ => .short
theorem nm_S : ∀ a, a < 7 → ∀ b, b < 7 → a ≠ b → (F_S a).2.1 ≠ (F_S b).2.1 := by decide +kernel
theorem to_S : ∀ k, k < 7 → parseFieldDescriptor (F_S k).2.2.1 = some (ft_S k) := by decide +kernel
theorem in_S : ∀ w ∈ u_ws N_S F_S 7, w ∈ gd_tbl := by
  intro w hw
  obtain ⟨k, hk, rfl⟩ := List.mem_map.mp hw
  have hk := List.mem_range.mp hk
  match k, hk with
  | 0, _ => exact gd_in 143 (by decide +kernel) rfl
  | 1, _ => exact gd_in 144 (by decide +kernel) rfl
  | 2, _ => exact gd_in 145 (by decide +kernel) rfl
  | 3, _ => exact gd_in 146 (by decide +kernel) rfl
  | 4, _ => exact gd_in 147 (by decide +kernel) rfl
  | 5, _ => exact gd_in 148 (by decide +kernel) rfl
  | 6, _ => exact gd_in 141 (by decide +kernel) rfl
  | k + 7, hk => exact absurd hk (by omega)
def F_T : u_T := fun k => match k with
  | _ => ("MemberInspection$Text", "number", "I", true)
def ft_T : Nat → FieldType := fun k => match k with
  | _ => .int
theorem nm_T : ∀ a, a < 1 → ∀ b, b < 1 → a ≠ b → (F_T a).2.1 ≠ (F_T b).2.1 := by decide +kernel
theorem to_T : ∀ k, k < 1 → parseFieldDescriptor (F_T k).2.2.1 = some (ft_T k) := by decide +kernel
theorem in_T : ∀ w ∈ u_ws N_T F_T 1, w ∈ gd_tbl := by
  intro w hw
  obtain ⟨k, hk, rfl⟩ := List.mem_map.mp hw
  have hk := List.mem_range.mp hk
  match k, hk with
  | 0, _ => exact gd_in 53 (by decide +kernel) rfl
  | k + 1, hk => exact absurd hk (by omega)
def F_C : u_T := fun k => match k with
  | 0 => ("MemberInspection", "handles", "[LMemberInspection$Held;", true)
  | 1 => ("MemberInspection", "shared", "J", false)
  | _ => ("MemberInspection", "lastTold", "J", false)
def ft_C : Nat → FieldType := fun k => match k with
  | 0 => .array (.object "MemberInspection$Held")
  | 1 => .long
  | _ => .long
theorem nm_C : ∀ a, a < 3 → ∀ b, b < 3 → a ≠ b → (F_C a).2.1 ≠ (F_C b).2.1 := by decide +kernel
theorem to_C : ∀ k, k < 3 → parseFieldDescriptor (F_C k).2.2.1 = some (ft_C k) := by decide +kernel
theorem in_C : ∀ w ∈ u_ws N_C F_C 3, w ∈ gd_tbl := by
  intro w hw
  obtain ⟨k, hk, rfl⟩ := List.mem_map.mp hw
  have hk := List.mem_range.mp hk
  match k, hk with
  | 0, _ => exact gd_in 24 (by decide +kernel) rfl
  | 1, _ => exact gd_in 26 (by decide +kernel) rfl
  | 2, _ => exact gd_in 28 (by decide +kernel) rfl
  | k + 3, hk => exact absurd hk (by omega)
def F_M : u_T := fun k => match k with
  | 0 => ("MemberInspectionModel", "sort", "[I", true)
  | 1 => ("MemberInspectionModel", "whole", "[J", true)
  | 2 => ("MemberInspectionModel", "real", "[D", true)
  | 3 => ("MemberInspectionModel", "small", "[I", true)
  | 4 => ("MemberInspectionModel", "extra", "[I", true)
  | 5 => ("MemberInspectionModel", "text", "[I", true)
  | 6 => ("MemberInspectionModel", "any", "[I", true)
  | 7 => ("MemberInspectionModel", "next", "[I", true)
  | 8 => ("MemberInspectionModel", "objects", "I", false)
  | 9 => ("MemberInspectionModel", "held", "[I", true)
  | 10 => ("MemberInspectionModel", "shared", "J", false)
  | 11 => ("MemberInspectionModel", "last", "J", false)
  | 12 => ("MemberInspectionModel", "wholeNow", "J", false)
  | _ => ("MemberInspectionModel", "realNow", "D", false)
def ft_M : Nat → FieldType := fun k => match k with
  | 0 => .array .int
  | 1 => .array .long
  | 2 => .array .double
  | 3 => .array .int
  | 4 => .array .int
  | 5 => .array .int
  | 6 => .array .int
  | 7 => .array .int
  | 8 => .int
  | 9 => .array .int
  | 10 => .long
  | 11 => .long
  | 12 => .long
  | _ => .double
theorem nm_M : ∀ a, a < 14 → ∀ b, b < 14 → a ≠ b → (F_M a).2.1 ≠ (F_M b).2.1 := by decide +kernel
theorem to_M : ∀ k, k < 14 → parseFieldDescriptor (F_M k).2.2.1 = some (ft_M k) := by decide +kernel
theorem in_M : ∀ w ∈ u_ws N_M F_M 14, w ∈ gd_tbl := by
  intro w hw
  obtain ⟨k, hk, rfl⟩ := List.mem_map.mp hw
  have hk := List.mem_range.mp hk
  match k, hk with
  | 0, _ => exact gd_in 386 (by decide +kernel) rfl
  | 1, _ => exact gd_in 388 (by decide +kernel) rfl
  | 2, _ => exact gd_in 390 (by decide +kernel) rfl
  | 3, _ => exact gd_in 392 (by decide +kernel) rfl
  | 4, _ => exact gd_in 394 (by decide +kernel) rfl
  | 5, _ => exact gd_in 396 (by decide +kernel) rfl
  | 6, _ => exact gd_in 398 (by decide +kernel) rfl
  | 7, _ => exact gd_in 400 (by decide +kernel) rfl
  | 8, _ => exact gd_in 402 (by decide +kernel) rfl
  | 9, _ => exact gd_in 404 (by decide +kernel) rfl
  | 10, _ => exact gd_in 406 (by decide +kernel) rfl
  | 11, _ => exact gd_in 408 (by decide +kernel) rfl
  | 12, _ => exact gd_in 410 (by decide +kernel) rfl
  | 13, _ => exact gd_in 412 (by decide +kernel) rfl
  | k + 14, hk => exact absurd hk (by omega)
abbrev kcl : List vw_C := [(N_B, F_B, 3), (N_I, F_I, 6), (N_P, F_P, 0), (N_S, F_S, 7), (N_T, F_T, 1), (N_C, F_C, 3), (N_M, F_M, 14)]
def nfF : List (String × Nat × String × String × String × String) := [("MemberInspection", 208, "MemberInspection$Text", "number", "I", "MemberInspection"), ("MemberInspection", 158, "MemberInspection$Box", "kind", "I", "MemberInspection"), ("MemberInspection", 162, "MemberInspection$Box", "whole", "J", "MemberInspection"), ("MemberInspection", 165, "MemberInspection$Box", "real", "D", "MemberInspection"), ("MemberInspection$Special", 15, "MemberInspection$Item", "whole", "I", "MemberInspection"), ("MemberInspection", 191, "MemberInspection$Item", "whole", "I", "MemberInspection"), ("MemberInspection", 204, "MemberInspection$Item", "small", "B", "MemberInspection"), ("MemberInspection$Box", 23, "MemberInspection", "BOX_TYPES", "[I", "MemberInspection")]
def nfM : List (String × Nat × MethodName × String) := [("MemberInspection$Text", 3, y_H_init, "MemberInspection"), ("MemberInspection$Box", 3, y_H_init, "MemberInspection"), ("MemberInspection$Item", 3, y_H_init, "MemberInspection"), ("MemberInspection", 178, y_P_init, "MemberInspection"), ("MemberInspection$Plain", 3, y_H_init, "MemberInspection"), ("MemberInspection$Special", 19, y_C_boxOfWhole, "MemberInspection"), ("MemberInspection$Item", 15, y_C_boxOfWhole, "MemberInspection"), ("MemberInspection$Item", 27, y_C_boxOfReal, "MemberInspection"), ("MemberInspection$Special", 27, y_C_wholeOf, "MemberInspection"), ("MemberInspection$Item", 45, y_C_wholeOf, "MemberInspection"), ("MemberInspection$Item", 49, y_C_realOf, "MemberInspection"), ("MemberInspection$Item", 53, y_C_textOf, "MemberInspection"), ("MemberInspection$Item", 57, y_C_itemOf, "MemberInspection")]
def nfC : List (String × String) := [("MemberInspection$Item", "MemberInspection$Item"), ("MemberInspection$Special", "MemberInspection$Item"), ("MemberInspection$Special", "MemberInspection$Special"), ("MemberInspection$Box", "MemberInspection$Box"), ("MemberInspection$Text", "MemberInspection$Text"), ("MemberInspection$Plain", "MemberInspection$Plain"), ("MemberInspection$Box", "MemberInspection$Held"), ("MemberInspection$Item", "MemberInspection$Held"), ("MemberInspection$Plain", "MemberInspection$Held"), ("MemberInspection$Special", "MemberInspection$Held"), ("MemberInspection$Text", "MemberInspection$Held")]
def nfD : List MethodName := [y_H_sort, y_H_type]
def nfN : List (String × String) := [("MemberInspection", "MemberInspection$Item"), ("MemberInspectionModel", "MemberInspection$Item"), ("MemberInspection$Text", "MemberInspection$Item"), ("MemberInspection$Box", "MemberInspection$Item"), ("MemberInspection$Plain", "MemberInspection$Item"), ("MemberInspection", "MemberInspection$Special"), ("MemberInspectionModel", "MemberInspection$Special"), ("MemberInspection$Text", "MemberInspection$Special"), ("MemberInspection$Box", "MemberInspection$Special"), ("MemberInspection$Item", "MemberInspection$Special"), ("MemberInspection$Plain", "MemberInspection$Special"), ("MemberInspection", "MemberInspection$Box"), ("MemberInspectionModel", "MemberInspection$Box"), ("MemberInspection$Text", "MemberInspection$Box"), ("MemberInspection$Item", "MemberInspection$Box"), ("MemberInspection$Special", "MemberInspection$Box"), ("MemberInspection$Plain", "MemberInspection$Box"), ("MemberInspection", "MemberInspection$Text"), ("MemberInspectionModel", "MemberInspection$Text"), ("MemberInspection$Box", "MemberInspection$Text"), ("MemberInspection$Item", "MemberInspection$Text"), ("MemberInspection$Special", "MemberInspection$Text"), ("MemberInspection$Plain", "MemberInspection$Text"), ("MemberInspection", "MemberInspection$Plain"), ("MemberInspectionModel", "MemberInspection$Plain"), ("MemberInspection$Text", "MemberInspection$Plain"), ("MemberInspection$Box", "MemberInspection$Plain"), ("MemberInspection$Item", "MemberInspection$Plain"), ("MemberInspection$Special", "MemberInspection$Plain")]
def sf_ABSTRACT_TYPES : List Int32 := [0, 1, 0, 0, 1, 0, 0, 1, 1, 1, 1, 1, 1]
def sf_FIELD_WANTS : List Int32 := [4, 1, 7, 8, 10, 9, 4, 5, 3]
def sf_ARGUMENT_COUNTS : List Int32 := [2, 2, 1, 2, 1, 1]
def sf_FIRST_WANTS : List Int32 := [4, 8, 7, 4, 9, 3]
def sf_SECOND_WANTS : List Int32 := [5, 10, 10, 4, 10, 10]
def sf_BOX_TYPES : List Int32 := [0, 1, 0, 1, 2, 1, 1, 1]
def sf_TYPES_ABOVE : List Int32 := [(-2), 0, 1, 0, (-2), 0, 5, 0, (-2), 0, 0, 0, 0]
def sf_ELEMENT_TYPES : List Int32 := [(-2), (-2), (-2), (-2), (-2), (-2), (-2), (-2), (-2), 8, 0, 5, 6]
def sfL : List (String × List Int32) := [("ABSTRACT_TYPES", sf_ABSTRACT_TYPES), ("FIELD_WANTS", sf_FIELD_WANTS), ("ARGUMENT_COUNTS", sf_ARGUMENT_COUNTS), ("FIRST_WANTS", sf_FIRST_WANTS), ("SECOND_WANTS", sf_SECOND_WANTS), ("BOX_TYPES", sf_BOX_TYPES), ("TYPES_ABOVE", sf_TYPES_ABOVE), ("ELEMENT_TYPES", sf_ELEMENT_TYPES)]
def NF (U : State) : Prop := (∀ q ∈ nfF, va_Nw (.fieldLinkNest q.1 q.2.1 q.2.2.1 q.2.2.2.1 q.2.2.2.2.1 q.2.2.2.2.2) U) ∧ (∀ q ∈ nfM, va_Nw (.methodLinkNest q.1 q.2.1 q.2.2.1 q.2.2.2) U) ∧ (∀ q ∈ nfC, va_Nw (.castable q.1 q.2) U) ∧ (∀ q ∈ nfD, va_Nw (.declares q) U) ∧ (∀ q ∈ nfN, va_Nc q.1 q.2 U)
theorem NF.warm {s U : State} (h : NF s) (hW : s.WarmedH U.vm) : NF U := ⟨fun q hq => va_Nw.warmF hW (h.1 q hq), fun q hq => va_Nw.warmM hW (h.2.1 q hq), fun q hq => va_Nw.warmC hW (h.2.2.1 q hq), fun q hq => va_Nw.warmD hW (h.2.2.2.1 q hq), fun q hq => (h.2.2.2.2 q hq).moved hW.alike⟩
theorem NF.same {u U : State} (e : u.vm = U.vm) (h : NF u) : NF U := ⟨fun q hq => va_Nw.same rfl e (h.1 q hq), fun q hq => va_Nw.same rfl e (h.2.1 q hq), fun q hq => va_Nw.same rfl e (h.2.2.1 q hq), fun q hq => va_Nw.same rfl e (h.2.2.2.1 q hq), fun q hq => (h.2.2.2.2 q hq).moved (by rw [e]; exact Vm.Alike.refl _)⟩
/-- the static arrays: where they lie, what they hold -/
def SF (A : Nat → Prop) (U : State) (H : Heap) : Prop := ∀ q ∈ sfL, ∃ t : Nat, va_Z "MemberInspection" q.1 "[I" (.ref t) A U H ∧ va_T .int t q.2.length (fun j => .int (q.2.getD j 0)) A U H
theorem SF.moved {A : Nat → Prop} {u U : State} {H : Heap} (hvm : u.vm.Alike U.vm) (h : SF A u H) : SF A U H := fun q hq => by
  obtain ⟨t, h1, h2⟩ := h q hq
  exact ⟨t, h1.moved hvm, h2.moved hvm⟩
theorem SF.kept {A : Nat → Prop} {U : State} {H H1 : Heap} (h : SF A U H) (hq : ∀ a : Nat, a < H.size → ¬ A a → H1[a]? = H[a]?) : SF A U H1 := fun q hq1 => by
  obtain ⟨t, h1, h2⟩ := h q hq1
  exact ⟨t, h1.kept hq, h2.kept hq⟩
/-- what every method of mine is given, apart from its world -/
def kf (D : va_G) (tys : List (ClassId × FieldType)) (A : Nat → Prop) (U : State) : Prop := va_K D kcl tys U ∧ NF U ∧ SF A U U.heap ∧ ∀ q : Nat, U.heap.size ≤ q → A q
def KC (own : String) (cc : ByteArray) (nL : Nat) (D : va_G) (tys : List (ClassId × FieldType)) (A : Nat → Prop) (p : Program) (s : State) (m : MethodId) (args : Array Value) (c : Code) : Prop :=
  p.tables.exec = Jvm.exec ∧ c.code = cc ∧ c.maxLocals = nL ∧ s.vm.findClass own = some m.cls ∧ (∀ w ∈ gd_tbl, w.before args s = true) ∧ kf D tys A s
/-- a callee: its code is a word, its class stands -/
def KI (y : MethodName) (bytes : ByteArray) (maxL : Nat) (ret : Option FieldType) (n : Nat) : Prop := Cond.code y bytes maxL ret ∈ gd_tbl ∧ Cond.initialized y.cls ∈ gd_tbl ∧ y.cls ≠ "java/lang/invoke/MethodHandle" ∧ y.cls ≠ "java/lang/invoke/VarHandle" ∧ (parseMethodDescriptor y.desc).map (fun d => d.parameters.length) = some n
def KR (rm R : Room) (maxL mc ms : Nat) : Prop := rm.cells = mc ∧ rm.slots = ms ∧ rm.frames + 1 ≤ R.frames ∧ 8 + (maxL + 11) + rm.locals ≤ R.locals
abbrev kw (y : MethodName) (bytes : ByteArray) (maxL : Nat) (ret : Option FieldType) : List Cond := Cond.code y bytes maxL ret :: gd_tbl
abbrev kP (D : va_G) (tys : List (ClassId × FieldType)) (A : Nat → Prop) (As : List Value) (B : Heap → Prop) : Array Value → State → Prop := va_Pc As (fun U => kf D tys A U ∧ B U.heap)
theorem kblind {D : va_G} {tys : List (ClassId × FieldType)} {A : Nat → Prop} {As : List Value} {B : Heap → Prop} : FrameBlind (kP D tys A As B) := fun a U g mk q => ⟨q.1, ⟨va_K.moved (u := U) (U := U.calling g mk a) (Vm.Alike.refl U.vm) q.2.1.1, NF.same (u := U) (U := U.calling g mk a) rfl q.2.1.2.1, SF.moved (u := U) (U := U.calling g mk a) (Vm.Alike.refl U.vm) q.2.1.2.2.1, q.2.1.2.2.2⟩, q.2.2⟩
section KB
variable {p : Program} {l : Launch} {e : Env} {R : Room} {s : State} {m : MethodId} {args : Array Value} {below : List Frame} {meth : Method} {c : Code} {H : Heap} {locs : List Loc} {cells slots : Nat} {Q : State → Prop}
variable {cc : ByteArray} {pc : Nat} {ls : Array Slot} {rest st0 : List Value} {D : va_G} {A : Nat → Prop} {tys : List (ClassId × FieldType)} {own : String} {nL : Nat}
variable {y : MethodName} {bytes : ByteArray} {maxL mc ms n index : Nat} {ret : Option FieldType} {rm : Room} {Qc : Array Value → State → Outcome → State → Prop} {As : List Value} {B : Heap → Prop}
theorem KC.x (X : KC own cc nL D tys A p s m args c) : p.tables.exec = Jvm.exec := X.1
theorem KC.b (X : KC own cc nL D tys A p s m args c) : c.code = cc := X.2.1
theorem KC.nl (X : KC own cc nL D tys A p s m args c) : c.maxLocals = nL := X.2.2.1
theorem KC.o (X : KC own cc nL D tys A p s m args c) : s.vm.findClass own = some m.cls := X.2.2.2.1
theorem KC.t (X : KC own cc nL D tys A p s m args c) : ∀ w ∈ gd_tbl, w.before args s = true := X.2.2.2.2.1
theorem KC.f (X : KC own cc nL D tys A p s m args c) : kf D tys A s := X.2.2.2.2.2
theorem KC.K (X : KC own cc nL D tys A p s m args c) : va_K D kcl tys s := X.f.1
theorem KC.N (X : KC own cc nL D tys A p s m args c) : NF s := X.f.2.1
theorem KC.S (X : KC own cc nL D tys A p s m args c) : SF A s s.heap := X.f.2.2.1
theorem KC.al (X : KC own cc nL D tys A p s m args c) : ∀ q : Nat, s.heap.size ≤ q → A q := X.f.2.2.2
theorem kpre (X : KC own cc nL D tys A p s m args c) (hS : va_S A s.heap H locs) (hB : B H) (U : State) (hU : U.heap = H) (hW : s.WarmedH U.vm) : kf D tys A U ∧ B U.heap := by
  subst hU
  exact ⟨⟨va_K.moved hW.alike X.K, X.N.warm hW, (X.S.kept hS.2.1).moved hW.alike, fun q hq => X.al q (Nat.le_trans hS.1 hq)⟩, hB⟩
theorem kgood (hi : KI y bytes maxL ret n) : GoodIn gd_tbl (kw y bytes maxL ret) := gd_cons hi.1 gd_self
theorem krS (X : KC own cc nL D tys A p s m args c) (hsz : ls.size = nL) (hS : va_S A s.heap H locs) (hB : B H) (hM : Met l y (kw y bytes maxL ret) rm (kP D tys A As B) Qc mc ms A) (hi : KI y bytes maxL ret n) (hl : Cond.methodLink own index y ∈ gd_tbl) (hst : Cond.static y ∈ gd_tbl) (hr : KR rm R maxL mc ms) (hn : As.length = n) (h0 : st0 = As.reverse ++ rest) (hw : (rest.map fun v => v.category).sum ≤ 8) (hdg : decode cc pc = .ok (.invokestatic index, 3)) (hf : cells + mc ≤ R.cells ∧ slots + ms ≤ R.slots) :
    va_Run p l e R s m args below meth c H locs cells slots mc ms (F0 m pc ls st0) rest (Qc As.toArray) A :=
  va_runS ⟨X.x, X.b, X.nl, X.o, X.t⟩ hM (va_cwS n X.t (gd_cons hl (gd_cons hst (gd_cons hi.2.1 (kgood hi)))) rfl hr.1 hr.2.1 hi.2.2 hr.2.2) ⟨kblind, fun U hU hW => ⟨rfl, kpre X hS hB U hU hW⟩⟩ rfl hn hsz h0 (lv_room hw) hdg hf
theorem krSN {host : String} (X : KC own cc nL D tys A p s m args c) (hsz : ls.size = nL) (hS : va_S A s.heap H locs) (hB : B H) (hM : Met l y (kw y bytes maxL ret) rm (kP D tys A As B) Qc mc ms A) (hi : KI y bytes maxL ret n) (hl : va_Nw (.methodLinkNest own index y host) s) (hst : Cond.static y ∈ gd_tbl) (hr : KR rm R maxL mc ms) (hn : As.length = n) (h0 : st0 = As.reverse ++ rest) (hw : (rest.map fun v => v.category).sum ≤ 8) (hdg : decode cc pc = .ok (.invokestatic index, 3)) (hf : cells + mc ≤ R.cells ∧ slots + ms ≤ R.slots) :
    va_Run p l e R s m args below meth c H locs cells slots mc ms (F0 m pc ls st0) rest (Qc As.toArray) A :=
  va_runSN (host := host) (own := own) ⟨X.x, X.b, X.nl, X.o, X.t⟩ hM ⟨va_cnB n X.t (kgood hi) rfl hr.1 hr.2.1 hl (X.t _ hi.2.1) hi.2.2 hr.2.2, X.t _ hst, trivial⟩ ⟨kblind, fun U hU hW => ⟨rfl, kpre X hS hB U hU hW⟩⟩ rfl hn hsz h0 (lv_room hw) hdg hf
theorem krV {b : Nat} (X : KC own cc nL D tys A p s m args c) (hsz : ls.size = nL) (hS : va_S A s.heap H locs) (hB : B H) (hM : Met l y (kw y bytes maxL ret) rm (kP D tys A (.ref b :: As) B) Qc mc ms A) (hi : KI y bytes maxL ret n) (hl : Cond.methodLink own index y ∈ gd_tbl) (hin : Cond.instanceMethod y ∈ gd_tbl) (hse : Cond.selects y.cls y y ∈ gd_tbl) (hrec : ∃ cell : Cell, H[b]? = some cell ∧ cell.vm.isStatics = false ∧ s.vm.findClass y.cls = some cell.cls) (hr : KR rm R maxL mc ms) (hn : As.length = n) (h0 : st0 = As.reverse ++ .ref b :: rest) (hw : (rest.map fun v => v.category).sum ≤ 8) (hdg : decode cc pc = .ok (.invokevirtual index, 3)) (hf : cells + mc ≤ R.cells ∧ slots + ms ≤ R.slots) :
    va_Run p l e R s m args below meth c H locs cells slots mc ms (F0 m pc ls st0) rest (Qc (Value.ref b :: As).toArray) A :=
  va_runV (C := y.cls) ⟨X.x, X.b, X.nl, X.o, X.t⟩ hM (cwV n X.t (gd_cons hl (gd_cons hin (gd_cons hse (gd_cons hi.2.1 (kgood hi))))) rfl hr.1 hr.2.1 ⟨rfl, hi.2.2⟩ hr.2.2) ⟨kblind, hrec, fun U hU hW => ⟨rfl, kpre X hS hB U hU hW⟩⟩ rfl hn hsz h0 (lv_room hw) hdg hf
theorem krI {b : Nat} (X : KC own cc nL D tys A p s m args c) (hsz : ls.size = nL) (hS : va_S A s.heap H locs) (hB : B H) (hM : Met l y (kw y bytes maxL none) rm (kP D tys A (.ref b :: As) B) Qc mc ms A) (hi : KI y bytes maxL none n) (hl : Cond.methodLink own index y ∈ gd_tbl) (hin : Cond.instanceMethod y ∈ gd_tbl) (hy1 : y.name = "<init>") (hr : KR rm R maxL mc ms) (hn : As.length = n) (h0 : st0 = As.reverse ++ .ref b :: rest) (hw : (rest.map fun v => v.category).sum ≤ 8) (hdg : decode cc pc = .ok (.invokespecial index, 3)) (hf : cells + mc ≤ R.cells ∧ slots + ms ≤ R.slots) :
    va_Run p l e R s m args below meth c H locs cells slots mc ms (F0 m pc ls st0) rest (Qc (Value.ref b :: As).toArray) A :=
  va_runI ⟨X.x, X.b, X.nl, X.o, X.t⟩ hM (cwI n X.t (kgood hi) rfl hr.1 hr.2.1 (X.t _ hi.2.1) (X.t _ hl) (X.t _ hin) hy1 hi.2.2 hr.2.2) ⟨kblind, fun U hU hW => ⟨rfl, kpre X hS hB U hU hW⟩⟩ rfl hn hsz h0 (lv_room hw) hdg hf
theorem krIN {b : Nat} {host : String} (X : KC own cc nL D tys A p s m args c) (hsz : ls.size = nL) (hS : va_S A s.heap H locs) (hB : B H) (hM : Met l y (kw y bytes maxL none) rm (kP D tys A (.ref b :: As) B) Qc mc ms A) (hi : KI y bytes maxL none n) (hl : va_Nw (.methodLinkNest own index y host) s) (hin : Cond.instanceMethod y ∈ gd_tbl) (hy1 : y.name = "<init>") (hr : KR rm R maxL mc ms) (hn : As.length = n) (h0 : st0 = As.reverse ++ .ref b :: rest) (hw : (rest.map fun v => v.category).sum ≤ 8) (hdg : decode cc pc = .ok (.invokespecial index, 3)) (hf : cells + mc ≤ R.cells ∧ slots + ms ≤ R.slots) :
    va_Run p l e R s m args below meth c H locs cells slots mc ms (F0 m pc ls st0) rest (Qc (Value.ref b :: As).toArray) A :=
  va_runIN (host := host) (own := own) ⟨X.x, X.b, X.nl, X.o, X.t⟩ hM ⟨va_cnB n X.t (kgood hi) rfl hr.1 hr.2.1 hl (X.t _ hi.2.1) hi.2.2 hr.2.2, hy1, X.t _ hin⟩ ⟨kblind, fun U hU hW => ⟨rfl, kpre X hS hB U hU hW⟩⟩ rfl hn hsz h0 (lv_room hw) hdg hf
/-- an overriding method of the receiver's class C; the reference names x, whose body stands as a word -/
theorem krO {b : Nat} {C : String} {x : MethodName} {b0 : ByteArray} {m0 : Nat} {r0 : Option FieldType} (X : KC own cc nL D tys A p s m args c) (hsz : ls.size = nL) (hS : va_S A s.heap H locs) (hB : B H) (hM : Met l y (kw y bytes maxL ret) rm (kP D tys A (.ref b :: As) B) Qc mc ms A) (hi : KI y bytes maxL ret n) (hl : Cond.methodLink own index x ∈ gd_tbl) (hsm : Cond.sameMethod x.cls x.cls x.name x.desc ∈ gd_tbl) (hix : Cond.instanceMethod ⟨x.cls, x.name, x.desc⟩ ∈ gd_tbl) (h00 : Cond.code ⟨x.cls, x.name, x.desc⟩ b0 m0 r0 ∈ gd_tbl) (hse : Cond.selects C x y ∈ gd_tbl) (hin : Cond.instanceMethod y ∈ gd_tbl) (hx : x.cls ≠ "java/lang/invoke/MethodHandle" ∧ x.cls ≠ "java/lang/invoke/VarHandle" ∧ (parseMethodDescriptor x.desc).map (fun d => d.parameters.length) = some n) (hrec : ∃ cell : Cell, H[b]? = some cell ∧ cell.vm.isStatics = false ∧ s.vm.findClass C = some cell.cls) (hr : KR rm R maxL mc ms) (hn : As.length = n) (h0 : st0 = As.reverse ++ .ref b :: rest) (hw : (rest.map fun v => v.category).sum ≤ 8) (hdg : decode cc pc = .ok (.invokevirtual index, 3)) (hf : cells + mc ≤ R.cells ∧ slots + ms ≤ R.slots) :
    va_Run p l e R s m args below meth c H locs cells slots mc ms (F0 m pc ls st0) rest (Qc (Value.ref b :: As).toArray) A :=
  va_runU (C := C) (owner := x.cls) (x := x) ⟨X.x, X.b, X.nl, X.o, X.t⟩ hM (va_cwO n X.t (gd_cons hl (gd_cons hsm (gd_cons hix (gd_cons hse (gd_cons hin (gd_cons hi.2.1 (kgood hi))))))) rfl hr.1 hr.2.1 h00 hx hr.2.2) ⟨kblind, hrec, fun U hU hW => ⟨rfl, kpre X hS hB U hU hW⟩⟩ rfl hn hsz h0 (lv_room hw) hdg hf
/-- the reference names an abstract method -/
theorem krA {b : Nat} {C : String} {x : MethodName} (X : KC own cc nL D tys A p s m args c) (hsz : ls.size = nL) (hS : va_S A s.heap H locs) (hB : B H) (hM : Met l y (kw y bytes maxL ret) rm (kP D tys A (.ref b :: As) B) Qc mc ms A) (hi : KI y bytes maxL ret n) (hl : Cond.methodLink own index x ∈ gd_tbl) (hsm : Cond.sameMethod x.cls x.cls x.name x.desc ∈ gd_tbl) (hz : va_Nw (.declares ⟨x.cls, x.name, x.desc⟩) s) (hse : Cond.selects C x y ∈ gd_tbl) (hin : Cond.instanceMethod y ∈ gd_tbl) (hx : x.cls ≠ "java/lang/invoke/MethodHandle" ∧ x.cls ≠ "java/lang/invoke/VarHandle" ∧ (parseMethodDescriptor x.desc).map (fun d => d.parameters.length) = some n) (hrec : ∃ cell : Cell, H[b]? = some cell ∧ cell.vm.isStatics = false ∧ s.vm.findClass C = some cell.cls) (hr : KR rm R maxL mc ms) (hn : As.length = n) (h0 : st0 = As.reverse ++ .ref b :: rest) (hw : (rest.map fun v => v.category).sum ≤ 8) (hdg : decode cc pc = .ok (.invokevirtual index, 3)) (hf : cells + mc ≤ R.cells ∧ slots + ms ≤ R.slots) :
    va_Run p l e R s m args below meth c H locs cells slots mc ms (F0 m pc ls st0) rest (Qc (Value.ref b :: As).toArray) A :=
  va_runU (C := C) (owner := x.cls) (x := x) ⟨X.x, X.b, X.nl, X.o, X.t⟩ hM (va_cwA n X.t (gd_cons hl (gd_cons hsm (gd_cons hse (gd_cons hin (gd_cons hi.2.1 (kgood hi)))))) rfl hr.1 hr.2.1 hz hx hr.2.2) ⟨kblind, hrec, fun U hU hW => ⟨rfl, kpre X hS hB U hU hW⟩⟩ rfl hn hsz h0 (lv_room hw) hdg hf
/-- the superclass's method -/
theorem krU {b : Nat} {C : String} {cC : ClassId} (hat : ClassAt s C cC) (X : KC own cc nL D tys A p s m args c) (hsz : ls.size = nL) (hS : va_S A s.heap H locs) (hB : B H) (hM : Met l y (kw y bytes maxL ret) rm (kP D tys A (.ref b :: As) B) Qc mc ms A) (hi : KI y bytes maxL ret n) (hl : Cond.methodLink own index y ∈ gd_tbl) (hsm : Cond.sameMethod y.cls y.cls y.name y.desc ∈ gd_tbl) (hsu : Cond.superclass own y.cls ∈ gd_tbl) (hin : Cond.instanceMethod y ∈ gd_tbl) (hx : y.name ≠ "<init>") (hrec : ∃ cell : Cell, H[b]? = some cell ∧ cell.vm.isStatics = false ∧ s.vm.findClass C = some cell.cls) (hr : KR rm R maxL mc ms) (hn : As.length = n) (h0 : st0 = As.reverse ++ .ref b :: rest) (hw : (rest.map fun v => v.category).sum ≤ 8) (hdg : decode cc pc = .ok (.invokespecial index, 3)) (hf : cells + mc ≤ R.cells ∧ slots + ms ≤ R.slots) :
    va_Run p l e R s m args below meth c H locs cells slots mc ms (F0 m pc ls st0) rest (Qc (Value.ref b :: As).toArray) A :=
  va_runSU hat ⟨X.x, X.b, X.nl, X.o, X.t⟩ hM (va_cwSU n X.t (gd_cons hl (gd_cons hsm (gd_cons hsu (gd_cons hin (gd_cons hi.2.1 (kgood hi)))))) rfl hr.1 hr.2.1 ⟨hx, hi.2.2.2.2⟩ hr.2.2) ⟨kblind, hrec, fun U hU hW => ⟨rfl, kpre X hS hB U hU hW⟩⟩ rfl hn hsz h0 (lv_room hw) hdg hf
/-! what goes on behind a call, by the kind of its answer -/
variable {a : Array Value} {S : Type} {BB : S → Heap → Prop}
theorem kci {post : Int32 → S → Prop} (hr : va_Run p l e R s m args below meth c H locs cells slots mc ms (F0 m pc ls st0) rest (va_Qi post (fun u t => BB u t.heap) A a) A) (hS : va_S A s.heap H locs) (kk : ∀ (r : Int32) (u : S) (H1 : Heap) (locs1 : List Loc), post r u → BB u H1 → va_S A s.heap H1 locs1 → W p l e R s m args below meth c H1 locs1 (cells + mc) (slots + ms) Q (F0 m (pc + 3) ls (.int r :: rest))) : W p l e R s m args below meth c H locs cells slots Q (F0 m pc ls st0) :=
  va_calli hr hS (fun _ _ h => h) (fun _ h => h) (fun r u t H1 locs1 ht _ hp hb _ _ hS1 => kk r u H1 locs1 hp (ht ▸ hb) hS1)
theorem kcl_ {post : Int64 → S → Prop} (hr : va_Run p l e R s m args below meth c H locs cells slots mc ms (F0 m pc ls st0) rest (va_Ql post (fun u t => BB u t.heap) A a) A) (hS : va_S A s.heap H locs) (kk : ∀ (r : Int64) (u : S) (H1 : Heap) (locs1 : List Loc), post r u → BB u H1 → va_S A s.heap H1 locs1 → W p l e R s m args below meth c H1 locs1 (cells + mc) (slots + ms) Q (F0 m (pc + 3) ls (.long r :: rest))) : W p l e R s m args below meth c H locs cells slots Q (F0 m pc ls st0) :=
  va_calll hr hS (fun _ _ h => h) (fun _ h => h) (fun r u t H1 locs1 ht _ hp hb _ _ hS1 => kk r u H1 locs1 hp (ht ▸ hb) hS1)
theorem kcd {post : UInt64 → S → Prop} (hr : va_Run p l e R s m args below meth c H locs cells slots mc ms (F0 m pc ls st0) rest (va_Qd post (fun u t => BB u t.heap) A a) A) (hS : va_S A s.heap H locs) (kk : ∀ (r : UInt64) (u : S) (H1 : Heap) (locs1 : List Loc), post r u → BB u H1 → va_S A s.heap H1 locs1 → W p l e R s m args below meth c H1 locs1 (cells + mc) (slots + ms) Q (F0 m (pc + 3) ls (.double r :: rest))) : W p l e R s m args below meth c H locs cells slots Q (F0 m pc ls st0) :=
  va_calld hr hS (fun _ _ h => h) (fun _ h => h) (fun r u t H1 locs1 ht _ hp hb _ _ hS1 => kk r u H1 locs1 hp (ht ▸ hb) hS1)
theorem kcv {post : S → Prop} (hr : va_Run p l e R s m args below meth c H locs cells slots mc ms (F0 m pc ls st0) rest (va_Qv post (fun u t => BB u t.heap) A a) A) (hS : va_S A s.heap H locs) (kk : ∀ (u : S) (H1 : Heap) (locs1 : List Loc), post u → BB u H1 → va_S A s.heap H1 locs1 → W p l e R s m args below meth c H1 locs1 (cells + mc) (slots + ms) Q (F0 m (pc + 3) ls rest)) : W p l e R s m args below meth c H locs cells slots Q (F0 m pc ls st0) :=
  va_callv hr hS (fun _ _ h => h) (fun _ h => h) (fun u t H1 locs1 ht _ hp hb _ _ hS1 => kk u H1 locs1 hp (ht ▸ hb) hS1)
theorem kcq {post : Option Nat → S → Prop} (hr : va_Run p l e R s m args below meth c H locs cells slots mc ms (F0 m pc ls st0) rest (va_Qq post (fun u t => BB u t.heap) A a) A) (hS : va_S A s.heap H locs) (kk : ∀ (r : Option Nat) (u : S) (H1 : Heap) (locs1 : List Loc), post r u → BB u H1 → va_S A s.heap H1 locs1 → W p l e R s m args below meth c H1 locs1 (cells + mc) (slots + ms) Q (F0 m (pc + 3) ls (va_rf r :: rest))) : W p l e R s m args below meth c H locs cells slots Q (F0 m pc ls st0) :=
  va_callq hr hS (fun _ _ h => h) (fun _ h => h) (fun r u t H1 locs1 ht _ hp hb _ _ hS1 => kk r u H1 locs1 hp (ht ▸ hb) hS1)
end KB
/-! the methods' own frame: from a walk with an abstract end to the contract -/
def z01 (v : Int32) : Prop := v = 0 ∨ v = 1
theorem z01_n {v : Int32} (h : z01 v) : narrow .boolean (.int v) = .int v := by rcases h with rfl | rfl <;> rfl
section KM
variable {l : Launch} {y : MethodName} {cc : ByteArray} {nL mc ms : Nat} {rm : Room} {D : va_G} {tys : List (ClassId × FieldType)} {A : Nat → Prop} {As : List Value} {B : Heap → Prop} {S : Type} {BB : S → Heap → Prop} {lv : List (Nat × Value)}
/-- a walk of y's body from its first instruction -/
def kgo (l : Launch) (y : MethodName) (cc : ByteArray) (nL : Nat) (rm : Room) (D : va_G) (tys : List (ClassId × FieldType)) (A : Nat → Prop) (B : Heap → Prop) (lv : List (Nat × Value)) (E : (p : Program) → (e : Env) → (s : State) → (m : MethodId) → (args : Array Value) → (below : List Frame) → (meth : Method) → (c : Code) → (State → Prop) → Prop) : Prop :=
  ∀ (p : Program) (e : Env) (s : State) (m : MethodId) (args : Array Value) (below : List Frame) (meth : Method) (c : Code) (Q : State → Prop) (ls : Array Slot), KC y.cls cc nL D tys A p s m args c → meth.name = y.name → B s.heap → lv_has ls nL lv → E p e s m args below meth c Q → W p l e rm s m args below meth c s.heap [] 0 0 Q (F0 m 0 ls [])
def kEi (l : Launch) (cc : ByteArray) (rm : Room) (mc ms : Nat) (A : Nat → Prop) (BB : S → Heap → Prop) (post : Int32 → S → Prop) (p : Program) (e : Env) (s : State) (m : MethodId) (args : Array Value) (below : List Frame) (meth : Method) (c : Code) (Q : State → Prop) : Prop :=
  ∀ (r : Int32) (u : S) (H : Heap) (locs : List Loc) (cells slots pc : Nat) (ls : Array Slot), post r u → BB u H → va_S A s.heap H locs → cells ≤ mc → slots ≤ ms → decode cc pc = .ok (.ireturn, 1) → W p l e rm s m args below meth c H locs cells slots Q (F0 m pc ls [.int r])
def kEz (l : Launch) (cc : ByteArray) (rm : Room) (mc ms : Nat) (A : Nat → Prop) (BB : S → Heap → Prop) (post : Int32 → S → Prop) (p : Program) (e : Env) (s : State) (m : MethodId) (args : Array Value) (below : List Frame) (meth : Method) (c : Code) (Q : State → Prop) : Prop :=
  ∀ (r : Int32) (u : S) (H : Heap) (locs : List Loc) (cells slots pc : Nat) (ls : Array Slot), z01 r ∧ post r u → BB u H → va_S A s.heap H locs → cells ≤ mc → slots ≤ ms → decode cc pc = .ok (.ireturn, 1) → W p l e rm s m args below meth c H locs cells slots Q (F0 m pc ls [.int r])
def kEl (l : Launch) (cc : ByteArray) (rm : Room) (mc ms : Nat) (A : Nat → Prop) (BB : S → Heap → Prop) (post : Int64 → S → Prop) (p : Program) (e : Env) (s : State) (m : MethodId) (args : Array Value) (below : List Frame) (meth : Method) (c : Code) (Q : State → Prop) : Prop :=
  ∀ (r : Int64) (u : S) (H : Heap) (locs : List Loc) (cells slots pc : Nat) (ls : Array Slot), post r u → BB u H → va_S A s.heap H locs → cells ≤ mc → slots ≤ ms → decode cc pc = .ok (.lreturn, 1) → W p l e rm s m args below meth c H locs cells slots Q (F0 m pc ls [.long r])
def kEd (l : Launch) (cc : ByteArray) (rm : Room) (mc ms : Nat) (A : Nat → Prop) (BB : S → Heap → Prop) (post : UInt64 → S → Prop) (p : Program) (e : Env) (s : State) (m : MethodId) (args : Array Value) (below : List Frame) (meth : Method) (c : Code) (Q : State → Prop) : Prop :=
  ∀ (r : UInt64) (u : S) (H : Heap) (locs : List Loc) (cells slots pc : Nat) (ls : Array Slot), post r u → BB u H → va_S A s.heap H locs → cells ≤ mc → slots ≤ ms → decode cc pc = .ok (.dreturn, 1) → W p l e rm s m args below meth c H locs cells slots Q (F0 m pc ls [.double r])
def kEv (l : Launch) (cc : ByteArray) (rm : Room) (mc ms : Nat) (A : Nat → Prop) (BB : S → Heap → Prop) (post : S → Prop) (p : Program) (e : Env) (s : State) (m : MethodId) (args : Array Value) (below : List Frame) (meth : Method) (c : Code) (Q : State → Prop) : Prop :=
  ∀ (u : S) (H : Heap) (locs : List Loc) (cells slots pc : Nat) (ls : Array Slot), post u → BB u H → va_S A s.heap H locs → cells ≤ mc → slots ≤ ms → decode cc pc = .ok (.return_, 1) → W p l e rm s m args below meth c H locs cells slots Q (F0 m pc ls [])
def kEq (l : Launch) (cc : ByteArray) (rm : Room) (mc ms : Nat) (A : Nat → Prop) (BB : S → Heap → Prop) (post : Option Nat → S → Prop) (p : Program) (e : Env) (s : State) (m : MethodId) (args : Array Value) (below : List Frame) (meth : Method) (c : Code) (Q : State → Prop) : Prop :=
  ∀ (r : Option Nat) (u : S) (H : Heap) (locs : List Loc) (cells slots pc : Nat) (ls : Array Slot), post r u → BB u H → va_S A s.heap H locs → cells ≤ mc → slots ≤ ms → decode cc pc = .ok (.areturn, 1) → W p l e rm s m args below meth c H locs cells slots Q (F0 m pc ls [va_rf r])
theorem kmet {ret : Option FieldType} {Qc : Array Value → State → Outcome → State → Prop} {E : (p : Program) → (e : Env) → (s : State) → (m : MethodId) → (args : Array Value) → (below : List Frame) → (meth : Method) → (c : Code) → (State → Prop) → Prop} (hy : plainFor y = true) (hlv : lv_args 0 As = lv) (hlen : (lg_sl As).length ≤ nL)
    (hE : ∀ (p : Program) (e : Env) (s : State) (m : MethodId) (below : List Frame) (meth : Method) (c : Code), p.tables.exec = Jvm.exec → c.code = cc → meth.sig.returnType = ret → meth.locks = false → E p e s m As.toArray below meth c (MQ below Qc As.toArray s mc ms A))
    (hgo : kgo l y cc nL rm D tys A B lv E) : Met l y (kw y cc nL ret) rm (kP D tys A As B) Qc mc ms A := by
  refine va_MetF (cc := cc) (maxL := nL) (ret := ret) hy rfl ?_
  intro p e s m args below meth c s₁ Bd hml hv
  obtain ⟨rfl, hf, hB⟩ := hv
  have hts := atoms_spec (ws := kw y cc nL ret) Bd.pre
  have hown : s.vm.findClass y.cls = some m.cls := findClass_of_methodNamed Bd.named
  have hin : meth.name = y.name := (name_of_methodNamed Bd.named Bd.method).1
  have hl := lv_entry As (n := nL) hlen
  rw [lg_entry_eq]
  rw [hlv] at hl
  exact hgo p e s m As.toArray below meth c _ _ ⟨Bd.exec, Bd.bytes, hml, hown, fun w hw => hts w (List.mem_cons_of_mem _ hw), hf⟩ hin hB hl (hE p e s m below meth c Bd.exec Bd.bytes Bd.returns Bd.notSynchronized)
theorem kmet_i {post : Int32 → S → Prop} (hy : plainFor y = true) (hlv : lv_args 0 As = lv) (hlen : (lg_sl As).length ≤ nL) (hgo : kgo l y cc nL rm D tys A B lv (kEi l cc rm mc ms A BB post)) : Met l y (kw y cc nL (some .int)) rm (kP D tys A As B) (va_Qi post (fun u t => BB u t.heap) A) mc ms A :=
  kmet hy hlv hlen (fun p e s m below meth c hx hb hr hlocks r u H locs cells slots pc ls hp hbb hS h1 h2 hdg => W.widen h1 h2 (W.iret (v := r) hx hb hr (fun t ht _ => ⟨⟨r, u, rfl, hp, by show BB u t.heap; rw [ht]; exact hbb⟩, hS.F ht⟩) hS.2.2 hdg hlocks)) hgo
theorem kmet_z {post : Int32 → S → Prop} (hy : plainFor y = true) (hlv : lv_args 0 As = lv) (hlen : (lg_sl As).length ≤ nL) (hgo : kgo l y cc nL rm D tys A B lv (kEz l cc rm mc ms A BB post)) : Met l y (kw y cc nL (some .boolean)) rm (kP D tys A As B) (va_Qi post (fun u t => BB u t.heap) A) mc ms A :=
  kmet hy hlv hlen (fun p e s m below meth c hx hb hr hlocks r u H locs cells slots pc ls hp hbb hS h1 h2 hdg => W.widen h1 h2 (W.zret (v := r) hx hb hr (z01_n hp.1) (fun t ht _ => ⟨⟨r, u, rfl, hp.2, by show BB u t.heap; rw [ht]; exact hbb⟩, hS.F ht⟩) hS.2.2 hdg hlocks)) hgo
theorem kmet_l {post : Int64 → S → Prop} (hy : plainFor y = true) (hlv : lv_args 0 As = lv) (hlen : (lg_sl As).length ≤ nL) (hgo : kgo l y cc nL rm D tys A B lv (kEl l cc rm mc ms A BB post)) : Met l y (kw y cc nL (some .long)) rm (kP D tys A As B) (va_Ql post (fun u t => BB u t.heap) A) mc ms A :=
  kmet hy hlv hlen (fun p e s m below meth c hx hb hr hlocks r u H locs cells slots pc ls hp hbb hS h1 h2 hdg => W.widen h1 h2 (W.lret (v := r) hx hb hr (fun t ht _ => ⟨⟨r, u, rfl, hp, by show BB u t.heap; rw [ht]; exact hbb⟩, hS.F ht⟩) hS.2.2 hdg hlocks)) hgo
theorem kmet_d {post : UInt64 → S → Prop} (hy : plainFor y = true) (hlv : lv_args 0 As = lv) (hlen : (lg_sl As).length ≤ nL) (hgo : kgo l y cc nL rm D tys A B lv (kEd l cc rm mc ms A BB post)) : Met l y (kw y cc nL (some .double)) rm (kP D tys A As B) (va_Qd post (fun u t => BB u t.heap) A) mc ms A :=
  kmet hy hlv hlen (fun p e s m below meth c hx hb hr hlocks r u H locs cells slots pc ls hp hbb hS h1 h2 hdg => W.widen h1 h2 (W.dret (v := r) hx hb hr (fun t ht _ => ⟨⟨r, u, rfl, hp, by show BB u t.heap; rw [ht]; exact hbb⟩, hS.F ht⟩) hS.2.2 hdg hlocks)) hgo
theorem kmet_v {post : S → Prop} (hy : plainFor y = true) (hlv : lv_args 0 As = lv) (hlen : (lg_sl As).length ≤ nL) (hgo : kgo l y cc nL rm D tys A B lv (kEv l cc rm mc ms A BB post)) : Met l y (kw y cc nL none) rm (kP D tys A As B) (va_Qv post (fun u t => BB u t.heap) A) mc ms A :=
  kmet hy hlv hlen (fun p e s m below meth c hx hb hr hlocks u H locs cells slots pc ls hp hbb hS h1 h2 hdg => W.widen h1 h2 (W.vret hx hb hr (fun t ht _ => ⟨⟨u, rfl, hp, by show BB u t.heap; rw [ht]; exact hbb⟩, hS.F ht⟩) hS.2.2 hdg hlocks)) hgo
theorem kmet_q {rt : String} {post : Option Nat → S → Prop} (hy : plainFor y = true) (hlv : lv_args 0 As = lv) (hlen : (lg_sl As).length ≤ nL) (hgo : kgo l y cc nL rm D tys A B lv (kEq l cc rm mc ms A BB post)) : Met l y (kw y cc nL (some (.object rt))) rm (kP D tys A As B) (va_Qq post (fun u t => BB u t.heap) A) mc ms A :=
  kmet hy hlv hlen (fun p e s m below meth c hx hb hr hlocks r u H locs cells slots pc ls hp hbb hS h1 h2 hdg => W.widen h1 h2 (W.aret (v := va_rf r) hx hb hr (Or.inl ⟨rt, rfl⟩) (va_rf_or r) (fun t ht _ => ⟨⟨r, u, rfl, hp, by show BB u t.heap; rw [ht]; exact hbb⟩, hS.F ht⟩) hS.2.2 hdg hlocks)) hgo
end KM
theorem ki_C_init : KI y_C_init b_C_init 1 (Option.none : Option Jvm.ClassFile.FieldType) 0 := ⟨wd_14, wd_1, by decide +kernel, by decide +kernel, by decide +kernel⟩
theorem ki_C_put : KI y_C_put b_C_put 5 (Option.some Jvm.ClassFile.FieldType.int) 3 := ⟨wd_34, wd_1, by decide +kernel, by decide +kernel, by decide +kernel⟩
theorem ki_C_hold : KI y_C_hold b_C_hold 3 (Option.some Jvm.ClassFile.FieldType.int) 2 := ⟨wd_90, wd_1, by decide +kernel, by decide +kernel, by decide +kernel⟩
theorem ki_C_make : KI y_C_make b_C_make 5 (Option.some Jvm.ClassFile.FieldType.int) 3 := ⟨wd_94, wd_1, by decide +kernel, by decide +kernel, by decide +kernel⟩
theorem ki_C_get : KI y_C_get b_C_get 5 (Option.some Jvm.ClassFile.FieldType.int) 2 := ⟨wd_164, wd_1, by decide +kernel, by decide +kernel, by decide +kernel⟩
theorem ki_C_getAs : KI y_C_getAs b_C_getAs 8 (Option.some Jvm.ClassFile.FieldType.int) 3 := ⟨wd_191, wd_1, by decide +kernel, by decide +kernel, by decide +kernel⟩
theorem ki_C_set : KI y_C_set b_C_set 7 (Option.some Jvm.ClassFile.FieldType.int) 3 := ⟨wd_205, wd_1, by decide +kernel, by decide +kernel, by decide +kernel⟩
theorem ki_C_invoke : KI y_C_invoke b_C_invoke 10 (Option.some Jvm.ClassFile.FieldType.int) 4 := ⟨wd_239, wd_1, by decide +kernel, by decide +kernel, by decide +kernel⟩
theorem ki_C_cast : KI y_C_cast b_C_cast 4 (Option.some Jvm.ClassFile.FieldType.int) 2 := ⟨wd_299, wd_1, by decide +kernel, by decide +kernel, by decide +kernel⟩
theorem ki_C_last : KI y_C_last b_C_last 1 (Option.some Jvm.ClassFile.FieldType.long) 0 := ⟨wd_328, wd_1, by decide +kernel, by decide +kernel, by decide +kernel⟩
theorem ki_C_look : KI y_C_look b_C_look 3 (Option.some Jvm.ClassFile.FieldType.int) 2 := ⟨wd_332, wd_1, by decide +kernel, by decide +kernel, by decide +kernel⟩
theorem ki_C_value : KI y_C_value b_C_value 3 (Option.some Jvm.ClassFile.FieldType.long) 1 := ⟨wd_340, wd_1, by decide +kernel, by decide +kernel, by decide +kernel⟩
theorem ki_C_typed : KI y_C_typed b_C_typed 4 (Option.some Jvm.ClassFile.FieldType.int) 3 := ⟨wd_359, wd_1, by decide +kernel, by decide +kernel, by decide +kernel⟩
theorem ki_C_isBelow : KI y_C_isBelow b_C_isBelow 2 (Option.some Jvm.ClassFile.FieldType.boolean) 2 := ⟨wd_37, wd_1, by decide +kernel, by decide +kernel, by decide +kernel⟩
theorem ki_C_answer : KI y_C_answer b_C_answer 2 (Option.some Jvm.ClassFile.FieldType.int) 1 := ⟨wd_160, wd_1, by decide +kernel, by decide +kernel, by decide +kernel⟩
theorem ki_C_fail : KI y_C_fail b_C_fail 2 (Option.some Jvm.ClassFile.FieldType.int) 1 := ⟨wd_279, wd_1, by decide +kernel, by decide +kernel, by decide +kernel⟩
theorem ki_C_boxOfWhole : KI y_C_boxOfWhole b_C_boxOfWhole 3 (Option.some (Jvm.ClassFile.FieldType.object "MemberInspection$Box")) 2 := ⟨wd_61, wd_1, by decide +kernel, by decide +kernel, by decide +kernel⟩
theorem ki_C_boxOfReal : KI y_C_boxOfReal b_C_boxOfReal 3 (Option.some (Jvm.ClassFile.FieldType.object "MemberInspection$Box")) 2 := ⟨wd_85, wd_1, by decide +kernel, by decide +kernel, by decide +kernel⟩
theorem ki_C_boxMade : KI y_C_boxMade b_C_boxMade 3 (Option.some (Jvm.ClassFile.FieldType.object "MemberInspection$Box")) 2 := ⟨wd_58, wd_1, by decide +kernel, by decide +kernel, by decide +kernel⟩
theorem ki_C_widens : KI y_C_widens b_C_widens 2 (Option.some Jvm.ClassFile.FieldType.boolean) 2 := ⟨wd_196, wd_1, by decide +kernel, by decide +kernel, by decide +kernel⟩
theorem ki_C_converts : KI y_C_converts b_C_converts 3 (Option.some Jvm.ClassFile.FieldType.boolean) 2 := ⟨wd_208, wd_1, by decide +kernel, by decide +kernel, by decide +kernel⟩
theorem ki_C_wholeOf : KI y_C_wholeOf b_C_wholeOf 2 (Option.some Jvm.ClassFile.FieldType.long) 1 := ⟨wd_215, wd_1, by decide +kernel, by decide +kernel, by decide +kernel⟩
theorem ki_C_realOf : KI y_C_realOf b_C_realOf 2 (Option.some Jvm.ClassFile.FieldType.double) 1 := ⟨wd_229, wd_1, by decide +kernel, by decide +kernel, by decide +kernel⟩
theorem ki_C_textOf : KI y_C_textOf b_C_textOf 2 (Option.some (Jvm.ClassFile.FieldType.object "MemberInspection$Text")) 1 := ⟨wd_232, wd_1, by decide +kernel, by decide +kernel, by decide +kernel⟩
theorem ki_C_itemOf : KI y_C_itemOf b_C_itemOf 2 (Option.some (Jvm.ClassFile.FieldType.object "MemberInspection$Item")) 1 := ⟨wd_235, wd_1, by decide +kernel, by decide +kernel, by decide +kernel⟩
theorem ki_C_sortOf : KI y_C_sortOf b_C_sortOf 1 (Option.some Jvm.ClassFile.FieldType.int) 1 := ⟨wd_257, wd_1, by decide +kernel, by decide +kernel, by decide +kernel⟩
theorem ki_C_leastHandleOf : KI y_C_leastHandleOf b_C_leastHandleOf 3 (Option.some Jvm.ClassFile.FieldType.int) 1 := ⟨wd_336, wd_1, by decide +kernel, by decide +kernel, by decide +kernel⟩
theorem ki_C_hasEmptyConstructor : KI y_C_hasEmptyConstructor b_C_hasEmptyConstructor 1 (Option.some Jvm.ClassFile.FieldType.boolean) 1 := ⟨wd_100, wd_1, by decide +kernel, by decide +kernel, by decide +kernel⟩
theorem ki_C_hasIntConstructor : KI y_C_hasIntConstructor b_C_hasIntConstructor 1 (Option.some Jvm.ClassFile.FieldType.boolean) 1 := ⟨wd_97, wd_1, by decide +kernel, by decide +kernel, by decide +kernel⟩
theorem ki_C_newObject : KI y_C_newObject b_C_newObject 2 (Option.some (Jvm.ClassFile.FieldType.object "MemberInspection$Held")) 2 := ⟨wd_105, wd_1, by decide +kernel, by decide +kernel, by decide +kernel⟩
theorem ki_C_itemRefusal : KI y_C_itemRefusal b_C_itemRefusal 1 (Option.some Jvm.ClassFile.FieldType.int) 1 := ⟨wd_170, wd_1, by decide +kernel, by decide +kernel, by decide +kernel⟩
theorem ki_C_ownerRefusal : KI y_C_ownerRefusal b_C_ownerRefusal 3 (Option.some Jvm.ClassFile.FieldType.int) 2 := ⟨wd_167, wd_1, by decide +kernel, by decide +kernel, by decide +kernel⟩
theorem ki_C_fieldOf : KI y_C_fieldOf b_C_fieldOf 4 (Option.some (Jvm.ClassFile.FieldType.object "MemberInspection$Held")) 2 := ⟨wd_174, wd_1, by decide +kernel, by decide +kernel, by decide +kernel⟩
theorem ki_C_store : KI y_C_store b_C_store 5 (Option.none : Option Jvm.ClassFile.FieldType) 3 := ⟨wd_212, wd_1, by decide +kernel, by decide +kernel, by decide +kernel⟩
theorem ki_C_invokeOn : KI y_C_invokeOn b_C_invokeOn 5 (Option.some Jvm.ClassFile.FieldType.int) 4 := ⟨wd_250, wd_1, by decide +kernel, by decide +kernel, by decide +kernel⟩
theorem ki_C_tagOf : KI y_C_tagOf b_C_tagOf 4 (Option.some Jvm.ClassFile.FieldType.int) 2 := ⟨wd_254, wd_1, by decide +kernel, by decide +kernel, by decide +kernel⟩
theorem ki_C_quotientOf : KI y_C_quotientOf b_C_quotientOf 3 (Option.some Jvm.ClassFile.FieldType.int) 2 := ⟨wd_283, wd_1, by decide +kernel, by decide +kernel, by decide +kernel⟩
theorem ki_C_pickOf : KI y_C_pickOf b_C_pickOf 4 (Option.some Jvm.ClassFile.FieldType.int) 2 := ⟨wd_287, wd_1, by decide +kernel, by decide +kernel, by decide +kernel⟩
theorem ki_C_typedTakes : KI y_C_typedTakes b_C_typedTakes 2 (Option.some Jvm.ClassFile.FieldType.int) 2 := ⟨wd_362, wd_1, by decide +kernel, by decide +kernel, by decide +kernel⟩
theorem ki_C_takes : KI y_C_takes b_C_takes 2 (Option.some Jvm.ClassFile.FieldType.boolean) 2 := ⟨wd_322, wd_1, by decide +kernel, by decide +kernel, by decide +kernel⟩
theorem ki_M_init : KI y_M_init b_M_init 1 (Option.none : Option Jvm.ClassFile.FieldType) 0 := ⟨wd_369, wd_2, by decide +kernel, by decide +kernel, by decide +kernel⟩
theorem ki_M_in : KI y_M_in b_M_in 3 (Option.some Jvm.ClassFile.FieldType.boolean) 3 := ⟨wd_424, wd_2, by decide +kernel, by decide +kernel, by decide +kernel⟩
theorem ki_M_tell : KI y_M_tell b_M_tell 4 (Option.some Jvm.ClassFile.FieldType.int) 2 := ⟨wd_433, wd_2, by decide +kernel, by decide +kernel, by decide +kernel⟩
theorem ki_M_create : KI y_M_create b_M_create 2 (Option.some Jvm.ClassFile.FieldType.int) 1 := ⟨wd_428, wd_2, by decide +kernel, by decide +kernel, by decide +kernel⟩
theorem ki_M_isBox : KI y_M_isBox b_M_isBox 2 (Option.some Jvm.ClassFile.FieldType.boolean) 1 := ⟨wd_500, wd_2, by decide +kernel, by decide +kernel, by decide +kernel⟩
theorem ki_M_isItem : KI y_M_isItem b_M_isItem 2 (Option.some Jvm.ClassFile.FieldType.boolean) 1 := ⟨wd_492, wd_2, by decide +kernel, by decide +kernel, by decide +kernel⟩
theorem ki_M_widens : KI y_M_widens b_M_widens 2 (Option.some Jvm.ClassFile.FieldType.boolean) 2 := ⟨wd_471, wd_2, by decide +kernel, by decide +kernel, by decide +kernel⟩
theorem ki_M_convert : KI y_M_convert b_M_convert 3 (Option.none : Option Jvm.ClassFile.FieldType) 2 := ⟨wd_475, wd_2, by decide +kernel, by decide +kernel, by decide +kernel⟩
theorem ki_M_told : KI y_M_told b_M_told 2 (Option.some Jvm.ClassFile.FieldType.long) 1 := ⟨wd_479, wd_2, by decide +kernel, by decide +kernel, by decide +kernel⟩
theorem ki_M_box : KI y_M_box b_M_box 3 (Option.some Jvm.ClassFile.FieldType.int) 1 := ⟨wd_440, wd_2, by decide +kernel, by decide +kernel, by decide +kernel⟩
theorem ki_M_unboxes : KI y_M_unboxes b_M_unboxes 3 (Option.some Jvm.ClassFile.FieldType.boolean) 2 := ⟨wd_496, wd_2, by decide +kernel, by decide +kernel, by decide +kernel⟩
theorem ki_M_put : KI y_M_put b_M_put 6 (Option.some Jvm.ClassFile.FieldType.int) 3 := ⟨wd_421, wd_2, by decide +kernel, by decide +kernel, by decide +kernel⟩
theorem ki_M_hold : KI y_M_hold b_M_hold 3 (Option.some Jvm.ClassFile.FieldType.int) 2 := ⟨wd_444, wd_2, by decide +kernel, by decide +kernel, by decide +kernel⟩
theorem ki_M_make : KI y_M_make b_M_make 6 (Option.some Jvm.ClassFile.FieldType.int) 3 := ⟨wd_448, wd_2, by decide +kernel, by decide +kernel, by decide +kernel⟩
theorem ki_M_reach : KI y_M_reach b_M_reach 3 (Option.some Jvm.ClassFile.FieldType.int) 2 := ⟨wd_456, wd_2, by decide +kernel, by decide +kernel, by decide +kernel⟩
theorem ki_M_kindOf : KI y_M_kindOf b_M_kindOf 1 (Option.some Jvm.ClassFile.FieldType.int) 1 := ⟨wd_459, wd_2, by decide +kernel, by decide +kernel, by decide +kernel⟩
theorem ki_M_take : KI y_M_take b_M_take 3 (Option.none : Option Jvm.ClassFile.FieldType) 2 := ⟨wd_463, wd_2, by decide +kernel, by decide +kernel, by decide +kernel⟩
theorem ki_M_get : KI y_M_get b_M_get 5 (Option.some Jvm.ClassFile.FieldType.int) 2 := ⟨wd_452, wd_2, by decide +kernel, by decide +kernel, by decide +kernel⟩
theorem ki_M_getAs : KI y_M_getAs b_M_getAs 7 (Option.some Jvm.ClassFile.FieldType.int) 3 := ⟨wd_468, wd_2, by decide +kernel, by decide +kernel, by decide +kernel⟩
theorem ki_M_fits : KI y_M_fits b_M_fits 3 (Option.some Jvm.ClassFile.FieldType.boolean) 2 := ⟨wd_488, wd_2, by decide +kernel, by decide +kernel, by decide +kernel⟩
theorem ki_M_set : KI y_M_set b_M_set 8 (Option.some Jvm.ClassFile.FieldType.int) 3 := ⟨wd_484, wd_2, by decide +kernel, by decide +kernel, by decide +kernel⟩
theorem ki_M_answer : KI y_M_answer b_M_answer 4 (Option.some Jvm.ClassFile.FieldType.int) 2 := ⟨wd_512, wd_2, by decide +kernel, by decide +kernel, by decide +kernel⟩
theorem ki_M_sum : KI y_M_sum b_M_sum 6 (Option.some Jvm.ClassFile.FieldType.int) 3 := ⟨wd_508, wd_2, by decide +kernel, by decide +kernel, by decide +kernel⟩
theorem ki_M_tag : KI y_M_tag b_M_tag 3 (Option.some Jvm.ClassFile.FieldType.int) 2 := ⟨wd_516, wd_2, by decide +kernel, by decide +kernel, by decide +kernel⟩
theorem ki_M_twice : KI y_M_twice b_M_twice 2 (Option.some Jvm.ClassFile.FieldType.int) 1 := ⟨wd_521, wd_2, by decide +kernel, by decide +kernel, by decide +kernel⟩
theorem ki_M_div : KI y_M_div b_M_div 5 (Option.some Jvm.ClassFile.FieldType.int) 2 := ⟨wd_525, wd_2, by decide +kernel, by decide +kernel, by decide +kernel⟩
theorem ki_M_pick : KI y_M_pick b_M_pick 4 (Option.some Jvm.ClassFile.FieldType.int) 2 := ⟨wd_529, wd_2, by decide +kernel, by decide +kernel, by decide +kernel⟩
theorem ki_M_self : KI y_M_self b_M_self 3 (Option.some Jvm.ClassFile.FieldType.int) 2 := ⟨wd_533, wd_2, by decide +kernel, by decide +kernel, by decide +kernel⟩
theorem ki_M_invoke : KI y_M_invoke b_M_invoke 9 (Option.some Jvm.ClassFile.FieldType.int) 4 := ⟨wd_504, wd_2, by decide +kernel, by decide +kernel, by decide +kernel⟩
theorem ki_M_isOf : KI y_M_isOf b_M_isOf 4 (Option.some Jvm.ClassFile.FieldType.boolean) 2 := ⟨wd_541, wd_2, by decide +kernel, by decide +kernel, by decide +kernel⟩
theorem ki_M_cast : KI y_M_cast b_M_cast 4 (Option.some Jvm.ClassFile.FieldType.int) 2 := ⟨wd_537, wd_2, by decide +kernel, by decide +kernel, by decide +kernel⟩
theorem ki_M_last : KI y_M_last b_M_last 1 (Option.some Jvm.ClassFile.FieldType.long) 0 := ⟨wd_545, wd_2, by decide +kernel, by decide +kernel, by decide +kernel⟩
theorem ki_M_look : KI y_M_look b_M_look 5 (Option.some Jvm.ClassFile.FieldType.int) 2 := ⟨wd_549, wd_2, by decide +kernel, by decide +kernel, by decide +kernel⟩
theorem ki_M_value : KI y_M_value b_M_value 3 (Option.some Jvm.ClassFile.FieldType.long) 1 := ⟨wd_553, wd_2, by decide +kernel, by decide +kernel, by decide +kernel⟩
theorem ki_M_above : KI y_M_above b_M_above 1 (Option.some Jvm.ClassFile.FieldType.int) 1 := ⟨wd_561, wd_2, by decide +kernel, by decide +kernel, by decide +kernel⟩
theorem ki_M_elements : KI y_M_elements b_M_elements 1 (Option.some Jvm.ClassFile.FieldType.int) 1 := ⟨wd_564, wd_2, by decide +kernel, by decide +kernel, by decide +kernel⟩
theorem ki_M_takes : KI y_M_takes b_M_takes 2 (Option.some Jvm.ClassFile.FieldType.boolean) 2 := ⟨wd_567, wd_2, by decide +kernel, by decide +kernel, by decide +kernel⟩
theorem ki_M_typed : KI y_M_typed b_M_typed 4 (Option.some Jvm.ClassFile.FieldType.int) 3 := ⟨wd_558, wd_2, by decide +kernel, by decide +kernel, by decide +kernel⟩
theorem ki_B_init : KI y_B_init b_B_init 6 (Option.none : Option Jvm.ClassFile.FieldType) 3 := ⟨wd_66, wd_6, by decide +kernel, by decide +kernel, by decide +kernel⟩
theorem ki_B_sort : KI y_B_sort b_B_sort 1 (Option.some Jvm.ClassFile.FieldType.int) 0 := ⟨wd_263, wd_6, by decide +kernel, by decide +kernel, by decide +kernel⟩
theorem ki_B_type : KI y_B_type b_B_type 1 (Option.some Jvm.ClassFile.FieldType.int) 0 := ⟨wd_305, wd_6, by decide +kernel, by decide +kernel, by decide +kernel⟩
theorem ki_B_told : KI y_B_told b_B_told 1 (Option.some Jvm.ClassFile.FieldType.long) 0 := ⟨wd_347, wd_6, by decide +kernel, by decide +kernel, by decide +kernel⟩
theorem ki_B_toldAs : KI y_B_toldAs b_B_toldAs 2 (Option.some Jvm.ClassFile.FieldType.long) 1 := ⟨wd_200, wd_6, by decide +kernel, by decide +kernel, by decide +kernel⟩
theorem ki_H_init : KI y_H_init b_H_init 1 (Option.none : Option Jvm.ClassFile.FieldType) 0 := ⟨wd_49, wd_3, by decide +kernel, by decide +kernel, by decide +kernel⟩
theorem ki_H_told : KI y_H_told b_H_told 1 (Option.some Jvm.ClassFile.FieldType.long) 0 := ⟨wd_355, wd_3, by decide +kernel, by decide +kernel, by decide +kernel⟩
theorem ki_I_init : KI y_I_init b_I_init 2 (Option.none : Option Jvm.ClassFile.FieldType) 1 := ⟨wd_110, wd_7, by decide +kernel, by decide +kernel, by decide +kernel⟩
theorem ki_I_sort : KI y_I_sort b_I_sort 1 (Option.some Jvm.ClassFile.FieldType.int) 0 := ⟨wd_266, wd_7, by decide +kernel, by decide +kernel, by decide +kernel⟩
theorem ki_I_type : KI y_I_type b_I_type 1 (Option.some Jvm.ClassFile.FieldType.int) 0 := ⟨wd_310, wd_7, by decide +kernel, by decide +kernel, by decide +kernel⟩
theorem ki_I_pick : KI y_I_pick b_I_pick 2 (Option.some Jvm.ClassFile.FieldType.int) 1 := ⟨wd_295, wd_7, by decide +kernel, by decide +kernel, by decide +kernel⟩
theorem ki_I_read : KI y_I_read b_I_read 2 (Option.some (Jvm.ClassFile.FieldType.object "MemberInspection$Held")) 1 := ⟨wd_184, wd_7, by decide +kernel, by decide +kernel, by decide +kernel⟩
theorem ki_I_write : KI y_I_write b_I_write 3 (Option.none : Option Jvm.ClassFile.FieldType) 2 := ⟨wd_225, wd_7, by decide +kernel, by decide +kernel, by decide +kernel⟩
theorem ki_P_init : KI y_P_init b_P_init 1 (Option.none : Option Jvm.ClassFile.FieldType) 0 := ⟨wd_154, wd_9, by decide +kernel, by decide +kernel, by decide +kernel⟩
theorem ki_P_sort : KI y_P_sort b_P_sort 1 (Option.some Jvm.ClassFile.FieldType.int) 0 := ⟨wd_269, wd_9, by decide +kernel, by decide +kernel, by decide +kernel⟩
theorem ki_P_type : KI y_P_type b_P_type 1 (Option.some Jvm.ClassFile.FieldType.int) 0 := ⟨wd_313, wd_9, by decide +kernel, by decide +kernel, by decide +kernel⟩
theorem ki_S_init : KI y_S_init b_S_init 2 (Option.none : Option Jvm.ClassFile.FieldType) 1 := ⟨wd_138, wd_8, by decide +kernel, by decide +kernel, by decide +kernel⟩
theorem ki_S_sort : KI y_S_sort b_S_sort 1 (Option.some Jvm.ClassFile.FieldType.int) 0 := ⟨wd_272, wd_8, by decide +kernel, by decide +kernel, by decide +kernel⟩
theorem ki_S_type : KI y_S_type b_S_type 1 (Option.some Jvm.ClassFile.FieldType.int) 0 := ⟨wd_316, wd_8, by decide +kernel, by decide +kernel, by decide +kernel⟩
theorem ki_S_pick : KI y_S_pick b_S_pick 2 (Option.some Jvm.ClassFile.FieldType.int) 1 := ⟨wd_294, wd_8, by decide +kernel, by decide +kernel, by decide +kernel⟩
theorem ki_S_read : KI y_S_read b_S_read 2 (Option.some (Jvm.ClassFile.FieldType.object "MemberInspection$Held")) 1 := ⟨wd_181, wd_8, by decide +kernel, by decide +kernel, by decide +kernel⟩
theorem ki_S_write : KI y_S_write b_S_write 3 (Option.none : Option Jvm.ClassFile.FieldType) 2 := ⟨wd_222, wd_8, by decide +kernel, by decide +kernel, by decide +kernel⟩
theorem ki_T_init : KI y_T_init b_T_init 2 (Option.none : Option Jvm.ClassFile.FieldType) 1 := ⟨wd_46, wd_4, by decide +kernel, by decide +kernel, by decide +kernel⟩
theorem ki_T_sort : KI y_T_sort b_T_sort 1 (Option.some Jvm.ClassFile.FieldType.int) 0 := ⟨wd_275, wd_4, by decide +kernel, by decide +kernel, by decide +kernel⟩
theorem ki_T_type : KI y_T_type b_T_type 1 (Option.some Jvm.ClassFile.FieldType.int) 0 := ⟨wd_319, wd_4, by decide +kernel, by decide +kernel, by decide +kernel⟩
theorem ki_T_told : KI y_T_told b_T_told 1 (Option.some Jvm.ClassFile.FieldType.long) 0 := ⟨wd_354, wd_4, by decide +kernel, by decide +kernel, by decide +kernel⟩
theorem ki_J_floorMod : KI y_J_floorMod b_J_floorMod 6 (Option.some Jvm.ClassFile.FieldType.long) 2 := ⟨wd_43, wd_5, by decide +kernel, by decide +kernel, by decide +kernel⟩
