/-! the class's state: K = (handles, shared, lastTold, the objects' addresses, the objects) -/
abbrev Ob : Type := Nat × Int32 × Int64 × UInt64 × Int32 × Option Nat × Option Nat × Option Nat × Int32
abbrev KT : Type := (Nat → Option Nat) × Int64 × Int64 × List Nat × (Nat → Ob)
def oI (o : Ob) : Int32 := o.2.1
def oL (o : Ob) : Int64 := o.2.2.1
def oD (o : Ob) : UInt64 := o.2.2.2.1
def oS (o : Ob) : Int32 := o.2.2.2.2.1
def oT (o : Ob) : Option Nat := o.2.2.2.2.2.1
def oA (o : Ob) : Option Nat := o.2.2.2.2.2.2.1
def oN (o : Ob) : Option Nat := o.2.2.2.2.2.2.2.1
def oX (o : Ob) : Int32 := o.2.2.2.2.2.2.2.2
def osI (o : Ob) (v : Int32) : Ob := (o.1, v, o.2.2)
def osL (o : Ob) (v : Int64) : Ob := (o.1, o.2.1, v, o.2.2.2)
def osD (o : Ob) (v : UInt64) : Ob := (o.1, o.2.1, o.2.2.1, v, o.2.2.2.2)
def osS (o : Ob) (v : Int32) : Ob := (o.1, o.2.1, o.2.2.1, o.2.2.2.1, v, o.2.2.2.2.2)
def osT (o : Ob) (v : Option Nat) : Ob := (o.1, o.2.1, o.2.2.1, o.2.2.2.1, o.2.2.2.2.1, v, o.2.2.2.2.2.2)
def osA (o : Ob) (v : Option Nat) : Ob := (o.1, o.2.1, o.2.2.1, o.2.2.2.1, o.2.2.2.2.1, o.2.2.2.2.2.1, v, o.2.2.2.2.2.2.2)
def osN (o : Ob) (v : Option Nat) : Ob := (o.1, o.2.1, o.2.2.1, o.2.2.2.1, o.2.2.2.2.1, o.2.2.2.2.2.1, o.2.2.2.2.2.2.1, v, o.2.2.2.2.2.2.2.2)
def osX (o : Ob) (v : Int32) : Ob := (o.1, o.2.1, o.2.2.1, o.2.2.2.1, o.2.2.2.2.1, o.2.2.2.2.2.1, o.2.2.2.2.2.2.1, o.2.2.2.2.2.2.2.1, v)
def ob0 (t : Nat) : Ob := (t, 0, 0, 0, 0, none, none, none, 0)
def o_fs (o : Ob) : List Value := match o.1 with
  | 0 => [.int (oI o), .long (oL o), .double (oD o)]
  | 1 => [.int (oI o), .int (oS o), .double (oD o), va_rf (oT o), va_rf (oA o), va_rf (oN o)]
  | 2 => []
  | 3 => [.int (oI o), .int (oS o), .double (oD o), va_rf (oT o), va_rf (oA o), va_rf (oN o), .int (oX o)]
  | 4 => [.int (oI o)]
  | _ => []
def o_E (o : Ob) : va_E := .inr (o.1, o_fs o)
def kH (K : KT) : Nat → Option Nat := K.1
def kSh (K : KT) : Int64 := K.2.1
def kLa (K : KT) : Int64 := K.2.2.1
def kL (K : KT) : List Nat := K.2.2.2.1
def kO (K : KT) : Nat → Ob := K.2.2.2.2
def ksH (K : KT) (i : Nat) (r : Option Nat) : KT := (va_up K.1 i r, K.2)
def ksSh (K : KT) (v : Int64) : KT := (K.1, v, K.2.2)
def ksLa (K : KT) (v : Int64) : KT := (K.1, K.2.1, v, K.2.2.2)
def ksO (K : KT) (a : Nat) (o : Ob) : KT := (K.1, K.2.1, K.2.2.1, K.2.2.2.1, va_up K.2.2.2.2 a o)
def ksR (K : KT) (r : Option Nat) (o : Ob) : KT := match r with
  | none => K
  | some a => ksO K a o
def kNew (K : KT) (q : Nat) (o : Ob) : KT := (K.1, K.2.1, K.2.2.1, K.2.2.2.1 ++ [q], va_up K.2.2.2.2 q o)
def kob (K : KT) (r : Option Nat) : Ob := match r with
  | none => ob0 9
  | some a => kO K a
def ktg (K : KT) (r : Option Nat) : Nat := (kob K r).1
def okR (K : KT) (r : Option Nat) : Prop := ∀ a : Nat, r = some a → a ∈ kL K ∧ (kO K a).1 < 5
def isT (K : KT) (r : Option Nat) (t : Nat) : Prop := ∃ a : Nat, r = some a ∧ a ∈ kL K ∧ (kO K a).1 = t
def isI (K : KT) (r : Option Nat) : Prop := isT K r 1 ∨ isT K r 3
def bI (b : Bool) : Int32 := if b then 1 else 0
abbrev tysC (cA : ClassId) : List (ClassId × FieldType) := [(cA, .object "MemberInspection$Held")]
def cw0 (x hs : Nat) (cA : ClassId) (K : KT) : va_W := [(x, .inr (5, [.ref hs, .long (kSh K), .long (kLa K)])), (hs, .inl (cA, 9, .inr (.inr (.inr (.inr (kH K))))))]
def cw (x hs : Nat) (cA : ClassId) (K : KT) : va_W := cw0 x hs cA K ++ va_pl (kL K) (fun a => o_E (kO K a))
def CW (D : va_G) (A : Nat → Prop) (x hs : Nat) (cA : ClassId) (K : KT) (H : Heap) : Prop := va_P D kcl (cw x hs cA K) H ∧ va_D A (cw x hs cA K)
theorem kcat (r : Option Nat) : (va_rf r).category = 1 := by cases r <;> rfl
theorem cw_up {x hs : Nat} {cA : ClassId} {K : KT} {A : Nat → Prop} {a k : Nat} {o : Ob} (hD : va_D A (cw x hs cA K)) (ha : a ∈ kL K) (hk : (cw x hs cA K)[k]? = some (a, o_E (kO K a))) : (cw x hs cA K).set k (a, o_E o) = cw x hs cA (ksO K a o) := by
  have h := va_pl_set (e := o_E o) hD ha hk
  refine h.trans ?_
  show _ = cw0 x hs cA (ksO K a o) ++ va_pl (kL K) (fun b => o_E (va_up (kO K) a o b))
  congr 1
  exact va_pl_congr (fun b => by by_cases hb : b = a <;> simp [va_up, hb])
theorem cw_new {x hs : Nat} {cA : ClassId} {K : KT} {q : Nat} {o : Ob} (hq : q ∉ kL K) : cw x hs cA K ++ [(q, o_E o)] = cw x hs cA (kNew K q o) := by
  show (cw0 x hs cA K ++ va_pl (kL K) (fun a => o_E (kO K a))) ++ [(q, o_E o)] = cw0 x hs cA (kNew K q o) ++ va_pl (kL K ++ [q]) (fun b => o_E (va_up (kO K) q o b))
  rw [List.append_assoc, va_pl_push hq]
  congr 1
  exact va_pl_congr (fun b => by by_cases hb : b = q <;> simp [va_up, hb])
section KS
variable {p : Program} {l : Launch} {e : Env} {R : Room} {s : State} {m : MethodId} {args : Array Value} {below : List Frame} {meth : Method} {c : Code} {H : Heap} {locs : List Loc} {cells slots : Nat} {Q : State → Prop}
variable {cc : ByteArray} {pc : Nat} {ls : Array Slot} {rest : List Value} {D : va_G} {A : Nat → Prop} {own : String} {nL : Nat} {x hs : Nat} {cA : ClassId} {K : KT}
theorem kat (hC : CW D A x hs cA K H) {a : Nat} (ha : a ∈ kL K) : ∃ k : Nat, (cw x hs cA K)[k]? = some (a, o_E (kO K a)) := va_pl_get ha
theorem krec (X : KC own cc nL D (tysC cA) A p s m args c) (hC : CW D A x hs cA K H) {a t : Nat} {q : vw_C} (ha : a ∈ kL K) (ht : (kO K a).1 = t) (hc : kcl[t]? = some q) : ∃ cell : Cell, H[a]? = some cell ∧ cell.vm.isStatics = false ∧ s.vm.findClass q.1 = some cell.cls := by
  obtain ⟨k, hk⟩ := kat hC ha
  subst ht
  exact va_recv X.K hC.1 hc hk
theorem krecX (X : KC own cc nL D (tysC cA) A p s m args c) (hC : CW D A x hs cA K H) : ∃ cell : Cell, H[x]? = some cell ∧ cell.vm.isStatics = false ∧ s.vm.findClass "MemberInspection" = some cell.cls := va_recv (q0 := 0) (ci := 5) (q := (N_C, F_C, 3)) X.K hC.1 rfl rfl
theorem kcastable (X : KC own cc nL D (tysC cA) A p s m args c) {C T : String} (hm : (C, T) ∈ nfC) : ∀ comp c0 : ClassId, s.vm.findClass T = some comp → s.vm.findClass C = some c0 → s.vm.assignable c0 comp = true := by
  intro comp c0 h1 h2
  obtain ⟨c1, t1, f1, f2, f3⟩ := Cond.castable_spec (va_Nw.use (A := args) rfl (X.N.2.2.1 _ hm))
  cases f1.symm.trans h2
  cases f2.symm.trans h1
  exact f3
theorem kany (X : KC own cc nL D (tysC cA) A p s m args c) (hC : CW D A x hs cA K H) {a : Nat} (ha : a ∈ kL K) (ht : (kO K a).1 < 5) : va_Any "MemberInspection$Held" s H a := by
  obtain ⟨k, hk⟩ := kat hC ha
  have h : ∀ (t : Nat) (q : vw_C), (kO K a).1 = t → kcl[t]? = some q → (q.1, "MemberInspection$Held") ∈ nfC → va_Any "MemberInspection$Held" s H a := by
    intro t q e1 hc hm
    subst e1
    exact va_rAny X.K hC.1 hk hc (kcastable X hm)
  rcases (show (kO K a).1 = 0 ∨ (kO K a).1 = 1 ∨ (kO K a).1 = 2 ∨ (kO K a).1 = 3 ∨ (kO K a).1 = 4 by omega) with e | e | e | e | e
  · exact h 0 _ e rfl (by decide +kernel)
  · exact h 1 _ e rfl (by decide +kernel)
  · exact h 2 _ e rfl (by decide +kernel)
  · exact h 3 _ e rfl (by decide +kernel)
  · exact h 4 _ e rfl (by decide +kernel)
theorem kg_handles (X : KC "MemberInspection" cc nL D (tysC cA) A p s m args c) (hC : CW D A x hs cA K H) (hdg : decode cc pc = .ok (.getfield 11, 3)) (kk : W p l e R s m args below meth c H locs cells slots Q (F0 m (pc + 3) ls (.ref hs :: rest))) : W p l e R s m args below meth c H locs cells slots Q (F0 m pc ls (.ref x :: rest)) :=
  va_get (D := D) (ci := 5) (v := .ref hs) (C := N_C) (T := F_C) (N := 3) X.x X.b X.t in_C X.o X.K hC.1 0 rfl rfl 0 (by decide) (X.t _ wd_21) (fun _ h => h) rfl hdg kk
theorem kg_shared (X : KC "MemberInspection" cc nL D (tysC cA) A p s m args c) (hC : CW D A x hs cA K H) (hdg : decode cc pc = .ok (.getfield 17, 3)) (kk : W p l e R s m args below meth c H locs cells slots Q (F0 m (pc + 3) ls (.long (kSh K) :: rest))) : W p l e R s m args below meth c H locs cells slots Q (F0 m pc ls (.ref x :: rest)) :=
  va_get (D := D) (ci := 5) (v := .long (kSh K)) (C := N_C) (T := F_C) (N := 3) X.x X.b X.t in_C X.o X.K hC.1 0 rfl rfl 1 (by decide) (X.t _ wd_22) (fun _ h => h) rfl hdg kk
theorem kg_lastTold (X : KC "MemberInspection" cc nL D (tysC cA) A p s m args c) (hC : CW D A x hs cA K H) (hdg : decode cc pc = .ok (.getfield 21, 3)) (kk : W p l e R s m args below meth c H locs cells slots Q (F0 m (pc + 3) ls (.long (kLa K) :: rest))) : W p l e R s m args below meth c H locs cells slots Q (F0 m pc ls (.ref x :: rest)) :=
  va_get (D := D) (ci := 5) (v := .long (kLa K)) (C := N_C) (T := F_C) (N := 3) X.x X.b X.t in_C X.o X.K hC.1 0 rfl rfl 2 (by decide) (X.t _ wd_23) (fun _ h => h) rfl hdg kk
theorem kp_shared (X : KC "MemberInspection" cc nL D (tysC cA) A p s m args c) (hC : CW D A x hs cA K H) (hS : va_S A s.heap H locs) {v : Int64} (hdg : decode cc pc = .ok (.putfield 17, 3)) (kk : ∀ (H1 : Heap) (locs1 : List Loc), CW D A x hs cA (ksSh K v) H1 → va_S A s.heap H1 locs1 → W p l e R s m args below meth c H1 locs1 cells slots Q (F0 m (pc + 3) ls rest)) : W p l e R s m args below meth c H locs cells slots Q (F0 m pc ls (.long v :: .ref x :: rest)) :=
  va_put (D := D) (ci := 5) (v := .long v) (ty := .long) (C := N_C) (T := F_C) (N := 3) X.x X.b X.t in_C ft_C to_C nm_C X.o X.K hC.1 hC.2 hS 0 rfl rfl 1 (by decide) (X.t _ wd_22) (fun _ h => h) rfl (by decide +kernel) rfl rfl (Nat.le_of_ble_eq_true rfl) hdg (fun H1 locs1 h1 h2 h3 => kk H1 locs1 ⟨h1, h2⟩ h3)
theorem kp_lastTold (X : KC "MemberInspection" cc nL D (tysC cA) A p s m args c) (hC : CW D A x hs cA K H) (hS : va_S A s.heap H locs) {v : Int64} (hdg : decode cc pc = .ok (.putfield 21, 3)) (kk : ∀ (H1 : Heap) (locs1 : List Loc), CW D A x hs cA (ksLa K v) H1 → va_S A s.heap H1 locs1 → W p l e R s m args below meth c H1 locs1 cells slots Q (F0 m (pc + 3) ls rest)) : W p l e R s m args below meth c H locs cells slots Q (F0 m pc ls (.long v :: .ref x :: rest)) :=
  va_put (D := D) (ci := 5) (v := .long v) (ty := .long) (C := N_C) (T := F_C) (N := 3) X.x X.b X.t in_C ft_C to_C nm_C X.o X.K hC.1 hC.2 hS 0 rfl rfl 2 (by decide) (X.t _ wd_23) (fun _ h => h) rfl (by decide +kernel) rfl rfl (Nat.le_of_ble_eq_true rfl) hdg (fun H1 locs1 h1 h2 h3 => kk H1 locs1 ⟨h1, h2⟩ h3)
theorem kg_h (X : KC own cc nL D (tysC cA) A p s m args c) (hC : CW D A x hs cA K H) {i : Int32} (hin : vp_in i 9) (hdg : decode cc pc = .ok (.aaload, 1)) (kk : ∀ r : Option Nat, r = kH K i.toNatClampNeg → W p l e R s m args below meth c H locs cells slots Q (F0 m (pc + 1) ls (va_rf r :: rest))) : W p l e R s m args below meth c H locs cells slots Q (F0 m pc ls (.int i :: .ref hs :: rest)) :=
  va_aldq X.x X.b X.K hC.1 1 0 rfl rfl hin hdg (kk _ rfl)
theorem kp_h (X : KC own cc nL D (tysC cA) A p s m args c) (hC : CW D A x hs cA K H) (hS : va_S A s.heap H locs) {i : Int32} {r : Option Nat} (hr : okR K r) (hin : vp_in i 9) (hdg : decode cc pc = .ok (.aastore, 1)) (kk : ∀ (H1 : Heap) (locs1 : List Loc), CW D A x hs cA (ksH K i.toNatClampNeg r) H1 → va_S A s.heap H1 locs1 → W p l e R s m args below meth c H1 locs1 cells slots Q (F0 m (pc + 1) ls rest)) : W p l e R s m args below meth c H locs cells slots Q (F0 m pc ls (va_rf r :: .int i :: .ref hs :: rest)) := by
  cases r with
  | none => exact va_astqN X.x X.b X.K hC.1 hC.2 hS 1 0 rfl rfl hin hdg (fun H1 locs1 h1 h2 h3 => kk H1 locs1 ⟨h1, h2⟩ h3)
  | some a =>
    obtain ⟨ha, ht⟩ := hr a rfl
    exact va_astqM X.x X.b X.K hC.1 hC.2 hS 1 0 rfl rfl (kany X hC ha ht) hin hdg (fun H1 locs1 h1 h2 h3 => kk H1 locs1 ⟨h1, h2⟩ h3)
theorem kg_kind_B9 (X : KC "MemberInspection$Box" cc nL D (tysC cA) A p s m args c) (hC : CW D A x hs cA K H) {r : Option Nat} (h : isT K r 0) (hdg : decode cc pc = .ok (.getfield 9, 3)) (kk : W p l e R s m args below meth c H locs cells slots Q (F0 m (pc + 3) ls (.int (oI (kob K r)) :: rest))) : W p l e R s m args below meth c H locs cells slots Q (F0 m pc ls (va_rf r :: rest)) := by
  obtain ⟨a, rfl, ha, ht⟩ := h
  obtain ⟨k, hk⟩ := kat hC ha
  have hk : (cw x hs cA K)[k]? = some (a, .inr (0, o_fs (kO K a))) := by rw [hk]; show some (a, (Sum.inr ((kO K a).1, o_fs (kO K a)) : va_E)) = _; rw [ht]
  exact va_get (D := D) (ci := 0) (v := .int (oI (kO K a))) (C := N_B) (T := F_B) (N := 3) X.x X.b X.t in_B X.o X.K hC.1 k hk rfl 0 (by decide) (X.t _ wd_68) (fun _ h => h) (by simp [o_fs, ht]) hdg kk
theorem kg_kind_C158 (X : KC "MemberInspection" cc nL D (tysC cA) A p s m args c) (hC : CW D A x hs cA K H) {r : Option Nat} (h : isT K r 0) (hdg : decode cc pc = .ok (.getfield 158, 3)) (kk : W p l e R s m args below meth c H locs cells slots Q (F0 m (pc + 3) ls (.int (oI (kob K r)) :: rest))) : W p l e R s m args below meth c H locs cells slots Q (F0 m pc ls (va_rf r :: rest)) := by
  obtain ⟨a, rfl, ha, ht⟩ := h
  obtain ⟨k, hk⟩ := kat hC ha
  have hk : (cw x hs cA K)[k]? = some (a, .inr (0, o_fs (kO K a))) := by rw [hk]; show some (a, (Sum.inr ((kO K a).1, o_fs (kO K a)) : va_E)) = _; rw [ht]
  exact va_getN (D := D) (ci := 0) (v := .int (oI (kO K a))) (C := N_B) (T := F_B) (N := 3) X.x X.b X.t in_B X.o X.K hC.1 k hk rfl 0 (by decide) (va_Nw.use rfl (X.N.1 ("MemberInspection", 158, "MemberInspection$Box", "kind", "I", "MemberInspection") (by decide +kernel))) (fun _ h => h) (by simp [o_fs, ht]) hdg kk
theorem kg_whole_B15 (X : KC "MemberInspection$Box" cc nL D (tysC cA) A p s m args c) (hC : CW D A x hs cA K H) {r : Option Nat} (h : isT K r 0) (hdg : decode cc pc = .ok (.getfield 15, 3)) (kk : W p l e R s m args below meth c H locs cells slots Q (F0 m (pc + 3) ls (.long (oL (kob K r)) :: rest))) : W p l e R s m args below meth c H locs cells slots Q (F0 m pc ls (va_rf r :: rest)) := by
  obtain ⟨a, rfl, ha, ht⟩ := h
  obtain ⟨k, hk⟩ := kat hC ha
  have hk : (cw x hs cA K)[k]? = some (a, .inr (0, o_fs (kO K a))) := by rw [hk]; show some (a, (Sum.inr ((kO K a).1, o_fs (kO K a)) : va_E)) = _; rw [ht]
  exact va_get (D := D) (ci := 0) (v := .long (oL (kO K a))) (C := N_B) (T := F_B) (N := 3) X.x X.b X.t in_B X.o X.K hC.1 k hk rfl 1 (by decide) (X.t _ wd_70) (fun _ h => h) (by simp [o_fs, ht]) hdg kk
theorem kg_whole_C162 (X : KC "MemberInspection" cc nL D (tysC cA) A p s m args c) (hC : CW D A x hs cA K H) {r : Option Nat} (h : isT K r 0) (hdg : decode cc pc = .ok (.getfield 162, 3)) (kk : W p l e R s m args below meth c H locs cells slots Q (F0 m (pc + 3) ls (.long (oL (kob K r)) :: rest))) : W p l e R s m args below meth c H locs cells slots Q (F0 m pc ls (va_rf r :: rest)) := by
  obtain ⟨a, rfl, ha, ht⟩ := h
  obtain ⟨k, hk⟩ := kat hC ha
  have hk : (cw x hs cA K)[k]? = some (a, .inr (0, o_fs (kO K a))) := by rw [hk]; show some (a, (Sum.inr ((kO K a).1, o_fs (kO K a)) : va_E)) = _; rw [ht]
  exact va_getN (D := D) (ci := 0) (v := .long (oL (kO K a))) (C := N_B) (T := F_B) (N := 3) X.x X.b X.t in_B X.o X.K hC.1 k hk rfl 1 (by decide) (va_Nw.use rfl (X.N.1 ("MemberInspection", 162, "MemberInspection$Box", "whole", "J", "MemberInspection") (by decide +kernel))) (fun _ h => h) (by simp [o_fs, ht]) hdg kk
theorem kg_real_B19 (X : KC "MemberInspection$Box" cc nL D (tysC cA) A p s m args c) (hC : CW D A x hs cA K H) {r : Option Nat} (h : isT K r 0) (hdg : decode cc pc = .ok (.getfield 19, 3)) (kk : W p l e R s m args below meth c H locs cells slots Q (F0 m (pc + 3) ls (.double (oD (kob K r)) :: rest))) : W p l e R s m args below meth c H locs cells slots Q (F0 m pc ls (va_rf r :: rest)) := by
  obtain ⟨a, rfl, ha, ht⟩ := h
  obtain ⟨k, hk⟩ := kat hC ha
  have hk : (cw x hs cA K)[k]? = some (a, .inr (0, o_fs (kO K a))) := by rw [hk]; show some (a, (Sum.inr ((kO K a).1, o_fs (kO K a)) : va_E)) = _; rw [ht]
  exact va_get (D := D) (ci := 0) (v := .double (oD (kO K a))) (C := N_B) (T := F_B) (N := 3) X.x X.b X.t in_B X.o X.K hC.1 k hk rfl 2 (by decide) (X.t _ wd_72) (fun _ h => h) (by simp [o_fs, ht]) hdg kk
theorem kg_real_C165 (X : KC "MemberInspection" cc nL D (tysC cA) A p s m args c) (hC : CW D A x hs cA K H) {r : Option Nat} (h : isT K r 0) (hdg : decode cc pc = .ok (.getfield 165, 3)) (kk : W p l e R s m args below meth c H locs cells slots Q (F0 m (pc + 3) ls (.double (oD (kob K r)) :: rest))) : W p l e R s m args below meth c H locs cells slots Q (F0 m pc ls (va_rf r :: rest)) := by
  obtain ⟨a, rfl, ha, ht⟩ := h
  obtain ⟨k, hk⟩ := kat hC ha
  have hk : (cw x hs cA K)[k]? = some (a, .inr (0, o_fs (kO K a))) := by rw [hk]; show some (a, (Sum.inr ((kO K a).1, o_fs (kO K a)) : va_E)) = _; rw [ht]
  exact va_getN (D := D) (ci := 0) (v := .double (oD (kO K a))) (C := N_B) (T := F_B) (N := 3) X.x X.b X.t in_B X.o X.K hC.1 k hk rfl 2 (by decide) (va_Nw.use rfl (X.N.1 ("MemberInspection", 165, "MemberInspection$Box", "real", "D", "MemberInspection") (by decide +kernel))) (fun _ h => h) (by simp [o_fs, ht]) hdg kk
theorem kg_number_T9 (X : KC "MemberInspection$Text" cc nL D (tysC cA) A p s m args c) (hC : CW D A x hs cA K H) {r : Option Nat} (h : isT K r 4) (hdg : decode cc pc = .ok (.getfield 9, 3)) (kk : W p l e R s m args below meth c H locs cells slots Q (F0 m (pc + 3) ls (.int (oI (kob K r)) :: rest))) : W p l e R s m args below meth c H locs cells slots Q (F0 m pc ls (va_rf r :: rest)) := by
  obtain ⟨a, rfl, ha, ht⟩ := h
  obtain ⟨k, hk⟩ := kat hC ha
  have hk : (cw x hs cA K)[k]? = some (a, .inr (4, o_fs (kO K a))) := by rw [hk]; show some (a, (Sum.inr ((kO K a).1, o_fs (kO K a)) : va_E)) = _; rw [ht]
  exact va_get (D := D) (ci := 4) (v := .int (oI (kO K a))) (C := N_T) (T := F_T) (N := 1) X.x X.b X.t in_T X.o X.K hC.1 k hk rfl 0 (by decide) (X.t _ wd_51) (fun _ h => h) (by simp [o_fs, ht]) hdg kk
theorem kg_number_C208 (X : KC "MemberInspection" cc nL D (tysC cA) A p s m args c) (hC : CW D A x hs cA K H) {r : Option Nat} (h : isT K r 4) (hdg : decode cc pc = .ok (.getfield 208, 3)) (kk : W p l e R s m args below meth c H locs cells slots Q (F0 m (pc + 3) ls (.int (oI (kob K r)) :: rest))) : W p l e R s m args below meth c H locs cells slots Q (F0 m pc ls (va_rf r :: rest)) := by
  obtain ⟨a, rfl, ha, ht⟩ := h
  obtain ⟨k, hk⟩ := kat hC ha
  have hk : (cw x hs cA K)[k]? = some (a, .inr (4, o_fs (kO K a))) := by rw [hk]; show some (a, (Sum.inr ((kO K a).1, o_fs (kO K a)) : va_E)) = _; rw [ht]
  exact va_getN (D := D) (ci := 4) (v := .int (oI (kO K a))) (C := N_T) (T := F_T) (N := 1) X.x X.b X.t in_T X.o X.K hC.1 k hk rfl 0 (by decide) (va_Nw.use rfl (X.N.1 ("MemberInspection", 208, "MemberInspection$Text", "number", "I", "MemberInspection") (by decide +kernel))) (fun _ h => h) (by simp [o_fs, ht]) hdg kk
theorem kg_whole_I9 (X : KC "MemberInspection$Item" cc nL D (tysC cA) A p s m args c) (hC : CW D A x hs cA K H) {r : Option Nat} (h : isI K r) (hdg : decode cc pc = .ok (.getfield 9, 3)) (kk : W p l e R s m args below meth c H locs cells slots Q (F0 m (pc + 3) ls (.int (oI (kob K r)) :: rest))) : W p l e R s m args below meth c H locs cells slots Q (F0 m pc ls (va_rf r :: rest)) := by
  rcases h with h | h
  · obtain ⟨a, rfl, ha, ht⟩ := h
    obtain ⟨k, hk⟩ := kat hC ha
    have hk : (cw x hs cA K)[k]? = some (a, .inr (1, o_fs (kO K a))) := by rw [hk]; show some (a, (Sum.inr ((kO K a).1, o_fs (kO K a)) : va_E)) = _; rw [ht]
    exact va_get (D := D) (ci := 1) (v := .int (oI (kO K a))) (C := N_I) (T := F_I) (N := 6) X.x X.b X.t in_I X.o X.K hC.1 k hk rfl 0 (by decide) (X.t _ wd_112) (fun _ h => h) (by simp [o_fs, ht]) hdg kk
  · obtain ⟨a, rfl, ha, ht⟩ := h
    obtain ⟨k, hk⟩ := kat hC ha
    have hk : (cw x hs cA K)[k]? = some (a, .inr (3, o_fs (kO K a))) := by rw [hk]; show some (a, (Sum.inr ((kO K a).1, o_fs (kO K a)) : va_E)) = _; rw [ht]
    exact va_get (D := D) (ci := 3) (v := .int (oI (kO K a))) (C := N_S) (T := F_S) (N := 7) X.x X.b X.t in_S X.o X.K hC.1 k hk rfl 0 (by decide) (X.t _ wd_112) (fun _ h => h) (by simp [o_fs, ht]) hdg kk
theorem kg_whole_S15 (X : KC "MemberInspection$Special" cc nL D (tysC cA) A p s m args c) (hC : CW D A x hs cA K H) {r : Option Nat} (h : isI K r) (hdg : decode cc pc = .ok (.getfield 15, 3)) (kk : W p l e R s m args below meth c H locs cells slots Q (F0 m (pc + 3) ls (.int (oI (kob K r)) :: rest))) : W p l e R s m args below meth c H locs cells slots Q (F0 m pc ls (va_rf r :: rest)) := by
  rcases h with h | h
  · obtain ⟨a, rfl, ha, ht⟩ := h
    obtain ⟨k, hk⟩ := kat hC ha
    have hk : (cw x hs cA K)[k]? = some (a, .inr (1, o_fs (kO K a))) := by rw [hk]; show some (a, (Sum.inr ((kO K a).1, o_fs (kO K a)) : va_E)) = _; rw [ht]
    exact va_getN (D := D) (ci := 1) (v := .int (oI (kO K a))) (C := N_I) (T := F_I) (N := 6) X.x X.b X.t in_I X.o X.K hC.1 k hk rfl 0 (by decide) (va_Nw.use rfl (X.N.1 ("MemberInspection$Special", 15, "MemberInspection$Item", "whole", "I", "MemberInspection") (by decide +kernel))) (fun _ h => h) (by simp [o_fs, ht]) hdg kk
  · obtain ⟨a, rfl, ha, ht⟩ := h
    obtain ⟨k, hk⟩ := kat hC ha
    have hk : (cw x hs cA K)[k]? = some (a, .inr (3, o_fs (kO K a))) := by rw [hk]; show some (a, (Sum.inr ((kO K a).1, o_fs (kO K a)) : va_E)) = _; rw [ht]
    exact va_getN (D := D) (ci := 3) (v := .int (oI (kO K a))) (C := N_S) (T := F_S) (N := 7) X.x X.b X.t in_S X.o X.K hC.1 k hk rfl 0 (by decide) (va_Nw.use rfl (X.N.1 ("MemberInspection$Special", 15, "MemberInspection$Item", "whole", "I", "MemberInspection") (by decide +kernel))) (fun _ h => h) (by simp [o_fs, ht]) hdg kk
theorem kg_whole_C191 (X : KC "MemberInspection" cc nL D (tysC cA) A p s m args c) (hC : CW D A x hs cA K H) {r : Option Nat} (h : isI K r) (hdg : decode cc pc = .ok (.getfield 191, 3)) (kk : W p l e R s m args below meth c H locs cells slots Q (F0 m (pc + 3) ls (.int (oI (kob K r)) :: rest))) : W p l e R s m args below meth c H locs cells slots Q (F0 m pc ls (va_rf r :: rest)) := by
  rcases h with h | h
  · obtain ⟨a, rfl, ha, ht⟩ := h
    obtain ⟨k, hk⟩ := kat hC ha
    have hk : (cw x hs cA K)[k]? = some (a, .inr (1, o_fs (kO K a))) := by rw [hk]; show some (a, (Sum.inr ((kO K a).1, o_fs (kO K a)) : va_E)) = _; rw [ht]
    exact va_getN (D := D) (ci := 1) (v := .int (oI (kO K a))) (C := N_I) (T := F_I) (N := 6) X.x X.b X.t in_I X.o X.K hC.1 k hk rfl 0 (by decide) (va_Nw.use rfl (X.N.1 ("MemberInspection", 191, "MemberInspection$Item", "whole", "I", "MemberInspection") (by decide +kernel))) (fun _ h => h) (by simp [o_fs, ht]) hdg kk
  · obtain ⟨a, rfl, ha, ht⟩ := h
    obtain ⟨k, hk⟩ := kat hC ha
    have hk : (cw x hs cA K)[k]? = some (a, .inr (3, o_fs (kO K a))) := by rw [hk]; show some (a, (Sum.inr ((kO K a).1, o_fs (kO K a)) : va_E)) = _; rw [ht]
    exact va_getN (D := D) (ci := 3) (v := .int (oI (kO K a))) (C := N_S) (T := F_S) (N := 7) X.x X.b X.t in_S X.o X.K hC.1 k hk rfl 0 (by decide) (va_Nw.use rfl (X.N.1 ("MemberInspection", 191, "MemberInspection$Item", "whole", "I", "MemberInspection") (by decide +kernel))) (fun _ h => h) (by simp [o_fs, ht]) hdg kk
theorem kg_small_I19 (X : KC "MemberInspection$Item" cc nL D (tysC cA) A p s m args c) (hC : CW D A x hs cA K H) {r : Option Nat} (h : isI K r) (hdg : decode cc pc = .ok (.getfield 19, 3)) (kk : W p l e R s m args below meth c H locs cells slots Q (F0 m (pc + 3) ls (.int (oS (kob K r)) :: rest))) : W p l e R s m args below meth c H locs cells slots Q (F0 m pc ls (va_rf r :: rest)) := by
  rcases h with h | h
  · obtain ⟨a, rfl, ha, ht⟩ := h
    obtain ⟨k, hk⟩ := kat hC ha
    have hk : (cw x hs cA K)[k]? = some (a, .inr (1, o_fs (kO K a))) := by rw [hk]; show some (a, (Sum.inr ((kO K a).1, o_fs (kO K a)) : va_E)) = _; rw [ht]
    exact va_get (D := D) (ci := 1) (v := .int (oS (kO K a))) (C := N_I) (T := F_I) (N := 6) X.x X.b X.t in_I X.o X.K hC.1 k hk rfl 1 (by decide) (X.t _ wd_115) (fun _ h => h) (by simp [o_fs, ht]) hdg kk
  · obtain ⟨a, rfl, ha, ht⟩ := h
    obtain ⟨k, hk⟩ := kat hC ha
    have hk : (cw x hs cA K)[k]? = some (a, .inr (3, o_fs (kO K a))) := by rw [hk]; show some (a, (Sum.inr ((kO K a).1, o_fs (kO K a)) : va_E)) = _; rw [ht]
    exact va_get (D := D) (ci := 3) (v := .int (oS (kO K a))) (C := N_S) (T := F_S) (N := 7) X.x X.b X.t in_S X.o X.K hC.1 k hk rfl 1 (by decide) (X.t _ wd_115) (fun _ h => h) (by simp [o_fs, ht]) hdg kk
theorem kg_real_I23 (X : KC "MemberInspection$Item" cc nL D (tysC cA) A p s m args c) (hC : CW D A x hs cA K H) {r : Option Nat} (h : isI K r) (hdg : decode cc pc = .ok (.getfield 23, 3)) (kk : W p l e R s m args below meth c H locs cells slots Q (F0 m (pc + 3) ls (.double (oD (kob K r)) :: rest))) : W p l e R s m args below meth c H locs cells slots Q (F0 m pc ls (va_rf r :: rest)) := by
  rcases h with h | h
  · obtain ⟨a, rfl, ha, ht⟩ := h
    obtain ⟨k, hk⟩ := kat hC ha
    have hk : (cw x hs cA K)[k]? = some (a, .inr (1, o_fs (kO K a))) := by rw [hk]; show some (a, (Sum.inr ((kO K a).1, o_fs (kO K a)) : va_E)) = _; rw [ht]
    exact va_get (D := D) (ci := 1) (v := .double (oD (kO K a))) (C := N_I) (T := F_I) (N := 6) X.x X.b X.t in_I X.o X.K hC.1 k hk rfl 2 (by decide) (X.t _ wd_117) (fun _ h => h) (by simp [o_fs, ht]) hdg kk
  · obtain ⟨a, rfl, ha, ht⟩ := h
    obtain ⟨k, hk⟩ := kat hC ha
    have hk : (cw x hs cA K)[k]? = some (a, .inr (3, o_fs (kO K a))) := by rw [hk]; show some (a, (Sum.inr ((kO K a).1, o_fs (kO K a)) : va_E)) = _; rw [ht]
    exact va_get (D := D) (ci := 3) (v := .double (oD (kO K a))) (C := N_S) (T := F_S) (N := 7) X.x X.b X.t in_S X.o X.K hC.1 k hk rfl 2 (by decide) (X.t _ wd_117) (fun _ h => h) (by simp [o_fs, ht]) hdg kk
theorem kg_text_I31 (X : KC "MemberInspection$Item" cc nL D (tysC cA) A p s m args c) (hC : CW D A x hs cA K H) {r : Option Nat} (h : isI K r) (hdg : decode cc pc = .ok (.getfield 31, 3)) (kk : ∀ r2 : Option Nat, r2 = oT (kob K r) → W p l e R s m args below meth c H locs cells slots Q (F0 m (pc + 3) ls (va_rf r2 :: rest))) : W p l e R s m args below meth c H locs cells slots Q (F0 m pc ls (va_rf r :: rest)) := by
  rcases h with h | h
  · obtain ⟨a, rfl, ha, ht⟩ := h
    obtain ⟨k, hk⟩ := kat hC ha
    have hk : (cw x hs cA K)[k]? = some (a, .inr (1, o_fs (kO K a))) := by rw [hk]; show some (a, (Sum.inr ((kO K a).1, o_fs (kO K a)) : va_E)) = _; rw [ht]
    exact va_get (D := D) (ci := 1) (v := va_rf (oT (kO K a))) (C := N_I) (T := F_I) (N := 6) X.x X.b X.t in_I X.o X.K hC.1 k hk rfl 3 (by decide) (X.t _ wd_118) (fun _ h => h) (by simp [o_fs, ht]) hdg (kk _ rfl)
  · obtain ⟨a, rfl, ha, ht⟩ := h
    obtain ⟨k, hk⟩ := kat hC ha
    have hk : (cw x hs cA K)[k]? = some (a, .inr (3, o_fs (kO K a))) := by rw [hk]; show some (a, (Sum.inr ((kO K a).1, o_fs (kO K a)) : va_E)) = _; rw [ht]
    exact va_get (D := D) (ci := 3) (v := va_rf (oT (kO K a))) (C := N_S) (T := F_S) (N := 7) X.x X.b X.t in_S X.o X.K hC.1 k hk rfl 3 (by decide) (X.t _ wd_118) (fun _ h => h) (by simp [o_fs, ht]) hdg (kk _ rfl)
theorem kg_any_I35 (X : KC "MemberInspection$Item" cc nL D (tysC cA) A p s m args c) (hC : CW D A x hs cA K H) {r : Option Nat} (h : isI K r) (hdg : decode cc pc = .ok (.getfield 35, 3)) (kk : ∀ r2 : Option Nat, r2 = oA (kob K r) → W p l e R s m args below meth c H locs cells slots Q (F0 m (pc + 3) ls (va_rf r2 :: rest))) : W p l e R s m args below meth c H locs cells slots Q (F0 m pc ls (va_rf r :: rest)) := by
  rcases h with h | h
  · obtain ⟨a, rfl, ha, ht⟩ := h
    obtain ⟨k, hk⟩ := kat hC ha
    have hk : (cw x hs cA K)[k]? = some (a, .inr (1, o_fs (kO K a))) := by rw [hk]; show some (a, (Sum.inr ((kO K a).1, o_fs (kO K a)) : va_E)) = _; rw [ht]
    exact va_get (D := D) (ci := 1) (v := va_rf (oA (kO K a))) (C := N_I) (T := F_I) (N := 6) X.x X.b X.t in_I X.o X.K hC.1 k hk rfl 4 (by decide) (X.t _ wd_119) (fun _ h => h) (by simp [o_fs, ht]) hdg (kk _ rfl)
  · obtain ⟨a, rfl, ha, ht⟩ := h
    obtain ⟨k, hk⟩ := kat hC ha
    have hk : (cw x hs cA K)[k]? = some (a, .inr (3, o_fs (kO K a))) := by rw [hk]; show some (a, (Sum.inr ((kO K a).1, o_fs (kO K a)) : va_E)) = _; rw [ht]
    exact va_get (D := D) (ci := 3) (v := va_rf (oA (kO K a))) (C := N_S) (T := F_S) (N := 7) X.x X.b X.t in_S X.o X.K hC.1 k hk rfl 4 (by decide) (X.t _ wd_119) (fun _ h => h) (by simp [o_fs, ht]) hdg (kk _ rfl)
theorem kg_next_I39 (X : KC "MemberInspection$Item" cc nL D (tysC cA) A p s m args c) (hC : CW D A x hs cA K H) {r : Option Nat} (h : isI K r) (hdg : decode cc pc = .ok (.getfield 39, 3)) (kk : ∀ r2 : Option Nat, r2 = oN (kob K r) → W p l e R s m args below meth c H locs cells slots Q (F0 m (pc + 3) ls (va_rf r2 :: rest))) : W p l e R s m args below meth c H locs cells slots Q (F0 m pc ls (va_rf r :: rest)) := by
  rcases h with h | h
  · obtain ⟨a, rfl, ha, ht⟩ := h
    obtain ⟨k, hk⟩ := kat hC ha
    have hk : (cw x hs cA K)[k]? = some (a, .inr (1, o_fs (kO K a))) := by rw [hk]; show some (a, (Sum.inr ((kO K a).1, o_fs (kO K a)) : va_E)) = _; rw [ht]
    exact va_get (D := D) (ci := 1) (v := va_rf (oN (kO K a))) (C := N_I) (T := F_I) (N := 6) X.x X.b X.t in_I X.o X.K hC.1 k hk rfl 5 (by decide) (X.t _ wd_120) (fun _ h => h) (by simp [o_fs, ht]) hdg (kk _ rfl)
  · obtain ⟨a, rfl, ha, ht⟩ := h
    obtain ⟨k, hk⟩ := kat hC ha
    have hk : (cw x hs cA K)[k]? = some (a, .inr (3, o_fs (kO K a))) := by rw [hk]; show some (a, (Sum.inr ((kO K a).1, o_fs (kO K a)) : va_E)) = _; rw [ht]
    exact va_get (D := D) (ci := 3) (v := va_rf (oN (kO K a))) (C := N_S) (T := F_S) (N := 7) X.x X.b X.t in_S X.o X.K hC.1 k hk rfl 5 (by decide) (X.t _ wd_120) (fun _ h => h) (by simp [o_fs, ht]) hdg (kk _ rfl)
theorem kg_extra_S9 (X : KC "MemberInspection$Special" cc nL D (tysC cA) A p s m args c) (hC : CW D A x hs cA K H) {r : Option Nat} (h : isT K r 3) (hdg : decode cc pc = .ok (.getfield 9, 3)) (kk : W p l e R s m args below meth c H locs cells slots Q (F0 m (pc + 3) ls (.int (oX (kob K r)) :: rest))) : W p l e R s m args below meth c H locs cells slots Q (F0 m pc ls (va_rf r :: rest)) := by
  obtain ⟨a, rfl, ha, ht⟩ := h
  obtain ⟨k, hk⟩ := kat hC ha
  have hk : (cw x hs cA K)[k]? = some (a, .inr (3, o_fs (kO K a))) := by rw [hk]; show some (a, (Sum.inr ((kO K a).1, o_fs (kO K a)) : va_E)) = _; rw [ht]
  exact va_get (D := D) (ci := 3) (v := .int (oX (kO K a))) (C := N_S) (T := F_S) (N := 7) X.x X.b X.t in_S X.o X.K hC.1 k hk rfl 6 (by decide) (X.t _ wd_140) (fun _ h => h) (by simp [o_fs, ht]) hdg kk
theorem kp_kind_B9 (X : KC "MemberInspection$Box" cc nL D (tysC cA) A p s m args c) (hC : CW D A x hs cA K H) (hS : va_S A s.heap H locs) (hin : meth.name = "<init>") {r : Option Nat} {v : Int32} (h : isT K r 0) (hdg : decode cc pc = .ok (.putfield 9, 3)) (kk : ∀ (H1 : Heap) (locs1 : List Loc), CW D A x hs cA (ksR K r (osI (kob K r) (v))) H1 → va_S A s.heap H1 locs1 → W p l e R s m args below meth c H1 locs1 cells slots Q (F0 m (pc + 3) ls rest)) : W p l e R s m args below meth c H locs cells slots Q (F0 m pc ls (.int (v) :: va_rf r :: rest)) := by
  obtain ⟨a, rfl, ha, ht⟩ := h
  obtain ⟨k, hk0⟩ := kat hC ha
  have hk : (cw x hs cA K)[k]? = some (a, .inr (0, o_fs (kO K a))) := by rw [hk0]; show some (a, (Sum.inr ((kO K a).1, o_fs (kO K a)) : va_E)) = _; rw [ht]
  have he : (cw x hs cA K).set k (a, .inr (0, (o_fs (kO K a)).set 0 (.int (v)))) = cw x hs cA (ksO K a (osI (kO K a) (v))) := by
    rw [← cw_up hC.2 ha hk0]
    congr 2
    show (Sum.inr (0, _) : va_E) = Sum.inr ((kO K a).1, o_fs (osI (kO K a) (v)))
    rw [ht]
    congr 2
    simp [o_fs, osI, ht, oI, oL, oD, oS, oT, oA, oN, oX]
  exact va_putF (D := D) (ci := 0) (v := .int (v)) (ty := .int) (C := N_B) (T := F_B) (N := 3) X.x X.b X.t in_B ft_B to_B nm_B X.o X.K hC.1 hC.2 hS k hk rfl 0 (by decide) (X.t _ wd_68) (fun _ h => h) rfl hin rfl (by decide +kernel) rfl rfl (by simp [o_fs, ht]) hdg (fun H1 locs1 h1 h2 h3 => kk H1 locs1 ⟨he ▸ h1, he ▸ h2⟩ h3)
theorem kp_whole_B15 (X : KC "MemberInspection$Box" cc nL D (tysC cA) A p s m args c) (hC : CW D A x hs cA K H) (hS : va_S A s.heap H locs) (hin : meth.name = "<init>") {r : Option Nat} {v : Int64} (h : isT K r 0) (hdg : decode cc pc = .ok (.putfield 15, 3)) (kk : ∀ (H1 : Heap) (locs1 : List Loc), CW D A x hs cA (ksR K r (osL (kob K r) (v))) H1 → va_S A s.heap H1 locs1 → W p l e R s m args below meth c H1 locs1 cells slots Q (F0 m (pc + 3) ls rest)) : W p l e R s m args below meth c H locs cells slots Q (F0 m pc ls (.long (v) :: va_rf r :: rest)) := by
  obtain ⟨a, rfl, ha, ht⟩ := h
  obtain ⟨k, hk0⟩ := kat hC ha
  have hk : (cw x hs cA K)[k]? = some (a, .inr (0, o_fs (kO K a))) := by rw [hk0]; show some (a, (Sum.inr ((kO K a).1, o_fs (kO K a)) : va_E)) = _; rw [ht]
  have he : (cw x hs cA K).set k (a, .inr (0, (o_fs (kO K a)).set 1 (.long (v)))) = cw x hs cA (ksO K a (osL (kO K a) (v))) := by
    rw [← cw_up hC.2 ha hk0]
    congr 2
    show (Sum.inr (0, _) : va_E) = Sum.inr ((kO K a).1, o_fs (osL (kO K a) (v)))
    rw [ht]
    congr 2
    simp [o_fs, osL, ht, oI, oL, oD, oS, oT, oA, oN, oX]
  exact va_putF (D := D) (ci := 0) (v := .long (v)) (ty := .long) (C := N_B) (T := F_B) (N := 3) X.x X.b X.t in_B ft_B to_B nm_B X.o X.K hC.1 hC.2 hS k hk rfl 1 (by decide) (X.t _ wd_70) (fun _ h => h) rfl hin rfl (by decide +kernel) rfl rfl (by simp [o_fs, ht]) hdg (fun H1 locs1 h1 h2 h3 => kk H1 locs1 ⟨he ▸ h1, he ▸ h2⟩ h3)
theorem kp_real_B19 (X : KC "MemberInspection$Box" cc nL D (tysC cA) A p s m args c) (hC : CW D A x hs cA K H) (hS : va_S A s.heap H locs) (hin : meth.name = "<init>") {r : Option Nat} {v : UInt64} (h : isT K r 0) (hdg : decode cc pc = .ok (.putfield 19, 3)) (kk : ∀ (H1 : Heap) (locs1 : List Loc), CW D A x hs cA (ksR K r (osD (kob K r) (v))) H1 → va_S A s.heap H1 locs1 → W p l e R s m args below meth c H1 locs1 cells slots Q (F0 m (pc + 3) ls rest)) : W p l e R s m args below meth c H locs cells slots Q (F0 m pc ls (.double (v) :: va_rf r :: rest)) := by
  obtain ⟨a, rfl, ha, ht⟩ := h
  obtain ⟨k, hk0⟩ := kat hC ha
  have hk : (cw x hs cA K)[k]? = some (a, .inr (0, o_fs (kO K a))) := by rw [hk0]; show some (a, (Sum.inr ((kO K a).1, o_fs (kO K a)) : va_E)) = _; rw [ht]
  have he : (cw x hs cA K).set k (a, .inr (0, (o_fs (kO K a)).set 2 (.double (v)))) = cw x hs cA (ksO K a (osD (kO K a) (v))) := by
    rw [← cw_up hC.2 ha hk0]
    congr 2
    show (Sum.inr (0, _) : va_E) = Sum.inr ((kO K a).1, o_fs (osD (kO K a) (v)))
    rw [ht]
    congr 2
    simp [o_fs, osD, ht, oI, oL, oD, oS, oT, oA, oN, oX]
  exact va_putF (D := D) (ci := 0) (v := .double (v)) (ty := .double) (C := N_B) (T := F_B) (N := 3) X.x X.b X.t in_B ft_B to_B nm_B X.o X.K hC.1 hC.2 hS k hk rfl 2 (by decide) (X.t _ wd_72) (fun _ h => h) rfl hin rfl (by decide +kernel) rfl rfl (by simp [o_fs, ht]) hdg (fun H1 locs1 h1 h2 h3 => kk H1 locs1 ⟨he ▸ h1, he ▸ h2⟩ h3)
theorem kp_number_T9 (X : KC "MemberInspection$Text" cc nL D (tysC cA) A p s m args c) (hC : CW D A x hs cA K H) (hS : va_S A s.heap H locs) (hin : meth.name = "<init>") {r : Option Nat} {v : Int32} (h : isT K r 4) (hdg : decode cc pc = .ok (.putfield 9, 3)) (kk : ∀ (H1 : Heap) (locs1 : List Loc), CW D A x hs cA (ksR K r (osI (kob K r) (v))) H1 → va_S A s.heap H1 locs1 → W p l e R s m args below meth c H1 locs1 cells slots Q (F0 m (pc + 3) ls rest)) : W p l e R s m args below meth c H locs cells slots Q (F0 m pc ls (.int (v) :: va_rf r :: rest)) := by
  obtain ⟨a, rfl, ha, ht⟩ := h
  obtain ⟨k, hk0⟩ := kat hC ha
  have hk : (cw x hs cA K)[k]? = some (a, .inr (4, o_fs (kO K a))) := by rw [hk0]; show some (a, (Sum.inr ((kO K a).1, o_fs (kO K a)) : va_E)) = _; rw [ht]
  have he : (cw x hs cA K).set k (a, .inr (4, (o_fs (kO K a)).set 0 (.int (v)))) = cw x hs cA (ksO K a (osI (kO K a) (v))) := by
    rw [← cw_up hC.2 ha hk0]
    congr 2
    show (Sum.inr (4, _) : va_E) = Sum.inr ((kO K a).1, o_fs (osI (kO K a) (v)))
    rw [ht]
    congr 2
    simp [o_fs, osI, ht, oI, oL, oD, oS, oT, oA, oN, oX]
  exact va_putF (D := D) (ci := 4) (v := .int (v)) (ty := .int) (C := N_T) (T := F_T) (N := 1) X.x X.b X.t in_T ft_T to_T nm_T X.o X.K hC.1 hC.2 hS k hk rfl 0 (by decide) (X.t _ wd_51) (fun _ h => h) rfl hin rfl (by decide +kernel) rfl rfl (by simp [o_fs, ht]) hdg (fun H1 locs1 h1 h2 h3 => kk H1 locs1 ⟨he ▸ h1, he ▸ h2⟩ h3)
theorem kp_whole_I9 (X : KC "MemberInspection$Item" cc nL D (tysC cA) A p s m args c) (hC : CW D A x hs cA K H) (hS : va_S A s.heap H locs) {r : Option Nat} {v : Int32} (h : isI K r) (hdg : decode cc pc = .ok (.putfield 9, 3)) (kk : ∀ (H1 : Heap) (locs1 : List Loc), CW D A x hs cA (ksR K r (osI (kob K r) (v))) H1 → va_S A s.heap H1 locs1 → W p l e R s m args below meth c H1 locs1 cells slots Q (F0 m (pc + 3) ls rest)) : W p l e R s m args below meth c H locs cells slots Q (F0 m pc ls (.int (v) :: va_rf r :: rest)) := by
  rcases h with h | h
  · obtain ⟨a, rfl, ha, ht⟩ := h
    obtain ⟨k, hk0⟩ := kat hC ha
    have hk : (cw x hs cA K)[k]? = some (a, .inr (1, o_fs (kO K a))) := by rw [hk0]; show some (a, (Sum.inr ((kO K a).1, o_fs (kO K a)) : va_E)) = _; rw [ht]
    have he : (cw x hs cA K).set k (a, .inr (1, (o_fs (kO K a)).set 0 (.int (v)))) = cw x hs cA (ksO K a (osI (kO K a) (v))) := by
      rw [← cw_up hC.2 ha hk0]
      congr 2
      show (Sum.inr (1, _) : va_E) = Sum.inr ((kO K a).1, o_fs (osI (kO K a) (v)))
      rw [ht]
      congr 2
      simp [o_fs, osI, ht, oI, oL, oD, oS, oT, oA, oN, oX]
    exact va_put (D := D) (ci := 1) (v := .int (v)) (ty := .int) (C := N_I) (T := F_I) (N := 6) X.x X.b X.t in_I ft_I to_I nm_I X.o X.K hC.1 hC.2 hS k hk rfl 0 (by decide) (X.t _ wd_112) (fun _ h => h) rfl (by decide +kernel) rfl rfl (by simp [o_fs, ht]) hdg (fun H1 locs1 h1 h2 h3 => kk H1 locs1 ⟨he ▸ h1, he ▸ h2⟩ h3)
  · obtain ⟨a, rfl, ha, ht⟩ := h
    obtain ⟨k, hk0⟩ := kat hC ha
    have hk : (cw x hs cA K)[k]? = some (a, .inr (3, o_fs (kO K a))) := by rw [hk0]; show some (a, (Sum.inr ((kO K a).1, o_fs (kO K a)) : va_E)) = _; rw [ht]
    have he : (cw x hs cA K).set k (a, .inr (3, (o_fs (kO K a)).set 0 (.int (v)))) = cw x hs cA (ksO K a (osI (kO K a) (v))) := by
      rw [← cw_up hC.2 ha hk0]
      congr 2
      show (Sum.inr (3, _) : va_E) = Sum.inr ((kO K a).1, o_fs (osI (kO K a) (v)))
      rw [ht]
      congr 2
      simp [o_fs, osI, ht, oI, oL, oD, oS, oT, oA, oN, oX]
    exact va_put (D := D) (ci := 3) (v := .int (v)) (ty := .int) (C := N_S) (T := F_S) (N := 7) X.x X.b X.t in_S ft_S to_S nm_S X.o X.K hC.1 hC.2 hS k hk rfl 0 (by decide) (X.t _ wd_112) (fun _ h => h) rfl (by decide +kernel) rfl rfl (by simp [o_fs, ht]) hdg (fun H1 locs1 h1 h2 h3 => kk H1 locs1 ⟨he ▸ h1, he ▸ h2⟩ h3)
theorem kp_small_I19 (X : KC "MemberInspection$Item" cc nL D (tysC cA) A p s m args c) (hC : CW D A x hs cA K H) (hS : va_S A s.heap H locs) {r : Option Nat} {v : Int32} (h : isI K r) (hdg : decode cc pc = .ok (.putfield 19, 3)) (kk : ∀ (H1 : Heap) (locs1 : List Loc), CW D A x hs cA (ksR K r (osS (kob K r) (v.toInt8.toInt32))) H1 → va_S A s.heap H1 locs1 → W p l e R s m args below meth c H1 locs1 cells slots Q (F0 m (pc + 3) ls rest)) : W p l e R s m args below meth c H locs cells slots Q (F0 m pc ls (.int (v.toInt8.toInt32) :: va_rf r :: rest)) := by
  rcases h with h | h
  · obtain ⟨a, rfl, ha, ht⟩ := h
    obtain ⟨k, hk0⟩ := kat hC ha
    have hk : (cw x hs cA K)[k]? = some (a, .inr (1, o_fs (kO K a))) := by rw [hk0]; show some (a, (Sum.inr ((kO K a).1, o_fs (kO K a)) : va_E)) = _; rw [ht]
    have he : (cw x hs cA K).set k (a, .inr (1, (o_fs (kO K a)).set 1 (.int (v.toInt8.toInt32)))) = cw x hs cA (ksO K a (osS (kO K a) (v.toInt8.toInt32))) := by
      rw [← cw_up hC.2 ha hk0]
      congr 2
      show (Sum.inr (1, _) : va_E) = Sum.inr ((kO K a).1, o_fs (osS (kO K a) (v.toInt8.toInt32)))
      rw [ht]
      congr 2
      simp [o_fs, osS, ht, oI, oL, oD, oS, oT, oA, oN, oX]
    exact va_put (D := D) (ci := 1) (v := .int (v.toInt8.toInt32)) (ty := .byte) (C := N_I) (T := F_I) (N := 6) X.x X.b X.t in_I ft_I to_I nm_I X.o X.K hC.1 hC.2 hS k hk rfl 1 (by decide) (X.t _ wd_115) (fun _ h => h) rfl (by decide +kernel) (pk_nb v) (pk_fb v) (by simp [o_fs, ht]) hdg (fun H1 locs1 h1 h2 h3 => kk H1 locs1 ⟨he ▸ h1, he ▸ h2⟩ h3)
  · obtain ⟨a, rfl, ha, ht⟩ := h
    obtain ⟨k, hk0⟩ := kat hC ha
    have hk : (cw x hs cA K)[k]? = some (a, .inr (3, o_fs (kO K a))) := by rw [hk0]; show some (a, (Sum.inr ((kO K a).1, o_fs (kO K a)) : va_E)) = _; rw [ht]
    have he : (cw x hs cA K).set k (a, .inr (3, (o_fs (kO K a)).set 1 (.int (v.toInt8.toInt32)))) = cw x hs cA (ksO K a (osS (kO K a) (v.toInt8.toInt32))) := by
      rw [← cw_up hC.2 ha hk0]
      congr 2
      show (Sum.inr (3, _) : va_E) = Sum.inr ((kO K a).1, o_fs (osS (kO K a) (v.toInt8.toInt32)))
      rw [ht]
      congr 2
      simp [o_fs, osS, ht, oI, oL, oD, oS, oT, oA, oN, oX]
    exact va_put (D := D) (ci := 3) (v := .int (v.toInt8.toInt32)) (ty := .byte) (C := N_S) (T := F_S) (N := 7) X.x X.b X.t in_S ft_S to_S nm_S X.o X.K hC.1 hC.2 hS k hk rfl 1 (by decide) (X.t _ wd_115) (fun _ h => h) rfl (by decide +kernel) (pk_nb v) (pk_fb v) (by simp [o_fs, ht]) hdg (fun H1 locs1 h1 h2 h3 => kk H1 locs1 ⟨he ▸ h1, he ▸ h2⟩ h3)
theorem kp_small_C204 (X : KC "MemberInspection" cc nL D (tysC cA) A p s m args c) (hC : CW D A x hs cA K H) (hS : va_S A s.heap H locs) {r : Option Nat} {v : Int32} (h : isI K r) (hdg : decode cc pc = .ok (.putfield 204, 3)) (kk : ∀ (H1 : Heap) (locs1 : List Loc), CW D A x hs cA (ksR K r (osS (kob K r) (v.toInt8.toInt32))) H1 → va_S A s.heap H1 locs1 → W p l e R s m args below meth c H1 locs1 cells slots Q (F0 m (pc + 3) ls rest)) : W p l e R s m args below meth c H locs cells slots Q (F0 m pc ls (.int (v.toInt8.toInt32) :: va_rf r :: rest)) := by
  rcases h with h | h
  · obtain ⟨a, rfl, ha, ht⟩ := h
    obtain ⟨k, hk0⟩ := kat hC ha
    have hk : (cw x hs cA K)[k]? = some (a, .inr (1, o_fs (kO K a))) := by rw [hk0]; show some (a, (Sum.inr ((kO K a).1, o_fs (kO K a)) : va_E)) = _; rw [ht]
    have he : (cw x hs cA K).set k (a, .inr (1, (o_fs (kO K a)).set 1 (.int (v.toInt8.toInt32)))) = cw x hs cA (ksO K a (osS (kO K a) (v.toInt8.toInt32))) := by
      rw [← cw_up hC.2 ha hk0]
      congr 2
      show (Sum.inr (1, _) : va_E) = Sum.inr ((kO K a).1, o_fs (osS (kO K a) (v.toInt8.toInt32)))
      rw [ht]
      congr 2
      simp [o_fs, osS, ht, oI, oL, oD, oS, oT, oA, oN, oX]
    exact va_putN (D := D) (ci := 1) (v := .int (v.toInt8.toInt32)) (ty := .byte) (C := N_I) (T := F_I) (N := 6) X.x X.b X.t in_I ft_I to_I nm_I X.o X.K hC.1 hC.2 hS k hk rfl 1 (by decide) (va_Nw.use rfl (X.N.1 ("MemberInspection", 204, "MemberInspection$Item", "small", "B", "MemberInspection") (by decide +kernel))) (fun _ h => h) rfl (by decide +kernel) (pk_nb v) (pk_fb v) (by simp [o_fs, ht]) hdg (fun H1 locs1 h1 h2 h3 => kk H1 locs1 ⟨he ▸ h1, he ▸ h2⟩ h3)
  · obtain ⟨a, rfl, ha, ht⟩ := h
    obtain ⟨k, hk0⟩ := kat hC ha
    have hk : (cw x hs cA K)[k]? = some (a, .inr (3, o_fs (kO K a))) := by rw [hk0]; show some (a, (Sum.inr ((kO K a).1, o_fs (kO K a)) : va_E)) = _; rw [ht]
    have he : (cw x hs cA K).set k (a, .inr (3, (o_fs (kO K a)).set 1 (.int (v.toInt8.toInt32)))) = cw x hs cA (ksO K a (osS (kO K a) (v.toInt8.toInt32))) := by
      rw [← cw_up hC.2 ha hk0]
      congr 2
      show (Sum.inr (3, _) : va_E) = Sum.inr ((kO K a).1, o_fs (osS (kO K a) (v.toInt8.toInt32)))
      rw [ht]
      congr 2
      simp [o_fs, osS, ht, oI, oL, oD, oS, oT, oA, oN, oX]
    exact va_putN (D := D) (ci := 3) (v := .int (v.toInt8.toInt32)) (ty := .byte) (C := N_S) (T := F_S) (N := 7) X.x X.b X.t in_S ft_S to_S nm_S X.o X.K hC.1 hC.2 hS k hk rfl 1 (by decide) (va_Nw.use rfl (X.N.1 ("MemberInspection", 204, "MemberInspection$Item", "small", "B", "MemberInspection") (by decide +kernel))) (fun _ h => h) rfl (by decide +kernel) (pk_nb v) (pk_fb v) (by simp [o_fs, ht]) hdg (fun H1 locs1 h1 h2 h3 => kk H1 locs1 ⟨he ▸ h1, he ▸ h2⟩ h3)
theorem kp_real_I23 (X : KC "MemberInspection$Item" cc nL D (tysC cA) A p s m args c) (hC : CW D A x hs cA K H) (hS : va_S A s.heap H locs) {r : Option Nat} {v : UInt64} (h : isI K r) (hdg : decode cc pc = .ok (.putfield 23, 3)) (kk : ∀ (H1 : Heap) (locs1 : List Loc), CW D A x hs cA (ksR K r (osD (kob K r) (v))) H1 → va_S A s.heap H1 locs1 → W p l e R s m args below meth c H1 locs1 cells slots Q (F0 m (pc + 3) ls rest)) : W p l e R s m args below meth c H locs cells slots Q (F0 m pc ls (.double (v) :: va_rf r :: rest)) := by
  rcases h with h | h
  · obtain ⟨a, rfl, ha, ht⟩ := h
    obtain ⟨k, hk0⟩ := kat hC ha
    have hk : (cw x hs cA K)[k]? = some (a, .inr (1, o_fs (kO K a))) := by rw [hk0]; show some (a, (Sum.inr ((kO K a).1, o_fs (kO K a)) : va_E)) = _; rw [ht]
    have he : (cw x hs cA K).set k (a, .inr (1, (o_fs (kO K a)).set 2 (.double (v)))) = cw x hs cA (ksO K a (osD (kO K a) (v))) := by
      rw [← cw_up hC.2 ha hk0]
      congr 2
      show (Sum.inr (1, _) : va_E) = Sum.inr ((kO K a).1, o_fs (osD (kO K a) (v)))
      rw [ht]
      congr 2
      simp [o_fs, osD, ht, oI, oL, oD, oS, oT, oA, oN, oX]
    exact va_put (D := D) (ci := 1) (v := .double (v)) (ty := .double) (C := N_I) (T := F_I) (N := 6) X.x X.b X.t in_I ft_I to_I nm_I X.o X.K hC.1 hC.2 hS k hk rfl 2 (by decide) (X.t _ wd_117) (fun _ h => h) rfl (by decide +kernel) rfl rfl (by simp [o_fs, ht]) hdg (fun H1 locs1 h1 h2 h3 => kk H1 locs1 ⟨he ▸ h1, he ▸ h2⟩ h3)
  · obtain ⟨a, rfl, ha, ht⟩ := h
    obtain ⟨k, hk0⟩ := kat hC ha
    have hk : (cw x hs cA K)[k]? = some (a, .inr (3, o_fs (kO K a))) := by rw [hk0]; show some (a, (Sum.inr ((kO K a).1, o_fs (kO K a)) : va_E)) = _; rw [ht]
    have he : (cw x hs cA K).set k (a, .inr (3, (o_fs (kO K a)).set 2 (.double (v)))) = cw x hs cA (ksO K a (osD (kO K a) (v))) := by
      rw [← cw_up hC.2 ha hk0]
      congr 2
      show (Sum.inr (3, _) : va_E) = Sum.inr ((kO K a).1, o_fs (osD (kO K a) (v)))
      rw [ht]
      congr 2
      simp [o_fs, osD, ht, oI, oL, oD, oS, oT, oA, oN, oX]
    exact va_put (D := D) (ci := 3) (v := .double (v)) (ty := .double) (C := N_S) (T := F_S) (N := 7) X.x X.b X.t in_S ft_S to_S nm_S X.o X.K hC.1 hC.2 hS k hk rfl 2 (by decide) (X.t _ wd_117) (fun _ h => h) rfl (by decide +kernel) rfl rfl (by simp [o_fs, ht]) hdg (fun H1 locs1 h1 h2 h3 => kk H1 locs1 ⟨he ▸ h1, he ▸ h2⟩ h3)
theorem kp_text_I31 (X : KC "MemberInspection$Item" cc nL D (tysC cA) A p s m args c) (hC : CW D A x hs cA K H) (hS : va_S A s.heap H locs) {r : Option Nat} {v : Option Nat} (h : isI K r) (hdg : decode cc pc = .ok (.putfield 31, 3)) (kk : ∀ (H1 : Heap) (locs1 : List Loc), CW D A x hs cA (ksR K r (osT (kob K r) (v))) H1 → va_S A s.heap H1 locs1 → W p l e R s m args below meth c H1 locs1 cells slots Q (F0 m (pc + 3) ls rest)) : W p l e R s m args below meth c H locs cells slots Q (F0 m pc ls (va_rf (v) :: va_rf r :: rest)) := by
  rcases h with h | h
  · obtain ⟨a, rfl, ha, ht⟩ := h
    obtain ⟨k, hk0⟩ := kat hC ha
    have hk : (cw x hs cA K)[k]? = some (a, .inr (1, o_fs (kO K a))) := by rw [hk0]; show some (a, (Sum.inr ((kO K a).1, o_fs (kO K a)) : va_E)) = _; rw [ht]
    have he : (cw x hs cA K).set k (a, .inr (1, (o_fs (kO K a)).set 3 (va_rf (v)))) = cw x hs cA (ksO K a (osT (kO K a) (v))) := by
      rw [← cw_up hC.2 ha hk0]
      congr 2
      show (Sum.inr (1, _) : va_E) = Sum.inr ((kO K a).1, o_fs (osT (kO K a) (v)))
      rw [ht]
      congr 2
      simp [o_fs, osT, ht, oI, oL, oD, oS, oT, oA, oN, oX]
    exact va_put (D := D) (ci := 1) (v := va_rf (v)) (ty := (.object "MemberInspection$Text")) (C := N_I) (T := F_I) (N := 6) X.x X.b X.t in_I ft_I to_I nm_I X.o X.K hC.1 hC.2 hS k hk rfl 3 (by decide) (X.t _ wd_118) (fun _ h => h) rfl (by decide +kernel) (by cases v <;> rfl) (by cases v <;> rfl) (by simp [o_fs, ht]) hdg (fun H1 locs1 h1 h2 h3 => kk H1 locs1 ⟨he ▸ h1, he ▸ h2⟩ h3)
  · obtain ⟨a, rfl, ha, ht⟩ := h
    obtain ⟨k, hk0⟩ := kat hC ha
    have hk : (cw x hs cA K)[k]? = some (a, .inr (3, o_fs (kO K a))) := by rw [hk0]; show some (a, (Sum.inr ((kO K a).1, o_fs (kO K a)) : va_E)) = _; rw [ht]
    have he : (cw x hs cA K).set k (a, .inr (3, (o_fs (kO K a)).set 3 (va_rf (v)))) = cw x hs cA (ksO K a (osT (kO K a) (v))) := by
      rw [← cw_up hC.2 ha hk0]
      congr 2
      show (Sum.inr (3, _) : va_E) = Sum.inr ((kO K a).1, o_fs (osT (kO K a) (v)))
      rw [ht]
      congr 2
      simp [o_fs, osT, ht, oI, oL, oD, oS, oT, oA, oN, oX]
    exact va_put (D := D) (ci := 3) (v := va_rf (v)) (ty := (.object "MemberInspection$Text")) (C := N_S) (T := F_S) (N := 7) X.x X.b X.t in_S ft_S to_S nm_S X.o X.K hC.1 hC.2 hS k hk rfl 3 (by decide) (X.t _ wd_118) (fun _ h => h) rfl (by decide +kernel) (by cases v <;> rfl) (by cases v <;> rfl) (by simp [o_fs, ht]) hdg (fun H1 locs1 h1 h2 h3 => kk H1 locs1 ⟨he ▸ h1, he ▸ h2⟩ h3)
theorem kp_any_I35 (X : KC "MemberInspection$Item" cc nL D (tysC cA) A p s m args c) (hC : CW D A x hs cA K H) (hS : va_S A s.heap H locs) {r : Option Nat} {v : Option Nat} (h : isI K r) (hdg : decode cc pc = .ok (.putfield 35, 3)) (kk : ∀ (H1 : Heap) (locs1 : List Loc), CW D A x hs cA (ksR K r (osA (kob K r) (v))) H1 → va_S A s.heap H1 locs1 → W p l e R s m args below meth c H1 locs1 cells slots Q (F0 m (pc + 3) ls rest)) : W p l e R s m args below meth c H locs cells slots Q (F0 m pc ls (va_rf (v) :: va_rf r :: rest)) := by
  rcases h with h | h
  · obtain ⟨a, rfl, ha, ht⟩ := h
    obtain ⟨k, hk0⟩ := kat hC ha
    have hk : (cw x hs cA K)[k]? = some (a, .inr (1, o_fs (kO K a))) := by rw [hk0]; show some (a, (Sum.inr ((kO K a).1, o_fs (kO K a)) : va_E)) = _; rw [ht]
    have he : (cw x hs cA K).set k (a, .inr (1, (o_fs (kO K a)).set 4 (va_rf (v)))) = cw x hs cA (ksO K a (osA (kO K a) (v))) := by
      rw [← cw_up hC.2 ha hk0]
      congr 2
      show (Sum.inr (1, _) : va_E) = Sum.inr ((kO K a).1, o_fs (osA (kO K a) (v)))
      rw [ht]
      congr 2
      simp [o_fs, osA, ht, oI, oL, oD, oS, oT, oA, oN, oX]
    exact va_put (D := D) (ci := 1) (v := va_rf (v)) (ty := (.object "MemberInspection$Held")) (C := N_I) (T := F_I) (N := 6) X.x X.b X.t in_I ft_I to_I nm_I X.o X.K hC.1 hC.2 hS k hk rfl 4 (by decide) (X.t _ wd_119) (fun _ h => h) rfl (by decide +kernel) (by cases v <;> rfl) (by cases v <;> rfl) (by simp [o_fs, ht]) hdg (fun H1 locs1 h1 h2 h3 => kk H1 locs1 ⟨he ▸ h1, he ▸ h2⟩ h3)
  · obtain ⟨a, rfl, ha, ht⟩ := h
    obtain ⟨k, hk0⟩ := kat hC ha
    have hk : (cw x hs cA K)[k]? = some (a, .inr (3, o_fs (kO K a))) := by rw [hk0]; show some (a, (Sum.inr ((kO K a).1, o_fs (kO K a)) : va_E)) = _; rw [ht]
    have he : (cw x hs cA K).set k (a, .inr (3, (o_fs (kO K a)).set 4 (va_rf (v)))) = cw x hs cA (ksO K a (osA (kO K a) (v))) := by
      rw [← cw_up hC.2 ha hk0]
      congr 2
      show (Sum.inr (3, _) : va_E) = Sum.inr ((kO K a).1, o_fs (osA (kO K a) (v)))
      rw [ht]
      congr 2
      simp [o_fs, osA, ht, oI, oL, oD, oS, oT, oA, oN, oX]
    exact va_put (D := D) (ci := 3) (v := va_rf (v)) (ty := (.object "MemberInspection$Held")) (C := N_S) (T := F_S) (N := 7) X.x X.b X.t in_S ft_S to_S nm_S X.o X.K hC.1 hC.2 hS k hk rfl 4 (by decide) (X.t _ wd_119) (fun _ h => h) rfl (by decide +kernel) (by cases v <;> rfl) (by cases v <;> rfl) (by simp [o_fs, ht]) hdg (fun H1 locs1 h1 h2 h3 => kk H1 locs1 ⟨he ▸ h1, he ▸ h2⟩ h3)
theorem kp_next_I39 (X : KC "MemberInspection$Item" cc nL D (tysC cA) A p s m args c) (hC : CW D A x hs cA K H) (hS : va_S A s.heap H locs) {r : Option Nat} {v : Option Nat} (h : isI K r) (hdg : decode cc pc = .ok (.putfield 39, 3)) (kk : ∀ (H1 : Heap) (locs1 : List Loc), CW D A x hs cA (ksR K r (osN (kob K r) (v))) H1 → va_S A s.heap H1 locs1 → W p l e R s m args below meth c H1 locs1 cells slots Q (F0 m (pc + 3) ls rest)) : W p l e R s m args below meth c H locs cells slots Q (F0 m pc ls (va_rf (v) :: va_rf r :: rest)) := by
  rcases h with h | h
  · obtain ⟨a, rfl, ha, ht⟩ := h
    obtain ⟨k, hk0⟩ := kat hC ha
    have hk : (cw x hs cA K)[k]? = some (a, .inr (1, o_fs (kO K a))) := by rw [hk0]; show some (a, (Sum.inr ((kO K a).1, o_fs (kO K a)) : va_E)) = _; rw [ht]
    have he : (cw x hs cA K).set k (a, .inr (1, (o_fs (kO K a)).set 5 (va_rf (v)))) = cw x hs cA (ksO K a (osN (kO K a) (v))) := by
      rw [← cw_up hC.2 ha hk0]
      congr 2
      show (Sum.inr (1, _) : va_E) = Sum.inr ((kO K a).1, o_fs (osN (kO K a) (v)))
      rw [ht]
      congr 2
      simp [o_fs, osN, ht, oI, oL, oD, oS, oT, oA, oN, oX]
    exact va_put (D := D) (ci := 1) (v := va_rf (v)) (ty := (.object "MemberInspection$Item")) (C := N_I) (T := F_I) (N := 6) X.x X.b X.t in_I ft_I to_I nm_I X.o X.K hC.1 hC.2 hS k hk rfl 5 (by decide) (X.t _ wd_120) (fun _ h => h) rfl (by decide +kernel) (by cases v <;> rfl) (by cases v <;> rfl) (by simp [o_fs, ht]) hdg (fun H1 locs1 h1 h2 h3 => kk H1 locs1 ⟨he ▸ h1, he ▸ h2⟩ h3)
  · obtain ⟨a, rfl, ha, ht⟩ := h
    obtain ⟨k, hk0⟩ := kat hC ha
    have hk : (cw x hs cA K)[k]? = some (a, .inr (3, o_fs (kO K a))) := by rw [hk0]; show some (a, (Sum.inr ((kO K a).1, o_fs (kO K a)) : va_E)) = _; rw [ht]
    have he : (cw x hs cA K).set k (a, .inr (3, (o_fs (kO K a)).set 5 (va_rf (v)))) = cw x hs cA (ksO K a (osN (kO K a) (v))) := by
      rw [← cw_up hC.2 ha hk0]
      congr 2
      show (Sum.inr (3, _) : va_E) = Sum.inr ((kO K a).1, o_fs (osN (kO K a) (v)))
      rw [ht]
      congr 2
      simp [o_fs, osN, ht, oI, oL, oD, oS, oT, oA, oN, oX]
    exact va_put (D := D) (ci := 3) (v := va_rf (v)) (ty := (.object "MemberInspection$Item")) (C := N_S) (T := F_S) (N := 7) X.x X.b X.t in_S ft_S to_S nm_S X.o X.K hC.1 hC.2 hS k hk rfl 5 (by decide) (X.t _ wd_120) (fun _ h => h) rfl (by decide +kernel) (by cases v <;> rfl) (by cases v <;> rfl) (by simp [o_fs, ht]) hdg (fun H1 locs1 h1 h2 h3 => kk H1 locs1 ⟨he ▸ h1, he ▸ h2⟩ h3)
theorem kp_extra_S9 (X : KC "MemberInspection$Special" cc nL D (tysC cA) A p s m args c) (hC : CW D A x hs cA K H) (hS : va_S A s.heap H locs) {r : Option Nat} {v : Int32} (h : isT K r 3) (hdg : decode cc pc = .ok (.putfield 9, 3)) (kk : ∀ (H1 : Heap) (locs1 : List Loc), CW D A x hs cA (ksR K r (osX (kob K r) (v.toInt16.toInt32))) H1 → va_S A s.heap H1 locs1 → W p l e R s m args below meth c H1 locs1 cells slots Q (F0 m (pc + 3) ls rest)) : W p l e R s m args below meth c H locs cells slots Q (F0 m pc ls (.int (v.toInt16.toInt32) :: va_rf r :: rest)) := by
  obtain ⟨a, rfl, ha, ht⟩ := h
  obtain ⟨k, hk0⟩ := kat hC ha
  have hk : (cw x hs cA K)[k]? = some (a, .inr (3, o_fs (kO K a))) := by rw [hk0]; show some (a, (Sum.inr ((kO K a).1, o_fs (kO K a)) : va_E)) = _; rw [ht]
  have he : (cw x hs cA K).set k (a, .inr (3, (o_fs (kO K a)).set 6 (.int (v.toInt16.toInt32)))) = cw x hs cA (ksO K a (osX (kO K a) (v.toInt16.toInt32))) := by
    rw [← cw_up hC.2 ha hk0]
    congr 2
    show (Sum.inr (3, _) : va_E) = Sum.inr ((kO K a).1, o_fs (osX (kO K a) (v.toInt16.toInt32)))
    rw [ht]
    congr 2
    simp [o_fs, osX, ht, oI, oL, oD, oS, oT, oA, oN, oX]
  exact va_put (D := D) (ci := 3) (v := .int (v.toInt16.toInt32)) (ty := .short) (C := N_S) (T := F_S) (N := 7) X.x X.b X.t in_S ft_S to_S nm_S X.o X.K hC.1 hC.2 hS k hk rfl 6 (by decide) (X.t _ wd_140) (fun _ h => h) rfl (by decide +kernel) (pk_ns v) (pk_fs v) (by simp [o_fs, ht]) hdg (fun H1 locs1 h1 h2 h3 => kk H1 locs1 ⟨he ▸ h1, he ▸ h2⟩ h3)
theorem ki_inst_B (X : KC "MemberInspection" cc nL D (tysC cA) A p s m args c) (hC : CW D A x hs cA K H) {r : Option Nat} (h : okR K r) (hdg : decode cc pc = .ok (.instanceof 78, 3)) (kk : W p l e R s m args below meth c H locs cells slots Q (F0 m (pc + 3) ls (.int (bI (ktg K r == 0)) :: rest))) : W p l e R s m args below meth c H locs cells slots Q (F0 m pc ls (va_rf r :: rest)) := by
  cases r with
  | none => exact lv_instN X.x X.b hdg kk
  | some a =>
    obtain ⟨ha, ht⟩ := h a rfl
    have et : ktg K (some a) = (kO K a).1 := rfl
    rw [et] at kk
    rcases (show (kO K a).1 = 0 ∨ (kO K a).1 = 1 ∨ (kO K a).1 = 2 ∨ (kO K a).1 = 3 ∨ (kO K a).1 = 4 by omega) with e1 | e1 | e1 | e1 | e1
    · rw [e1] at kk
      exact va_instY (C := "MemberInspection$Box") X.x X.b X.o (X.t _ wd_62) (X.N.2.2.1 ("MemberInspection$Box", "MemberInspection$Box") (by decide +kernel)) (krec X hC ha e1 rfl) hdg kk
    · rw [e1] at kk
      exact va_instNo (C := "MemberInspection$Item") X.x X.b X.o (X.t _ wd_62) (X.N.2.2.2.2 ("MemberInspection$Item", "MemberInspection$Box") (by decide +kernel)) (krec X hC ha e1 rfl) hdg kk
    · rw [e1] at kk
      exact va_instNo (C := "MemberInspection$Plain") X.x X.b X.o (X.t _ wd_62) (X.N.2.2.2.2 ("MemberInspection$Plain", "MemberInspection$Box") (by decide +kernel)) (krec X hC ha e1 rfl) hdg kk
    · rw [e1] at kk
      exact va_instNo (C := "MemberInspection$Special") X.x X.b X.o (X.t _ wd_62) (X.N.2.2.2.2 ("MemberInspection$Special", "MemberInspection$Box") (by decide +kernel)) (krec X hC ha e1 rfl) hdg kk
    · rw [e1] at kk
      exact va_instNo (C := "MemberInspection$Text") X.x X.b X.o (X.t _ wd_62) (X.N.2.2.2.2 ("MemberInspection$Text", "MemberInspection$Box") (by decide +kernel)) (krec X hC ha e1 rfl) hdg kk
theorem ki_inst_T (X : KC "MemberInspection" cc nL D (tysC cA) A p s m args c) (hC : CW D A x hs cA K H) {r : Option Nat} (h : okR K r) (hdg : decode cc pc = .ok (.instanceof 28, 3)) (kk : W p l e R s m args below meth c H locs cells slots Q (F0 m (pc + 3) ls (.int (bI (ktg K r == 4)) :: rest))) : W p l e R s m args below meth c H locs cells slots Q (F0 m pc ls (va_rf r :: rest)) := by
  cases r with
  | none => exact lv_instN X.x X.b hdg kk
  | some a =>
    obtain ⟨ha, ht⟩ := h a rfl
    have et : ktg K (some a) = (kO K a).1 := rfl
    rw [et] at kk
    rcases (show (kO K a).1 = 0 ∨ (kO K a).1 = 1 ∨ (kO K a).1 = 2 ∨ (kO K a).1 = 3 ∨ (kO K a).1 = 4 by omega) with e1 | e1 | e1 | e1 | e1
    · rw [e1] at kk
      exact va_instNo (C := "MemberInspection$Box") X.x X.b X.o (X.t _ wd_38) (X.N.2.2.2.2 ("MemberInspection$Box", "MemberInspection$Text") (by decide +kernel)) (krec X hC ha e1 rfl) hdg kk
    · rw [e1] at kk
      exact va_instNo (C := "MemberInspection$Item") X.x X.b X.o (X.t _ wd_38) (X.N.2.2.2.2 ("MemberInspection$Item", "MemberInspection$Text") (by decide +kernel)) (krec X hC ha e1 rfl) hdg kk
    · rw [e1] at kk
      exact va_instNo (C := "MemberInspection$Plain") X.x X.b X.o (X.t _ wd_38) (X.N.2.2.2.2 ("MemberInspection$Plain", "MemberInspection$Text") (by decide +kernel)) (krec X hC ha e1 rfl) hdg kk
    · rw [e1] at kk
      exact va_instNo (C := "MemberInspection$Special") X.x X.b X.o (X.t _ wd_38) (X.N.2.2.2.2 ("MemberInspection$Special", "MemberInspection$Text") (by decide +kernel)) (krec X hC ha e1 rfl) hdg kk
    · rw [e1] at kk
      exact va_instY (C := "MemberInspection$Text") X.x X.b X.o (X.t _ wd_38) (X.N.2.2.1 ("MemberInspection$Text", "MemberInspection$Text") (by decide +kernel)) (krec X hC ha e1 rfl) hdg kk
theorem ki_inst_I (X : KC "MemberInspection" cc nL D (tysC cA) A p s m args c) (hC : CW D A x hs cA K H) {r : Option Nat} (h : okR K r) (hdg : decode cc pc = .ok (.instanceof 112, 3)) (kk : W p l e R s m args below meth c H locs cells slots Q (F0 m (pc + 3) ls (.int (bI (ktg K r == 1 || ktg K r == 3)) :: rest))) : W p l e R s m args below meth c H locs cells slots Q (F0 m pc ls (va_rf r :: rest)) := by
  cases r with
  | none => exact lv_instN X.x X.b hdg kk
  | some a =>
    obtain ⟨ha, ht⟩ := h a rfl
    have et : ktg K (some a) = (kO K a).1 := rfl
    rw [et] at kk
    rcases (show (kO K a).1 = 0 ∨ (kO K a).1 = 1 ∨ (kO K a).1 = 2 ∨ (kO K a).1 = 3 ∨ (kO K a).1 = 4 by omega) with e1 | e1 | e1 | e1 | e1
    · rw [e1] at kk
      exact va_instNo (C := "MemberInspection$Box") X.x X.b X.o (X.t _ wd_106) (X.N.2.2.2.2 ("MemberInspection$Box", "MemberInspection$Item") (by decide +kernel)) (krec X hC ha e1 rfl) hdg kk
    · rw [e1] at kk
      exact va_instY (C := "MemberInspection$Item") X.x X.b X.o (X.t _ wd_106) (X.N.2.2.1 ("MemberInspection$Item", "MemberInspection$Item") (by decide +kernel)) (krec X hC ha e1 rfl) hdg kk
    · rw [e1] at kk
      exact va_instNo (C := "MemberInspection$Plain") X.x X.b X.o (X.t _ wd_106) (X.N.2.2.2.2 ("MemberInspection$Plain", "MemberInspection$Item") (by decide +kernel)) (krec X hC ha e1 rfl) hdg kk
    · rw [e1] at kk
      exact va_instY (C := "MemberInspection$Special") X.x X.b X.o (X.t _ wd_106) (X.N.2.2.1 ("MemberInspection$Special", "MemberInspection$Item") (by decide +kernel)) (krec X hC ha e1 rfl) hdg kk
    · rw [e1] at kk
      exact va_instNo (C := "MemberInspection$Text") X.x X.b X.o (X.t _ wd_106) (X.N.2.2.2.2 ("MemberInspection$Text", "MemberInspection$Item") (by decide +kernel)) (krec X hC ha e1 rfl) hdg kk
theorem ki_inst_S (X : KC "MemberInspection" cc nL D (tysC cA) A p s m args c) (hC : CW D A x hs cA K H) {r : Option Nat} (h : okR K r) (hdg : decode cc pc = .ok (.instanceof 175, 3)) (kk : W p l e R s m args below meth c H locs cells slots Q (F0 m (pc + 3) ls (.int (bI (ktg K r == 3)) :: rest))) : W p l e R s m args below meth c H locs cells slots Q (F0 m pc ls (va_rf r :: rest)) := by
  cases r with
  | none => exact lv_instN X.x X.b hdg kk
  | some a =>
    obtain ⟨ha, ht⟩ := h a rfl
    have et : ktg K (some a) = (kO K a).1 := rfl
    rw [et] at kk
    rcases (show (kO K a).1 = 0 ∨ (kO K a).1 = 1 ∨ (kO K a).1 = 2 ∨ (kO K a).1 = 3 ∨ (kO K a).1 = 4 by omega) with e1 | e1 | e1 | e1 | e1
    · rw [e1] at kk
      exact va_instNo (C := "MemberInspection$Box") X.x X.b X.o (X.t _ wd_134) (X.N.2.2.2.2 ("MemberInspection$Box", "MemberInspection$Special") (by decide +kernel)) (krec X hC ha e1 rfl) hdg kk
    · rw [e1] at kk
      exact va_instNo (C := "MemberInspection$Item") X.x X.b X.o (X.t _ wd_134) (X.N.2.2.2.2 ("MemberInspection$Item", "MemberInspection$Special") (by decide +kernel)) (krec X hC ha e1 rfl) hdg kk
    · rw [e1] at kk
      exact va_instNo (C := "MemberInspection$Plain") X.x X.b X.o (X.t _ wd_134) (X.N.2.2.2.2 ("MemberInspection$Plain", "MemberInspection$Special") (by decide +kernel)) (krec X hC ha e1 rfl) hdg kk
    · rw [e1] at kk
      exact va_instY (C := "MemberInspection$Special") X.x X.b X.o (X.t _ wd_134) (X.N.2.2.1 ("MemberInspection$Special", "MemberInspection$Special") (by decide +kernel)) (krec X hC ha e1 rfl) hdg kk
    · rw [e1] at kk
      exact va_instNo (C := "MemberInspection$Text") X.x X.b X.o (X.t _ wd_134) (X.N.2.2.2.2 ("MemberInspection$Text", "MemberInspection$Special") (by decide +kernel)) (krec X hC ha e1 rfl) hdg kk
theorem ki_inst_P (X : KC "MemberInspection" cc nL D (tysC cA) A p s m args c) (hC : CW D A x hs cA K H) {r : Option Nat} (h : okR K r) (hdg : decode cc pc = .ok (.instanceof 172, 3)) (kk : W p l e R s m args below meth c H locs cells slots Q (F0 m (pc + 3) ls (.int (bI (ktg K r == 2)) :: rest))) : W p l e R s m args below meth c H locs cells slots Q (F0 m pc ls (va_rf r :: rest)) := by
  cases r with
  | none => exact lv_instN X.x X.b hdg kk
  | some a =>
    obtain ⟨ha, ht⟩ := h a rfl
    have et : ktg K (some a) = (kO K a).1 := rfl
    rw [et] at kk
    rcases (show (kO K a).1 = 0 ∨ (kO K a).1 = 1 ∨ (kO K a).1 = 2 ∨ (kO K a).1 = 3 ∨ (kO K a).1 = 4 by omega) with e1 | e1 | e1 | e1 | e1
    · rw [e1] at kk
      exact va_instNo (C := "MemberInspection$Box") X.x X.b X.o (X.t _ wd_150) (X.N.2.2.2.2 ("MemberInspection$Box", "MemberInspection$Plain") (by decide +kernel)) (krec X hC ha e1 rfl) hdg kk
    · rw [e1] at kk
      exact va_instNo (C := "MemberInspection$Item") X.x X.b X.o (X.t _ wd_150) (X.N.2.2.2.2 ("MemberInspection$Item", "MemberInspection$Plain") (by decide +kernel)) (krec X hC ha e1 rfl) hdg kk
    · rw [e1] at kk
      exact va_instY (C := "MemberInspection$Plain") X.x X.b X.o (X.t _ wd_150) (X.N.2.2.1 ("MemberInspection$Plain", "MemberInspection$Plain") (by decide +kernel)) (krec X hC ha e1 rfl) hdg kk
    · rw [e1] at kk
      exact va_instNo (C := "MemberInspection$Special") X.x X.b X.o (X.t _ wd_150) (X.N.2.2.2.2 ("MemberInspection$Special", "MemberInspection$Plain") (by decide +kernel)) (krec X hC ha e1 rfl) hdg kk
    · rw [e1] at kk
      exact va_instNo (C := "MemberInspection$Text") X.x X.b X.o (X.t _ wd_150) (X.N.2.2.2.2 ("MemberInspection$Text", "MemberInspection$Plain") (by decide +kernel)) (krec X hC ha e1 rfl) hdg kk
theorem ki_cast_B (X : KC "MemberInspection" cc nL D (tysC cA) A p s m args c) (hC : CW D A x hs cA K H) {r : Option Nat} (h : isT K r 0) (hdg : decode cc pc = .ok (.checkcast 78, 3)) (kk : W p l e R s m args below meth c H locs cells slots Q (F0 m (pc + 3) ls (va_rf r :: rest))) : W p l e R s m args below meth c H locs cells slots Q (F0 m pc ls (va_rf r :: rest)) := by
  obtain ⟨a, rfl, ha, ht⟩ := h
  exact va_castY (C := "MemberInspection$Box") X.x X.b X.o (X.t _ wd_62) (X.N.2.2.1 ("MemberInspection$Box", "MemberInspection$Box") (by decide +kernel)) (krec X hC ha ht rfl) hdg kk
theorem ki_cast_T (X : KC "MemberInspection" cc nL D (tysC cA) A p s m args c) (hC : CW D A x hs cA K H) {r : Option Nat} (h : isT K r 4) (hdg : decode cc pc = .ok (.checkcast 28, 3)) (kk : W p l e R s m args below meth c H locs cells slots Q (F0 m (pc + 3) ls (va_rf r :: rest))) : W p l e R s m args below meth c H locs cells slots Q (F0 m pc ls (va_rf r :: rest)) := by
  obtain ⟨a, rfl, ha, ht⟩ := h
  exact va_castY (C := "MemberInspection$Text") X.x X.b X.o (X.t _ wd_38) (X.N.2.2.1 ("MemberInspection$Text", "MemberInspection$Text") (by decide +kernel)) (krec X hC ha ht rfl) hdg kk
theorem ki_cast_I (X : KC "MemberInspection" cc nL D (tysC cA) A p s m args c) (hC : CW D A x hs cA K H) {r : Option Nat} (h : isI K r) (hdg : decode cc pc = .ok (.checkcast 112, 3)) (kk : W p l e R s m args below meth c H locs cells slots Q (F0 m (pc + 3) ls (va_rf r :: rest))) : W p l e R s m args below meth c H locs cells slots Q (F0 m pc ls (va_rf r :: rest)) := by
  rcases h with h | h
  · obtain ⟨a, rfl, ha, ht⟩ := h
    exact va_castY (C := "MemberInspection$Item") X.x X.b X.o (X.t _ wd_106) (X.N.2.2.1 ("MemberInspection$Item", "MemberInspection$Item") (by decide +kernel)) (krec X hC ha ht rfl) hdg kk
  · obtain ⟨a, rfl, ha, ht⟩ := h
    exact va_castY (C := "MemberInspection$Special") X.x X.b X.o (X.t _ wd_106) (X.N.2.2.1 ("MemberInspection$Special", "MemberInspection$Item") (by decide +kernel)) (krec X hC ha ht rfl) hdg kk
theorem ki_new_B (X : KC "MemberInspection" cc nL D (tysC cA) A p s m args c) (hC : CW D A x hs cA K H) (hS : va_S A s.heap H locs) (hcells : cells + 1 ≤ R.cells) (hslots : slots + 3 ≤ R.slots) (hdg : decode cc pc = .ok (.new 78, 3)) (kk : ∀ (q : Nat) (H1 : Heap), q ∉ kL K → CW D A x hs cA (kNew K q (ob0 0)) H1 → va_S A s.heap H1 locs → W p l e R s m args below meth c H1 locs (cells + 1) (slots + 3) Q (F0 m (pc + 3) ls (.ref q :: rest))) : W p l e R s m args below meth c H locs cells slots Q (F0 m pc ls rest) := by
  refine va_new (ci := 0) (fs := o_fs (ob0 0)) (C := N_B) (T := F_B) (N := 3) X.x X.b X.t in_B ft_B to_B X.o (X.t _ wd_62) (X.t _ wd_63) (X.t _ wd_6) X.K hC.1 hC.2 hS X.al rfl (fun j hj => by rcases (show j = 0 ∨ j = 1 ∨ j = 2 by omega) with rfl | rfl | rfl <;> rfl) hcells hslots hdg (fun q H1 h1 h2 h3 => ?_)
  have hq : q ∉ kL K := va_pl_fresh2 h2
  have he : cw x hs cA K ++ [(q, .inr (0, o_fs (ob0 0)))] = cw x hs cA (kNew K q (ob0 0)) := cw_new (x := x) (hs := hs) (cA := cA) (o := ob0 0) hq
  exact kk q H1 hq ⟨he ▸ h1, he ▸ h2⟩ h3
theorem ki_new_T (X : KC "MemberInspection" cc nL D (tysC cA) A p s m args c) (hC : CW D A x hs cA K H) (hS : va_S A s.heap H locs) (hcells : cells + 1 ≤ R.cells) (hslots : slots + 1 ≤ R.slots) (hdg : decode cc pc = .ok (.new 28, 3)) (kk : ∀ (q : Nat) (H1 : Heap), q ∉ kL K → CW D A x hs cA (kNew K q (ob0 4)) H1 → va_S A s.heap H1 locs → W p l e R s m args below meth c H1 locs (cells + 1) (slots + 1) Q (F0 m (pc + 3) ls (.ref q :: rest))) : W p l e R s m args below meth c H locs cells slots Q (F0 m pc ls rest) := by
  refine va_new (ci := 4) (fs := o_fs (ob0 4)) (C := N_T) (T := F_T) (N := 1) X.x X.b X.t in_T ft_T to_T X.o (X.t _ wd_38) (X.t _ wd_39) (X.t _ wd_4) X.K hC.1 hC.2 hS X.al rfl (fun j hj => by rcases (show j = 0 by omega) with rfl <;> rfl) hcells hslots hdg (fun q H1 h1 h2 h3 => ?_)
  have hq : q ∉ kL K := va_pl_fresh2 h2
  have he : cw x hs cA K ++ [(q, .inr (4, o_fs (ob0 4)))] = cw x hs cA (kNew K q (ob0 4)) := cw_new (x := x) (hs := hs) (cA := cA) (o := ob0 4) hq
  exact kk q H1 hq ⟨he ▸ h1, he ▸ h2⟩ h3
theorem ki_new_I (X : KC "MemberInspection" cc nL D (tysC cA) A p s m args c) (hC : CW D A x hs cA K H) (hS : va_S A s.heap H locs) (hcells : cells + 1 ≤ R.cells) (hslots : slots + 6 ≤ R.slots) (hdg : decode cc pc = .ok (.new 112, 3)) (kk : ∀ (q : Nat) (H1 : Heap), q ∉ kL K → CW D A x hs cA (kNew K q (ob0 1)) H1 → va_S A s.heap H1 locs → W p l e R s m args below meth c H1 locs (cells + 1) (slots + 6) Q (F0 m (pc + 3) ls (.ref q :: rest))) : W p l e R s m args below meth c H locs cells slots Q (F0 m pc ls rest) := by
  refine va_new (ci := 1) (fs := o_fs (ob0 1)) (C := N_I) (T := F_I) (N := 6) X.x X.b X.t in_I ft_I to_I X.o (X.t _ wd_106) (X.t _ wd_107) (X.t _ wd_7) X.K hC.1 hC.2 hS X.al rfl (fun j hj => by rcases (show j = 0 ∨ j = 1 ∨ j = 2 ∨ j = 3 ∨ j = 4 ∨ j = 5 by omega) with rfl | rfl | rfl | rfl | rfl | rfl <;> rfl) hcells hslots hdg (fun q H1 h1 h2 h3 => ?_)
  have hq : q ∉ kL K := va_pl_fresh2 h2
  have he : cw x hs cA K ++ [(q, .inr (1, o_fs (ob0 1)))] = cw x hs cA (kNew K q (ob0 1)) := cw_new (x := x) (hs := hs) (cA := cA) (o := ob0 1) hq
  exact kk q H1 hq ⟨he ▸ h1, he ▸ h2⟩ h3
theorem ki_new_S (X : KC "MemberInspection" cc nL D (tysC cA) A p s m args c) (hC : CW D A x hs cA K H) (hS : va_S A s.heap H locs) (hcells : cells + 1 ≤ R.cells) (hslots : slots + 7 ≤ R.slots) (hdg : decode cc pc = .ok (.new 175, 3)) (kk : ∀ (q : Nat) (H1 : Heap), q ∉ kL K → CW D A x hs cA (kNew K q (ob0 3)) H1 → va_S A s.heap H1 locs → W p l e R s m args below meth c H1 locs (cells + 1) (slots + 7) Q (F0 m (pc + 3) ls (.ref q :: rest))) : W p l e R s m args below meth c H locs cells slots Q (F0 m pc ls rest) := by
  refine va_new (ci := 3) (fs := o_fs (ob0 3)) (C := N_S) (T := F_S) (N := 7) X.x X.b X.t in_S ft_S to_S X.o (X.t _ wd_134) (X.t _ wd_135) (X.t _ wd_8) X.K hC.1 hC.2 hS X.al rfl (fun j hj => by rcases (show j = 0 ∨ j = 1 ∨ j = 2 ∨ j = 3 ∨ j = 4 ∨ j = 5 ∨ j = 6 by omega) with rfl | rfl | rfl | rfl | rfl | rfl | rfl <;> rfl) hcells hslots hdg (fun q H1 h1 h2 h3 => ?_)
  have hq : q ∉ kL K := va_pl_fresh2 h2
  have he : cw x hs cA K ++ [(q, .inr (3, o_fs (ob0 3)))] = cw x hs cA (kNew K q (ob0 3)) := cw_new (x := x) (hs := hs) (cA := cA) (o := ob0 3) hq
  exact kk q H1 hq ⟨he ▸ h1, he ▸ h2⟩ h3
theorem ki_new_P (X : KC "MemberInspection" cc nL D (tysC cA) A p s m args c) (hC : CW D A x hs cA K H) (hS : va_S A s.heap H locs) (hcells : cells + 1 ≤ R.cells) (hslots : slots + 0 ≤ R.slots) (hdg : decode cc pc = .ok (.new 172, 3)) (kk : ∀ (q : Nat) (H1 : Heap), q ∉ kL K → CW D A x hs cA (kNew K q (ob0 2)) H1 → va_S A s.heap H1 locs → W p l e R s m args below meth c H1 locs (cells + 1) (slots + 0) Q (F0 m (pc + 3) ls (.ref q :: rest))) : W p l e R s m args below meth c H locs cells slots Q (F0 m pc ls rest) := by
  refine va_new (ci := 2) (fs := o_fs (ob0 2)) (C := N_P) (T := F_P) (N := 0) X.x X.b X.t in_P ft_P to_P X.o (X.t _ wd_150) (X.t _ wd_151) (X.t _ wd_9) X.K hC.1 hC.2 hS X.al rfl (fun j hj => by exact absurd hj (by omega)) hcells hslots hdg (fun q H1 h1 h2 h3 => ?_)
  have hq : q ∉ kL K := va_pl_fresh2 h2
  have he : cw x hs cA K ++ [(q, .inr (2, o_fs (ob0 2)))] = cw x hs cA (kNew K q (ob0 2)) := cw_new (x := x) (hs := hs) (cA := cA) (o := ob0 2) hq
  exact kk q H1 hq ⟨he ▸ h1, he ▸ h2⟩ h3
theorem kgs {tys : List (ClassId × FieldType)} (X : KC "MemberInspection" cc nL D tys A p s m args c) (hS : va_S A s.heap H locs) {nm : String} {lst : List Int32} {index : Nat} (hm : (nm, lst) ∈ sfL) (hl : Cond.fieldLink "MemberInspection" index "MemberInspection" nm "[I" ∈ gd_tbl) (hdg : decode cc pc = .ok (.getstatic index, 3)) (kk : ∀ t : Nat, va_T .int t lst.length (fun j => .int (lst.getD j 0)) A s s.heap → W p l e R s m args below meth c H locs cells slots Q (F0 m (pc + 3) ls (.ref t :: rest))) : W p l e R s m args below meth c H locs cells slots Q (F0 m pc ls rest) := by
  obtain ⟨t, h1, h2⟩ := X.S _ hm
  exact va_gets X.x X.b h1 hS X.o (X.t _ hl) (fun _ h => h) hdg (kk t h2)
theorem kgsN {tys : List (ClassId × FieldType)} (X : KC own cc nL D tys A p s m args c) (hS : va_S A s.heap H locs) {nm : String} {lst : List Int32} {index : Nat} (hm : (nm, lst) ∈ sfL) (hl : (own, index, "MemberInspection", nm, "[I", "MemberInspection") ∈ nfF) (hdg : decode cc pc = .ok (.getstatic index, 3)) (kk : ∀ t : Nat, va_T .int t lst.length (fun j => .int (lst.getD j 0)) A s s.heap → W p l e R s m args below meth c H locs cells slots Q (F0 m (pc + 3) ls (.ref t :: rest))) : W p l e R s m args below meth c H locs cells slots Q (F0 m pc ls rest) := by
  obtain ⟨t, h1, h2⟩ := X.S _ hm
  exact va_getsN X.x X.b h1 hS X.o (va_Nw.use rfl (X.N.1 _ hl)) (fun _ h => h) hdg (kk t h2)
theorem ksl {tys : List (ClassId × FieldType)} (X : KC own cc nL D tys A p s m args c) (hS : va_S A s.heap H locs) {t : Nat} {lst : List Int32} (hT : va_T .int t lst.length (fun j => .int (lst.getD j 0)) A s s.heap) {i : Int32} (hin : vp_in i lst.length) (hdg : decode cc pc = .ok (.iaload, 1)) (kk : W p l e R s m args below meth c H locs cells slots Q (F0 m (pc + 1) ls (.int (lst.getD i.toNatClampNeg 0) :: rest))) : W p l e R s m args below meth c H locs cells slots Q (F0 m pc ls (.int i :: .ref t :: rest)) :=
  va_ti X.x X.b hT hS hin rfl hdg kk
theorem kr_aload_n (hx : p.tables.exec = Jvm.exec) (hb : c.code = cc) {k : Fin 4} {i : Nat} {r : Option Nat} (hdg : decode cc pc = .ok (.aload_n k, 1)) (hi : (k : Nat) = i) (hl : ls[i]? = some (.val (va_rf r))) (kk : W p l e R s m args below meth c H locs cells slots Q (F0 m (pc + 1) ls (va_rf r :: rest))) : W p l e R s m args below meth c H locs cells slots Q (F0 m pc ls rest) := by
  cases r with
  | none => exact lv_aload_nN hx hb hdg hi hl kk
  | some a => exact lv_aload_n hx hb hdg hi hl kk
theorem kr_aload (hx : p.tables.exec = Jvm.exec) (hb : c.code = cc) {i : Nat} {r : Option Nat} (hdg : decode cc pc = .ok (.aload i, 2)) (hl : ls[i]? = some (.val (va_rf r))) (kk : W p l e R s m args below meth c H locs cells slots Q (F0 m (pc + 2) ls (va_rf r :: rest))) : W p l e R s m args below meth c H locs cells slots Q (F0 m pc ls rest) := by
  cases r with
  | none => exact lv_aloadN hx hb hdg hl kk
  | some a => exact lv_aload hx hb hdg hl kk
theorem kr_astore_n (hx : p.tables.exec = Jvm.exec) (hb : c.code = cc) {k : Fin 4} {i nL : Nat} {r : Option Nat} {lv lv' : List (Nat × Value)} (hdg : decode cc pc = .ok (.astore_n k, 1)) (hi : (k : Nat) = i) (h : lv_has ls nL lv) (hn : i < nL) (hl : (i, va_rf r) :: lv.filter (fun q => !(q.1 == i) && !(q.1 + 1 == i && q.2.category == 2)) = lv') (kk : ∀ ls' : Array Slot, lv_has ls' nL lv' → W p l e R s m args below meth c H locs cells slots Q (F0 m (pc + 1) ls' rest)) : W p l e R s m args below meth c H locs cells slots Q (F0 m pc ls (va_rf r :: rest)) := by
  cases r with
  | none => exact lv_astore_nN hx hb hdg hi h hn hl kk
  | some a => exact lv_astore_n hx hb hdg hi h hn hl kk
theorem kr_astore (hx : p.tables.exec = Jvm.exec) (hb : c.code = cc) {i nL : Nat} {r : Option Nat} {lv lv' : List (Nat × Value)} (hdg : decode cc pc = .ok (.astore i, 2)) (h : lv_has ls nL lv) (hn : i < nL) (hl : (i, va_rf r) :: lv.filter (fun q => !(q.1 == i) && !(q.1 + 1 == i && q.2.category == 2)) = lv') (kk : ∀ ls' : Array Slot, lv_has ls' nL lv' → W p l e R s m args below meth c H locs cells slots Q (F0 m (pc + 2) ls' rest)) : W p l e R s m args below meth c H locs cells slots Q (F0 m pc ls (va_rf r :: rest)) := by
  cases r with
  | none => exact lv_astoreN hx hb hdg h hn hl kk
  | some a => exact lv_astore hx hb hdg h hn hl kk
theorem kr_ifnull (hx : p.tables.exec = Jvm.exec) (hb : c.code = cc) {r : Option Nat} {off : Int} {tgt : Nat} (hdg : decode cc pc = .ok (.ifnull off, 3)) (ht : (pc : Int) + off = (tgt : Int)) (kt : r = none → W p l e R s m args below meth c H locs cells slots Q (F0 m tgt ls rest)) (kf : ¬ r = none → W p l e R s m args below meth c H locs cells slots Q (F0 m (pc + 3) ls rest)) : W p l e R s m args below meth c H locs cells slots Q (F0 m pc ls (va_rf r :: rest)) := by
  cases r with
  | none => exact lv_ifnullN hx hb hdg ht (kt rfl)
  | some a => exact lv_ifnull hx hb hdg (kf (by simp))
theorem kr_ifnonnull (hx : p.tables.exec = Jvm.exec) (hb : c.code = cc) {r : Option Nat} {off : Int} {tgt : Nat} (hdg : decode cc pc = .ok (.ifnonnull off, 3)) (ht : (pc : Int) + off = (tgt : Int)) (kt : ¬ r = none → W p l e R s m args below meth c H locs cells slots Q (F0 m tgt ls rest)) (kf : r = none → W p l e R s m args below meth c H locs cells slots Q (F0 m (pc + 3) ls rest)) : W p l e R s m args below meth c H locs cells slots Q (F0 m pc ls (va_rf r :: rest)) := by
  cases r with
  | none => exact lv_ifnonnullN hx hb hdg (kf rfl)
  | some a => exact lv_ifnonnull hx hb hdg ht (kt (by simp))
theorem kr_null (hx : p.tables.exec = Jvm.exec) (hb : c.code = cc) (hdg : decode cc pc = .ok (.aconst_null, 1)) (kk : W p l e R s m args below meth c H locs cells slots Q (F0 m (pc + 1) ls (va_rf none :: rest))) : W p l e R s m args below meth c H locs cells slots Q (F0 m pc ls rest) := lv_null hx hb hdg kk
end KS
