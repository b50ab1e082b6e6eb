/-! the makers of both objects -/
theorem kmetG {l : Launch} {y : MethodName} {cc : ByteArray} {nL mc ms : Nat} {rm : Room} {D : va_G} {tys : List (ClassId × FieldType)} {A : Nat → Prop} {As : List Value} {G : State → Prop} {B : Heap → Prop} {lv : List (Nat × Value)} {S : Type} {BB : S → Heap → Prop} {post : S → Prop} (hy : plainFor y = true) (hlv : lv_args 0 As = lv) (hlen : (lg_sl As).length ≤ nL)
    (hgo : ∀ (p : Program) (e : Env) (s : State) (m : MethodId) (args : Array Value) (below : List Frame) (meth : Method) (c : Code) (Q : State → Prop) (ls : Array Slot), KC y.cls cc nL D tys A p s m args c → meth.name = y.name → G s → B s.heap → lv_has ls nL lv → kEv l cc rm mc ms A BB post p e s m args below meth c Q → W p l e rm s m args below meth c s.heap [] 0 0 Q (F0 m 0 ls [])) : Met l y (kw y cc nL none) rm (va_Pc As (fun U => (kf D tys A U ∧ G U) ∧ B U.heap)) (va_Qv post (fun u t => BB u t.heap) A) mc ms A := by
  refine va_MetF (cc := cc) (maxL := nL) (ret := none) hy rfl ?_
  intro p e s m args below meth c s₁ Bd hml hv
  obtain ⟨rfl, ⟨hf, hG⟩, hB⟩ := hv
  have hts := atoms_spec (ws := kw y cc nL none) Bd.pre
  have hown : s.vm.findClass y.cls = some m.cls := findClass_of_methodNamed Bd.named
  have hin : meth.name = y.name := (name_of_methodNamed Bd.named Bd.method).1
  have hl := lv_entry As (n := nL) hlen
  rw [lg_entry_eq]
  rw [hlv] at hl
  exact hgo p e s m As.toArray below meth c _ _ ⟨Bd.exec, Bd.bytes, hml, hown, fun w hw => hts w (List.mem_cons_of_mem _ hw), hf⟩ hin hG hB hl (fun u H locs cells slots pc ls hp hbb hS h1 h2 hdg => W.widen h1 h2 (W.vret Bd.exec Bd.bytes Bd.returns (fun t ht _ => ⟨⟨u, rfl, hp, by show BB u t.heap; rw [ht]; exact hbb⟩, hS.F ht⟩) hS.2.2 hdg Bd.notSynchronized))
def K0 : KT := (fun _ => none, 100, 0, [], fun _ => ob0 9)
def M0 : MT := (fun _ => 0, fun _ => 0, fun _ => 0, fun _ => 0, fun _ => 0, fun _ => 0, fun _ => 0, fun _ => 0, 0, fun _ => 0, 100, 0, 0, 0)
theorem sim_0 : Sim 0 K0 M0 := ⟨0, fun _ => 0, Nat.le_refl 0, rfl, rfl, rfl, rfl, fun i a b => absurd a (by omega), fun i j a b => absurd a (by omega), fun h _ => ⟨0, Nat.le_refl 0, rfl, rfl⟩, fun i _ => ⟨rfl, rfl, rfl, rfl, rfl, rfl, rfl⟩⟩
def CI0 (D : va_G) (A : Nat → Prop) (x : Nat) (H : Heap) : Prop := va_P D kcl [(x, .inr (5, [.null, .long 0, .long 0]))] H ∧ va_D A [(x, .inr (5, [.null, .long 0, .long 0]))]
set_option maxHeartbeats 4000000 in
set_option maxRecDepth 100000 in
theorem c_C_init (l : Launch) (D : va_G) (A : Nat → Prop) (cA : ClassId) (x : Nat) : Met l y_C_init (kw y_C_init b_C_init 1 (Option.none : Option Jvm.ClassFile.FieldType)) ({ frames := 1, cells := 1, slots := 9, locals := 12 }) (va_Pc [.ref x] (fun U => (kf D (tysC cA) A U ∧ va_AO "MemberInspection$Held" U) ∧ CI0 D A x U.heap)) (va_Qv (fun (_ : Nat) => True) (fun hs t => CW D A x hs cA K0 t.heap) A) 1 9 A := by
  refine kmetG (BB := fun (hs : Nat) H => CW D A x hs cA K0 H) (lv := [(0, .ref x)]) (by decide +kernel) rfl (Nat.le_of_ble_eq_true rfl) ?_
  intro p e s m args below meth c Q ls X hin hG hC hl hE
  have hx := X.x
  have hb := X.b
  have hS : va_S A s.heap s.heap [] := va_S.rf
  refine lv_aload_n hx hb d_C_init_0 rfl (lv_at hl 0 rfl) ?_
  refine W.objInit (a := x) hx hb X.o (X.t _ wd_15) (X.t _ wd_16) (X.t _ wd_17) rfl (by rw [X.nl]; exact hl.1) rfl d_C_init_1 (Nat.le_of_ble_eq_true rfl) (Nat.le_of_ble_eq_true rfl) ?_
  refine W.eq (g2 := F0 m 4 ls []) rfl ?_
  refine lv_aload_n hx hb d_C_init_4 rfl (lv_at hl 0 rfl) ?_
  refine lv_bipush (v := (9 : Int32)) hx hb d_C_init_5 (by decide) ?_
  refine va_newq (C := "MemberInspection$Held") hx hb X.o (X.t _ wd_18) hG X.K hC.1 hC.2 hS X.al (n := 9) (N' := 9) (by decide) (by decide) (by decide) (Nat.le_of_ble_eq_true rfl) (Nat.le_of_ble_eq_true rfl) d_C_init_7 (fun q cB H1 hK1 hP1 hD1 hS1 => ?_)
  have ecB : cB = cA := by
    obtain ⟨-, kA, comp, -, -, -, f1⟩ := hK1.2 1 _ rfl
    obtain ⟨-, kA', comp', -, -, -, f2⟩ := X.K.2 0 _ rfl
    exact Option.some.inj (f1.symm.trans f2)
  subst ecB
  refine va_putF (D := D) (ci := 5) (v := .ref q) (ty := .array (.object "MemberInspection$Held")) (C := N_C) (T := F_C) (N := 3) hx hb X.t in_C ft_C to_C nm_C X.o X.K hP1 hD1 hS1 0 rfl rfl 0 (by decide) (X.t _ wd_21) (fun _ h => h) rfl hin rfl (by decide +kernel) rfl rfl (Nat.le_of_ble_eq_true rfl) d_C_init_10 (fun H2 locs2 hP2 hD2 hS2 => ?_)
  refine lv_aload_n hx hb d_C_init_13 rfl (lv_at hl 0 rfl) ?_
  refine lv_ldc2 hx hb X.o (X.t _ wd_20) d_C_init_14 ?_
  refine va_put (D := D) (ci := 5) (v := .long 100) (ty := .long) (C := N_C) (T := F_C) (N := 3) hx hb X.t in_C ft_C to_C nm_C X.o X.K hP2 hD2 hS2 0 rfl rfl 1 (by decide) (X.t _ wd_22) (fun _ h => h) rfl (by decide +kernel) rfl rfl (Nat.le_of_ble_eq_true rfl) d_C_init_17 (fun H3 locs3 hP3 hD3 hS3 => ?_)
  refine lv_aload_n hx hb d_C_init_20 rfl (lv_at hl 0 rfl) ?_
  refine lv_lconst (v := (0 : Int64)) hx hb d_C_init_21 (by decide) ?_
  refine va_put (D := D) (ci := 5) (v := .long 0) (ty := .long) (C := N_C) (T := F_C) (N := 3) hx hb X.t in_C ft_C to_C nm_C X.o X.K hP3 hD3 hS3 0 rfl rfl 2 (by decide) (X.t _ wd_23) (fun _ h => h) rfl (by decide +kernel) rfl rfl (Nat.le_of_ble_eq_true rfl) d_C_init_22 (fun H4 locs4 hP4 hD4 hS4 => ?_)
  exact hE q _ _ _ _ _ ls trivial ⟨hP4, hD4⟩ hS4 (Nat.le_of_ble_eq_true rfl) (Nat.le_of_ble_eq_true rfl) d_C_init_25
