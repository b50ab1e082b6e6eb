theorem krecT {p : Program} {s : State} {m : MethodId} {args : Array Value} {c : Code} {H : Heap} {cc : ByteArray} {D : va_G} {A : Nat → Prop} {own : String} {nL : Nat} {x hs : Nat} {cA : ClassId} {K : KT} {b t : Nat} {q : vw_C} (X : KC own cc nL D (tysC cA) A p s m args c) (hC : CW D A x hs cA K H) (h : isT K (some b) t) (hc : kcl[t]? = some q) : ∃ cell : Cell, H[b]? = some cell ∧ cell.vm.isStatics = false ∧ s.vm.findClass q.1 = some cell.cls := by
  obtain ⟨a, e, ha, ht⟩ := h
  cases e
  exact krec X hC ha ht hc
theorem krJ {p : Program} {l : Launch} {e : Env} {R : Room} {s : State} {m : MethodId} {args : Array Value} {below : List Frame} {meth : Method} {c : Code} {H : Heap} {locs : List Loc} {cells slots : Nat} {cc : ByteArray} {pc : Nat} {ls : Array Slot} {rest st0 : List Value} {D : va_G} {A : Nat → Prop} {tys : List (ClassId × FieldType)} {own : String} {nL : Nat} {y : MethodName} {bytes : ByteArray} {maxL mc ms n index : Nat} {ret : Option FieldType} {rm : Room} {Qc : Array Value → State → Outcome → State → Prop} {As : List Value} {B : Heap → Prop} {b : Nat} {C : String} (X : KC own cc nL D tys A p s m args c) (hsz : ls.size = nL) (hS : va_S A s.heap H locs) (hB : B H) (hM : Met l y (kw y bytes maxL ret) rm (kP D tys A (.ref b :: As) B) Qc mc ms A) (hi : KI y bytes maxL ret n) (hl : Cond.methodLink own index y ∈ gd_tbl) (hsm : Cond.sameMethod y.cls y.cls y.name y.desc ∈ gd_tbl) (hse : Cond.selects C y y ∈ gd_tbl) (hin : Cond.instanceMethod y ∈ gd_tbl) (hrec : ∃ cell : Cell, H[b]? = some cell ∧ cell.vm.isStatics = false ∧ s.vm.findClass C = some cell.cls) (hr : KR rm R maxL mc ms) (hn : As.length = n) (h0 : st0 = As.reverse ++ .ref b :: rest) (hw : (rest.map fun v => v.category).sum ≤ 8) (hdg : decode cc pc = .ok (.invokevirtual index, 3)) (hf : cells + mc ≤ R.cells ∧ slots + ms ≤ R.slots) :
    va_Run p l e R s m args below meth c H locs cells slots mc ms (F0 m pc ls st0) rest (Qc (Value.ref b :: As).toArray) A :=
  va_runU (C := C) (owner := y.cls) (x := y) ⟨X.x, X.b, X.nl, X.o, X.t⟩ hM (va_cwU n X.t (gd_cons hl (gd_cons hsm (gd_cons hse (gd_cons hin (gd_cons hi.2.1 (kgood hi)))))) rfl hr.1 hr.2.1 rfl ⟨hi.2.2.1, hi.2.2.2.1, hi.2.2.2.2⟩ hr.2.2) ⟨kblind, hrec, fun U hU hW => ⟨rfl, kpre X hS hB U hU hW⟩⟩ rfl hn hsz h0 (lv_room hw) hdg hf
def w_C_isBelow (a1 : Int32) (a2 : Int32) (post : Int32 → Prop) : Prop := ((a1 < (0 : Int32)) → (z01 (0 : Int32) ∧ post (0 : Int32))) ∧ (¬ (a1 < (0 : Int32)) → (((a2 ≤ a1) → (z01 (0 : Int32) ∧ post (0 : Int32))) ∧ (¬ (a2 ≤ a1) → (z01 (1 : Int32) ∧ post (1 : Int32)))))
set_option maxHeartbeats 8000000 in
set_option maxRecDepth 100000 in
theorem c_C_isBelow (l : Launch) (D : va_G) (tys : List (ClassId × FieldType)) (A : Nat → Prop) (B : Heap → Prop) (a1 : Int32) (a2 : Int32) (post : Int32 → Prop) (hq : w_C_isBelow a1 a2 post) : Met l y_C_isBelow (kw y_C_isBelow b_C_isBelow 2 (Option.some Jvm.ClassFile.FieldType.boolean)) ({ frames := 0, cells := 0, slots := 0, locals := 0 }) (kP D tys A [.int a1, .int a2] B) (va_Qi (fun r (_ : Unit) => post r) (fun _ t => B t.heap) A) 0 0 A := by
  refine kmet_z (BB := (fun (_ : Unit) H => B H)) (lv := [(0, .int a1), (1, .int a2)]) (by decide +kernel) rfl (Nat.le_of_ble_eq_true rfl) ?_
  intro p e s m args below meth c Q ls X hin hC hl hE
  have hx := X.x
  have hb := X.b
  have hS : va_S A s.heap s.heap [] := va_S.rf
  unfold w_C_isBelow at hq
  refine lv_iload_n hx hb d_C_isBelow_0 rfl (lv_at hl 0 rfl) ?_
  refine lv_if_lt (tgt := 13) hx hb d_C_isBelow_1 (by decide) (fun c_2 => ?_) (fun c_2 => ?_)
  · have hq := hq.1 c_2
    refine lv_iconst (v := (0 : Int32)) hx hb d_C_isBelow_13 (by decide) ?_
    exact hE (0 : Int32) () _ _ _ _ _ ls hq hC hS (Nat.le_of_ble_eq_true rfl) (Nat.le_of_ble_eq_true rfl) d_C_isBelow_14
  · have hq := hq.2 c_2
    refine lv_iload_n hx hb d_C_isBelow_4 rfl (lv_at hl 0 rfl) ?_
    refine lv_iload_n hx hb d_C_isBelow_5 rfl (lv_at hl 1 rfl) ?_
    refine lv_icmp_ge (tgt := 13) hx hb d_C_isBelow_6 (by decide) (fun c_1 => ?_) (fun c_1 => ?_)
    · have hq := hq.1 c_1
      refine lv_iconst (v := (0 : Int32)) hx hb d_C_isBelow_13 (by decide) ?_
      exact hE (0 : Int32) () _ _ _ _ _ ls hq hC hS (Nat.le_of_ble_eq_true rfl) (Nat.le_of_ble_eq_true rfl) d_C_isBelow_14
    · have hq := hq.2 c_1
      refine lv_iconst (v := (1 : Int32)) hx hb d_C_isBelow_9 (by decide) ?_
      refine lv_goto (tgt := 14) hx hb d_C_isBelow_10 (by decide) ?_
      exact hE (1 : Int32) () _ _ _ _ _ ls hq hC hS (Nat.le_of_ble_eq_true rfl) (Nat.le_of_ble_eq_true rfl) d_C_isBelow_14
def w_H_init (K : KT) (b : Nat) (post : KT → Prop) : Prop := post K
set_option maxHeartbeats 8000000 in
set_option maxRecDepth 100000 in
theorem c_H_init (l : Launch) (D : va_G) (A : Nat → Prop) (cA : ClassId) (x hs : Nat) (K : KT) (b : Nat) (post : KT → Prop) (hq : w_H_init K b post) : Met l y_H_init (kw y_H_init b_H_init 1 (Option.none : Option Jvm.ClassFile.FieldType)) ({ frames := 1, cells := 0, slots := 0, locals := 12 }) (kP D (tysC cA) A [va_rf (some b)] (CW D A x hs cA K)) (va_Qv post (fun u t => CW D A x hs cA u t.heap) A) 0 0 A := by
  refine kmet_v (BB := (fun u H => CW D A x hs cA u H)) (lv := [(0, va_rf (some b))]) (by decide +kernel) rfl (Nat.le_of_ble_eq_true rfl) ?_
  intro p e s m args below meth c Q ls X hin hC hl hE
  have hx := X.x
  have hb := X.b
  have hS : va_S A s.heap s.heap [] := va_S.rf
  unfold w_H_init at hq
  refine kr_aload_n (r := (some b)) hx hb d_H_init_0 rfl (lv_at hl 0 rfl) ?_
  refine W.objInit (a := b) hx hb X.o (X.t _ wd_50) (X.t _ wd_16) (X.t _ wd_17) rfl (by rw [X.nl]; exact hl.1) rfl d_H_init_1 (Nat.le_of_ble_eq_true rfl) (Nat.le_of_ble_eq_true rfl) ?_
  refine W.eq (g2 := F0 m 4 ls []) rfl ?_
  exact hE K _ _ _ _ _ ls hq hC hS (Nat.le_of_ble_eq_true rfl) (Nat.le_of_ble_eq_true rfl) d_H_init_4
def w_B_init (K : KT) (b : Nat) (a1 : Int32) (a2 : Int64) (a3 : UInt64) (post : KT → Prop) : Prop := w_H_init K b (fun K1_1 => (isT K1_1 (some b) 0) ∧ ((isT (ksR K1_1 (some b) (osI (kob K1_1 (some b)) a1)) (some b) 0) ∧ ((isT (ksR (ksR K1_1 (some b) (osI (kob K1_1 (some b)) a1)) (some b) (osL (kob (ksR K1_1 (some b) (osI (kob K1_1 (some b)) a1)) (some b)) a2)) (some b) 0) ∧ (post (ksR (ksR (ksR K1_1 (some b) (osI (kob K1_1 (some b)) a1)) (some b) (osL (kob (ksR K1_1 (some b) (osI (kob K1_1 (some b)) a1)) (some b)) a2)) (some b) (osD (kob (ksR (ksR K1_1 (some b) (osI (kob K1_1 (some b)) a1)) (some b) (osL (kob (ksR K1_1 (some b) (osI (kob K1_1 (some b)) a1)) (some b)) a2)) (some b)) a3))))))
set_option maxHeartbeats 8000000 in
set_option maxRecDepth 100000 in
theorem c_B_init (l : Launch) (D : va_G) (A : Nat → Prop) (cA : ClassId) (x hs : Nat) (K : KT) (b : Nat) (a1 : Int32) (a2 : Int64) (a3 : UInt64) (post : KT → Prop) (hq : w_B_init K b a1 a2 a3 post) : Met l y_B_init (kw y_B_init b_B_init 6 (Option.none : Option Jvm.ClassFile.FieldType)) ({ frames := 2, cells := 0, slots := 0, locals := 32 }) (kP D (tysC cA) A [va_rf (some b), .int a1, .long a2, .double a3] (CW D A x hs cA K)) (va_Qv post (fun u t => CW D A x hs cA u t.heap) A) 0 0 A := by
  refine kmet_v (BB := (fun u H => CW D A x hs cA u H)) (lv := [(0, va_rf (some b)), (1, .int a1), (2, .long a2), (4, .double a3)]) (by decide +kernel) rfl (Nat.le_of_ble_eq_true rfl) ?_
  intro p e s m args below meth c Q ls X hin hC hl hE
  have hx := X.x
  have hb := X.b
  have hS : va_S A s.heap s.heap [] := va_S.rf
  unfold w_B_init at hq
  refine kr_aload_n (r := (some b)) hx hb d_B_init_0 rfl (lv_at hl 0 rfl) ?_
  refine kcv (BB := fun u H => CW D A x hs cA u H) (krIN (b := b) X hl.1 hS hC (c_H_init l D A cA x hs K b _ hq) ki_H_init (X.N.2.1 ("MemberInspection$Box", 3, y_H_init, "MemberInspection") (by decide +kernel)) wd_48 rfl ⟨rfl, rfl, Nat.le_of_ble_eq_true rfl, Nat.le_of_ble_eq_true rfl⟩ rfl rfl (Nat.le_of_ble_eq_true rfl) d_B_init_1 ⟨Nat.le_of_ble_eq_true rfl, Nat.le_of_ble_eq_true rfl⟩) hS (fun K1_1 H locs hq hC hS => ?_)
  refine kr_aload_n (r := (some b)) hx hb d_B_init_4 rfl (lv_at hl 0 rfl) ?_
  refine lv_iload_n hx hb d_B_init_5 rfl (lv_at hl 1 rfl) ?_
  have hs_ := hq.1
  have hq := hq.2
  refine kp_kind_B9 (r := (some b)) (v := a1) X hC hS hin hs_ d_B_init_6 (fun H locs hC hS => ?_)
  refine kr_aload_n (r := (some b)) hx hb d_B_init_9 rfl (lv_at hl 0 rfl) ?_
  refine lv_lload_n hx hb d_B_init_10 rfl (lv_at hl 2 rfl) ?_
  have hs_ := hq.1
  have hq := hq.2
  refine kp_whole_B15 (r := (some b)) (v := a2) X hC hS hin hs_ d_B_init_11 (fun H locs hC hS => ?_)
  refine kr_aload_n (r := (some b)) hx hb d_B_init_14 rfl (lv_at hl 0 rfl) ?_
  refine lv_dload hx hb d_B_init_15 (lv_at hl 3 rfl) ?_
  have hs_ := hq.1
  have hq := hq.2
  refine kp_real_B19 (r := (some b)) (v := a3) X hC hS hin hs_ d_B_init_17 (fun H locs hC hS => ?_)
  exact hE (ksR (ksR (ksR K1_1 (some b) (osI (kob K1_1 (some b)) a1)) (some b) (osL (kob (ksR K1_1 (some b) (osI (kob K1_1 (some b)) a1)) (some b)) a2)) (some b) (osD (kob (ksR (ksR K1_1 (some b) (osI (kob K1_1 (some b)) a1)) (some b) (osL (kob (ksR K1_1 (some b) (osI (kob K1_1 (some b)) a1)) (some b)) a2)) (some b)) a3)) _ _ _ _ _ ls hq hC hS (Nat.le_of_ble_eq_true rfl) (Nat.le_of_ble_eq_true rfl) d_B_init_20
def w_C_boxOfWhole (K : KT) (a1 : Int32) (a2 : Int64) (post : Option Nat → KT → Prop) : Prop := ∀ q0_1 : Nat, q0_1 ∉ kL K → (w_B_init (kNew K q0_1 (ob0 0)) q0_1 a1 a2 (FP.l2d a2) (fun K8_2 => post (some q0_1) K8_2))
set_option maxHeartbeats 8000000 in
set_option maxRecDepth 100000 in
theorem c_C_boxOfWhole (l : Launch) (D : va_G) (A : Nat → Prop) (cA : ClassId) (x hs : Nat) (K : KT) (a1 : Int32) (a2 : Int64) (post : Option Nat → KT → Prop) (hq : w_C_boxOfWhole K a1 a2 post) : Met l y_C_boxOfWhole (kw y_C_boxOfWhole b_C_boxOfWhole 3 (Option.some (Jvm.ClassFile.FieldType.object "MemberInspection$Box"))) ({ frames := 3, cells := 1, slots := 3, locals := 57 }) (kP D (tysC cA) A [.int a1, .long a2] (CW D A x hs cA K)) (va_Qq post (fun u t => CW D A x hs cA u t.heap) A) 1 3 A := by
  refine kmet_q (BB := (fun u H => CW D A x hs cA u H)) (lv := [(0, .int a1), (1, .long a2)]) (by decide +kernel) rfl (Nat.le_of_ble_eq_true rfl) ?_
  intro p e s m args below meth c Q ls X hin hC hl hE
  have hx := X.x
  have hb := X.b
  have hS : va_S A s.heap s.heap [] := va_S.rf
  unfold w_C_boxOfWhole at hq
  refine ki_new_B X hC hS (Nat.le_of_ble_eq_true rfl) (Nat.le_of_ble_eq_true rfl) d_C_boxOfWhole_0 (fun q0_1 H h_q0_1 hC hS => ?_)
  have hq := hq q0_1 h_q0_1
  refine lv_dup hx hb d_C_boxOfWhole_3 rfl ?_
  refine lv_iload_n hx hb d_C_boxOfWhole_4 rfl (lv_at hl 0 rfl) ?_
  refine lv_lload_n hx hb d_C_boxOfWhole_5 rfl (lv_at hl 1 rfl) ?_
  refine lv_lload_n hx hb d_C_boxOfWhole_6 rfl (lv_at hl 1 rfl) ?_
  refine lv_l2d hx hb d_C_boxOfWhole_7 ?_
  refine kcv (BB := fun u H => CW D A x hs cA u H) (krI (b := q0_1) X hl.1 hS hC (c_B_init l D A cA x hs (kNew K q0_1 (ob0 0)) q0_1 a1 a2 (FP.l2d a2) _ hq) ki_B_init wd_64 wd_65 rfl ⟨rfl, rfl, Nat.le_of_ble_eq_true rfl, Nat.le_of_ble_eq_true rfl⟩ rfl rfl (Nat.le_of_ble_eq_true rfl) d_C_boxOfWhole_8 ⟨Nat.le_of_ble_eq_true rfl, Nat.le_of_ble_eq_true rfl⟩) hS (fun K8_2 H locs hq hC hS => ?_)
  exact hE (some q0_1) K8_2 _ _ _ _ _ ls hq hC hS (Nat.le_of_ble_eq_true rfl) (Nat.le_of_ble_eq_true rfl) d_C_boxOfWhole_11
def w_C_boxOfReal (K : KT) (a1 : Int32) (a2 : UInt64) (post : Option Nat → KT → Prop) : Prop := ∀ q0_1 : Nat, q0_1 ∉ kL K → (w_B_init (kNew K q0_1 (ob0 0)) q0_1 a1 (0 : Int64) a2 (fun K7_2 => post (some q0_1) K7_2))
set_option maxHeartbeats 8000000 in
set_option maxRecDepth 100000 in
theorem c_C_boxOfReal (l : Launch) (D : va_G) (A : Nat → Prop) (cA : ClassId) (x hs : Nat) (K : KT) (a1 : Int32) (a2 : UInt64) (post : Option Nat → KT → Prop) (hq : w_C_boxOfReal K a1 a2 post) : Met l y_C_boxOfReal (kw y_C_boxOfReal b_C_boxOfReal 3 (Option.some (Jvm.ClassFile.FieldType.object "MemberInspection$Box"))) ({ frames := 3, cells := 1, slots := 3, locals := 57 }) (kP D (tysC cA) A [.int a1, .double a2] (CW D A x hs cA K)) (va_Qq post (fun u t => CW D A x hs cA u t.heap) A) 1 3 A := by
  refine kmet_q (BB := (fun u H => CW D A x hs cA u H)) (lv := [(0, .int a1), (1, .double a2)]) (by decide +kernel) rfl (Nat.le_of_ble_eq_true rfl) ?_
  intro p e s m args below meth c Q ls X hin hC hl hE
  have hx := X.x
  have hb := X.b
  have hS : va_S A s.heap s.heap [] := va_S.rf
  unfold w_C_boxOfReal at hq
  refine ki_new_B X hC hS (Nat.le_of_ble_eq_true rfl) (Nat.le_of_ble_eq_true rfl) d_C_boxOfReal_0 (fun q0_1 H h_q0_1 hC hS => ?_)
  have hq := hq q0_1 h_q0_1
  refine lv_dup hx hb d_C_boxOfReal_3 rfl ?_
  refine lv_iload_n hx hb d_C_boxOfReal_4 rfl (lv_at hl 0 rfl) ?_
  refine lv_lconst (v := (0 : Int64)) hx hb d_C_boxOfReal_5 (by decide) ?_
  refine lv_dload_n hx hb d_C_boxOfReal_6 rfl (lv_at hl 1 rfl) ?_
  refine kcv (BB := fun u H => CW D A x hs cA u H) (krI (b := q0_1) X hl.1 hS hC (c_B_init l D A cA x hs (kNew K q0_1 (ob0 0)) q0_1 a1 (0 : Int64) a2 _ hq) ki_B_init wd_64 wd_65 rfl ⟨rfl, rfl, Nat.le_of_ble_eq_true rfl, Nat.le_of_ble_eq_true rfl⟩ rfl rfl (Nat.le_of_ble_eq_true rfl) d_C_boxOfReal_7 ⟨Nat.le_of_ble_eq_true rfl, Nat.le_of_ble_eq_true rfl⟩) hS (fun K7_2 H locs hq hC hS => ?_)
  exact hE (some q0_1) K7_2 _ _ _ _ _ ls hq hC hS (Nat.le_of_ble_eq_true rfl) (Nat.le_of_ble_eq_true rfl) d_C_boxOfReal_10
def w_C_boxMade (K : KT) (a1 : Int32) (a2 : Int64) (post : Option Nat → KT → Prop) : Prop := ((a1 = (0 : Int32)) → (w_C_boxOfWhole K a1 (a2 &&& (1 : Int64)) (fun r52_2 K52_2 => post r52_2 K52_2))) ∧ (¬ (a1 = (0 : Int32)) → (((a1 = (1 : Int32)) → (w_C_boxOfWhole K a1 (a2).toInt32.toInt8.toInt32.toInt64 (fun r61_4 K61_4 => post r61_4 K61_4))) ∧ (¬ (a1 = (1 : Int32)) → (((a1 = (2 : Int32)) → (w_C_boxOfWhole K a1 (a2 &&& (65535 : Int64)) (fun r71_6 K71_6 => post r71_6 K71_6))) ∧ (¬ (a1 = (2 : Int32)) → (((a1 = (3 : Int32)) → (w_C_boxOfWhole K a1 (a2).toInt32.toInt16.toInt32.toInt64 (fun r80_8 K80_8 => post r80_8 K80_8))) ∧ (¬ (a1 = (3 : Int32)) → (((a1 = (4 : Int32)) → (w_C_boxOfWhole K a1 (a2).toInt32.toInt64 (fun r88_10 K88_10 => post r88_10 K88_10))) ∧ (¬ (a1 = (4 : Int32)) → (((a1 = (5 : Int32)) → (w_C_boxOfWhole K (5 : Int32) a2 (fun r116_12 K116_12 => post r116_12 K116_12))) ∧ (¬ (a1 = (5 : Int32)) → (((a1 = (6 : Int32)) → ((vf_n32 (FP.fmul (FP.l2f a2) (1040187392 : UInt32))) ∧ ((vf_n64 (FP.f2d (FP.fmul (FP.l2f a2) (1040187392 : UInt32)))) ∧ (w_C_boxOfReal K a1 (FP.f2d (FP.fmul (FP.l2f a2) (1040187392 : UInt32))) (fun r99_14 K99_14 => post r99_14 K99_14))))) ∧ (¬ (a1 = (6 : Int32)) → (((a1 = (7 : Int32)) → ((vf_n64 (FP.dmul (FP.l2d a2) (4593671619917905920 : UInt64))) ∧ (w_C_boxOfReal K a1 (FP.dmul (FP.l2d a2) (4593671619917905920 : UInt64)) (fun r110_16 K110_16 => post r110_16 K110_16)))) ∧ (¬ (a1 = (7 : Int32)) → (w_C_boxOfWhole K (5 : Int32) a2 (fun r116_17 K116_17 => post r116_17 K116_17)))))))))))))))))
set_option maxHeartbeats 8000000 in
set_option maxRecDepth 100000 in
theorem c_C_boxMade (l : Launch) (D : va_G) (A : Nat → Prop) (cA : ClassId) (x hs : Nat) (K : KT) (a1 : Int32) (a2 : Int64) (post : Option Nat → KT → Prop) (hq : w_C_boxMade K a1 a2 post) : Met l y_C_boxMade (kw y_C_boxMade b_C_boxMade 3 (Option.some (Jvm.ClassFile.FieldType.object "MemberInspection$Box"))) ({ frames := 4, cells := 1, slots := 3, locals := 79 }) (kP D (tysC cA) A [.int a1, .long a2] (CW D A x hs cA K)) (va_Qq post (fun u t => CW D A x hs cA u t.heap) A) 1 3 A := by
  refine kmet_q (BB := (fun u H => CW D A x hs cA u H)) (lv := [(0, .int a1), (1, .long a2)]) (by decide +kernel) rfl (Nat.le_of_ble_eq_true rfl) ?_
  intro p e s m args below meth c Q ls X hin hC hl hE
  have hx := X.x
  have hb := X.b
  have hS : va_S A s.heap s.heap [] := va_S.rf
  unfold w_C_boxMade at hq
  refine lv_iload_n hx hb d_C_boxMade_0 rfl (lv_at hl 0 rfl) ?_
  by_cases g_1 : a1 = (0 : Int32)
  · have hq := hq.1 g_1
    refine lv_tableIn (off := 47) (tgt := 48) hx hb d_C_boxMade_1 (by rw [g_1]; decide) (by rw [g_1]; decide) (by rw [g_1]; rfl) (by decide) ?_
    refine lv_iload_n hx hb d_C_boxMade_48 rfl (lv_at hl 0 rfl) ?_
    refine lv_lload_n hx hb d_C_boxMade_49 rfl (lv_at hl 1 rfl) ?_
    refine lv_lconst (v := (1 : Int64)) hx hb d_C_boxMade_50 (by decide) ?_
    refine lv_land hx hb d_C_boxMade_51 ?_
    refine kcq (BB := fun u H => CW D A x hs cA u H) (krS X hl.1 hS hC (c_C_boxOfWhole l D A cA x hs K a1 (a2 &&& (1 : Int64)) _ hq) ki_C_boxOfWhole wd_59 wd_60 ⟨rfl, rfl, Nat.le_of_ble_eq_true rfl, Nat.le_of_ble_eq_true rfl⟩ rfl rfl (Nat.le_of_ble_eq_true rfl) d_C_boxMade_52 ⟨Nat.le_of_ble_eq_true rfl, Nat.le_of_ble_eq_true rfl⟩) hS (fun r52_2 K52_2 H locs hq hC hS => ?_)
    exact hE r52_2 K52_2 _ _ _ _ _ ls hq hC hS (Nat.le_of_ble_eq_true rfl) (Nat.le_of_ble_eq_true rfl) d_C_boxMade_55
  · have hq := hq.2 g_1
    by_cases g_3 : a1 = (1 : Int32)
    · have hq := hq.1 g_3
      refine lv_tableIn (off := 55) (tgt := 56) hx hb d_C_boxMade_1 (by rw [g_3]; decide) (by rw [g_3]; decide) (by rw [g_3]; rfl) (by decide) ?_
      refine lv_iload_n hx hb d_C_boxMade_56 rfl (lv_at hl 0 rfl) ?_
      refine lv_lload_n hx hb d_C_boxMade_57 rfl (lv_at hl 1 rfl) ?_
      refine lv_l2i hx hb d_C_boxMade_58 rfl ?_
      refine lv_i2b hx hb d_C_boxMade_59 rfl ?_
      refine lv_i2l hx hb d_C_boxMade_60 rfl ?_
      refine kcq (BB := fun u H => CW D A x hs cA u H) (krS X hl.1 hS hC (c_C_boxOfWhole l D A cA x hs K a1 (a2).toInt32.toInt8.toInt32.toInt64 _ hq) ki_C_boxOfWhole wd_59 wd_60 ⟨rfl, rfl, Nat.le_of_ble_eq_true rfl, Nat.le_of_ble_eq_true rfl⟩ rfl rfl (Nat.le_of_ble_eq_true rfl) d_C_boxMade_61 ⟨Nat.le_of_ble_eq_true rfl, Nat.le_of_ble_eq_true rfl⟩) hS (fun r61_4 K61_4 H locs hq hC hS => ?_)
      exact hE r61_4 K61_4 _ _ _ _ _ ls hq hC hS (Nat.le_of_ble_eq_true rfl) (Nat.le_of_ble_eq_true rfl) d_C_boxMade_64
    · have hq := hq.2 g_3
      by_cases g_5 : a1 = (2 : Int32)
      · have hq := hq.1 g_5
        refine lv_tableIn (off := 64) (tgt := 65) hx hb d_C_boxMade_1 (by rw [g_5]; decide) (by rw [g_5]; decide) (by rw [g_5]; rfl) (by decide) ?_
        refine lv_iload_n hx hb d_C_boxMade_65 rfl (lv_at hl 0 rfl) ?_
        refine lv_lload_n hx hb d_C_boxMade_66 rfl (lv_at hl 1 rfl) ?_
        refine lv_ldc2 hx hb X.o (X.t _ wd_81) d_C_boxMade_67 ?_
        refine lv_land hx hb d_C_boxMade_70 ?_
        refine kcq (BB := fun u H => CW D A x hs cA u H) (krS X hl.1 hS hC (c_C_boxOfWhole l D A cA x hs K a1 (a2 &&& (65535 : Int64)) _ hq) ki_C_boxOfWhole wd_59 wd_60 ⟨rfl, rfl, Nat.le_of_ble_eq_true rfl, Nat.le_of_ble_eq_true rfl⟩ rfl rfl (Nat.le_of_ble_eq_true rfl) d_C_boxMade_71 ⟨Nat.le_of_ble_eq_true rfl, Nat.le_of_ble_eq_true rfl⟩) hS (fun r71_6 K71_6 H locs hq hC hS => ?_)
        exact hE r71_6 K71_6 _ _ _ _ _ ls hq hC hS (Nat.le_of_ble_eq_true rfl) (Nat.le_of_ble_eq_true rfl) d_C_boxMade_74
      · have hq := hq.2 g_5
        by_cases g_7 : a1 = (3 : Int32)
        · have hq := hq.1 g_7
          refine lv_tableIn (off := 74) (tgt := 75) hx hb d_C_boxMade_1 (by rw [g_7]; decide) (by rw [g_7]; decide) (by rw [g_7]; rfl) (by decide) ?_
          refine lv_iload_n hx hb d_C_boxMade_75 rfl (lv_at hl 0 rfl) ?_
          refine lv_lload_n hx hb d_C_boxMade_76 rfl (lv_at hl 1 rfl) ?_
          refine lv_l2i hx hb d_C_boxMade_77 rfl ?_
          refine lv_i2s hx hb d_C_boxMade_78 rfl ?_
          refine lv_i2l hx hb d_C_boxMade_79 rfl ?_
          refine kcq (BB := fun u H => CW D A x hs cA u H) (krS X hl.1 hS hC (c_C_boxOfWhole l D A cA x hs K a1 (a2).toInt32.toInt16.toInt32.toInt64 _ hq) ki_C_boxOfWhole wd_59 wd_60 ⟨rfl, rfl, Nat.le_of_ble_eq_true rfl, Nat.le_of_ble_eq_true rfl⟩ rfl rfl (Nat.le_of_ble_eq_true rfl) d_C_boxMade_80 ⟨Nat.le_of_ble_eq_true rfl, Nat.le_of_ble_eq_true rfl⟩) hS (fun r80_8 K80_8 H locs hq hC hS => ?_)
          exact hE r80_8 K80_8 _ _ _ _ _ ls hq hC hS (Nat.le_of_ble_eq_true rfl) (Nat.le_of_ble_eq_true rfl) d_C_boxMade_83
        · have hq := hq.2 g_7
          by_cases g_9 : a1 = (4 : Int32)
          · have hq := hq.1 g_9
            refine lv_tableIn (off := 83) (tgt := 84) hx hb d_C_boxMade_1 (by rw [g_9]; decide) (by rw [g_9]; decide) (by rw [g_9]; rfl) (by decide) ?_
            refine lv_iload_n hx hb d_C_boxMade_84 rfl (lv_at hl 0 rfl) ?_
            refine lv_lload_n hx hb d_C_boxMade_85 rfl (lv_at hl 1 rfl) ?_
            refine lv_l2i hx hb d_C_boxMade_86 rfl ?_
            refine lv_i2l hx hb d_C_boxMade_87 rfl ?_
            refine kcq (BB := fun u H => CW D A x hs cA u H) (krS X hl.1 hS hC (c_C_boxOfWhole l D A cA x hs K a1 (a2).toInt32.toInt64 _ hq) ki_C_boxOfWhole wd_59 wd_60 ⟨rfl, rfl, Nat.le_of_ble_eq_true rfl, Nat.le_of_ble_eq_true rfl⟩ rfl rfl (Nat.le_of_ble_eq_true rfl) d_C_boxMade_88 ⟨Nat.le_of_ble_eq_true rfl, Nat.le_of_ble_eq_true rfl⟩) hS (fun r88_10 K88_10 H locs hq hC hS => ?_)
            exact hE r88_10 K88_10 _ _ _ _ _ ls hq hC hS (Nat.le_of_ble_eq_true rfl) (Nat.le_of_ble_eq_true rfl) d_C_boxMade_91
          · have hq := hq.2 g_9
            by_cases g_11 : a1 = (5 : Int32)
            · have hq := hq.1 g_11
              refine lv_tableIn (off := 113) (tgt := 114) hx hb d_C_boxMade_1 (by rw [g_11]; decide) (by rw [g_11]; decide) (by rw [g_11]; rfl) (by decide) ?_
              refine lv_iconst (v := (5 : Int32)) hx hb d_C_boxMade_114 (by decide) ?_
              refine lv_lload_n hx hb d_C_boxMade_115 rfl (lv_at hl 1 rfl) ?_
              refine kcq (BB := fun u H => CW D A x hs cA u H) (krS X hl.1 hS hC (c_C_boxOfWhole l D A cA x hs K (5 : Int32) a2 _ hq) ki_C_boxOfWhole wd_59 wd_60 ⟨rfl, rfl, Nat.le_of_ble_eq_true rfl, Nat.le_of_ble_eq_true rfl⟩ rfl rfl (Nat.le_of_ble_eq_true rfl) d_C_boxMade_116 ⟨Nat.le_of_ble_eq_true rfl, Nat.le_of_ble_eq_true rfl⟩) hS (fun r116_12 K116_12 H locs hq hC hS => ?_)
              exact hE r116_12 K116_12 _ _ _ _ _ ls hq hC hS (Nat.le_of_ble_eq_true rfl) (Nat.le_of_ble_eq_true rfl) d_C_boxMade_119
            · have hq := hq.2 g_11
              by_cases g_13 : a1 = (6 : Int32)
              · have hq := hq.1 g_13
                refine lv_tableIn (off := 91) (tgt := 92) hx hb d_C_boxMade_1 (by rw [g_13]; decide) (by rw [g_13]; decide) (by rw [g_13]; rfl) (by decide) ?_
                refine lv_iload_n hx hb d_C_boxMade_92 rfl (lv_at hl 0 rfl) ?_
                refine lv_lload_n hx hb d_C_boxMade_93 rfl (lv_at hl 1 rfl) ?_
                refine lv_l2f hx hb d_C_boxMade_94 ?_
                refine lv_ldcf hx hb X.o (X.t _ wd_82) d_C_boxMade_95 ?_
                have hs_ := hq.1
                have hq := hq.2
                refine lv_fmul hx hb d_C_boxMade_97 hs_ ?_
                have hs_ := hq.1
                have hq := hq.2
                refine lv_f2d hx hb d_C_boxMade_98 hs_ ?_
                refine kcq (BB := fun u H => CW D A x hs cA u H) (krS X hl.1 hS hC (c_C_boxOfReal l D A cA x hs K a1 (FP.f2d (FP.fmul (FP.l2f a2) (1040187392 : UInt32))) _ hq) ki_C_boxOfReal wd_83 wd_84 ⟨rfl, rfl, Nat.le_of_ble_eq_true rfl, Nat.le_of_ble_eq_true rfl⟩ rfl rfl (Nat.le_of_ble_eq_true rfl) d_C_boxMade_99 ⟨Nat.le_of_ble_eq_true rfl, Nat.le_of_ble_eq_true rfl⟩) hS (fun r99_14 K99_14 H locs hq hC hS => ?_)
                exact hE r99_14 K99_14 _ _ _ _ _ ls hq hC hS (Nat.le_of_ble_eq_true rfl) (Nat.le_of_ble_eq_true rfl) d_C_boxMade_102
              · have hq := hq.2 g_13
                by_cases g_15 : a1 = (7 : Int32)
                · have hq := hq.1 g_15
                  refine lv_tableIn (off := 102) (tgt := 103) hx hb d_C_boxMade_1 (by rw [g_15]; decide) (by rw [g_15]; decide) (by rw [g_15]; rfl) (by decide) ?_
                  refine lv_iload_n hx hb d_C_boxMade_103 rfl (lv_at hl 0 rfl) ?_
                  refine lv_lload_n hx hb d_C_boxMade_104 rfl (lv_at hl 1 rfl) ?_
                  refine lv_l2d hx hb d_C_boxMade_105 ?_
                  refine lv_ldc2d hx hb X.o (X.t _ wd_86) d_C_boxMade_106 ?_
                  have hs_ := hq.1
                  have hq := hq.2
                  refine lv_dmul hx hb d_C_boxMade_109 hs_ ?_
                  refine kcq (BB := fun u H => CW D A x hs cA u H) (krS X hl.1 hS hC (c_C_boxOfReal l D A cA x hs K a1 (FP.dmul (FP.l2d a2) (4593671619917905920 : UInt64)) _ hq) ki_C_boxOfReal wd_83 wd_84 ⟨rfl, rfl, Nat.le_of_ble_eq_true rfl, Nat.le_of_ble_eq_true rfl⟩ rfl rfl (Nat.le_of_ble_eq_true rfl) d_C_boxMade_110 ⟨Nat.le_of_ble_eq_true rfl, Nat.le_of_ble_eq_true rfl⟩) hS (fun r110_16 K110_16 H locs hq hC hS => ?_)
                  exact hE r110_16 K110_16 _ _ _ _ _ ls hq hC hS (Nat.le_of_ble_eq_true rfl) (Nat.le_of_ble_eq_true rfl) d_C_boxMade_113
                · have hq := hq.2 g_15
                  refine lv_tableOut (tgt := 114) hx hb d_C_boxMade_1 (by have z0 := lv_neT (a := 0) g_1 rfl; have z1 := lv_neT (a := 1) g_3 rfl; have z2 := lv_neT (a := 2) g_5 rfl; have z3 := lv_neT (a := 3) g_7 rfl; have z4 := lv_neT (a := 4) g_9 rfl; have z5 := lv_neT (a := 5) g_11 rfl; have z6 := lv_neT (a := 6) g_13 rfl; have z7 := lv_neT (a := 7) g_15 rfl; omega) (by decide) ?_
                  refine lv_iconst (v := (5 : Int32)) hx hb d_C_boxMade_114 (by decide) ?_
                  refine lv_lload_n hx hb d_C_boxMade_115 rfl (lv_at hl 1 rfl) ?_
                  refine kcq (BB := fun u H => CW D A x hs cA u H) (krS X hl.1 hS hC (c_C_boxOfWhole l D A cA x hs K (5 : Int32) a2 _ hq) ki_C_boxOfWhole wd_59 wd_60 ⟨rfl, rfl, Nat.le_of_ble_eq_true rfl, Nat.le_of_ble_eq_true rfl⟩ rfl rfl (Nat.le_of_ble_eq_true rfl) d_C_boxMade_116 ⟨Nat.le_of_ble_eq_true rfl, Nat.le_of_ble_eq_true rfl⟩) hS (fun r116_17 K116_17 H locs hq hC hS => ?_)
                  exact hE r116_17 K116_17 _ _ _ _ _ ls hq hC hS (Nat.le_of_ble_eq_true rfl) (Nat.le_of_ble_eq_true rfl) d_C_boxMade_119
def w_J_floorMod (a1 : Int64) (a2 : Int64) (post : Int64 → Prop) : Prop := (¬ a2 = (0 : Int64)) ∧ ((((0 : Int32) ≤ (lg_cmp (a1 ^^^ a2) (0 : Int64))) → (post (a1 - a1 / a2 * a2))) ∧ (¬ ((0 : Int32) ≤ (lg_cmp (a1 ^^^ a2) (0 : Int64))) → ((((lg_cmp (a1 - a1 / a2 * a2) (0 : Int64)) = (0 : Int32)) → (post (a1 - a1 / a2 * a2))) ∧ (¬ ((lg_cmp (a1 - a1 / a2 * a2) (0 : Int64)) = (0 : Int32)) → (post ((a1 - a1 / a2 * a2) + a2))))))
set_option maxHeartbeats 8000000 in
set_option maxRecDepth 100000 in
theorem c_J_floorMod (l : Launch) (D : va_G) (tys : List (ClassId × FieldType)) (A : Nat → Prop) (B : Heap → Prop) (a1 : Int64) (a2 : Int64) (post : Int64 → Prop) (hq : w_J_floorMod a1 a2 post) : Met l y_J_floorMod (kw y_J_floorMod b_J_floorMod 6 (Option.some Jvm.ClassFile.FieldType.long)) ({ frames := 0, cells := 0, slots := 0, locals := 0 }) (kP D tys A [.long a1, .long a2] B) (va_Ql (fun r (_ : Unit) => post r) (fun _ t => B t.heap) A) 0 0 A := by
  refine kmet_l (BB := (fun (_ : Unit) H => B H)) (lv := [(0, .long a1), (2, .long a2)]) (by decide +kernel) rfl (Nat.le_of_ble_eq_true rfl) ?_
  intro p e s m args below meth c Q ls X hin hC hl hE
  have hx := X.x
  have hb := X.b
  have hS : va_S A s.heap s.heap [] := va_S.rf
  unfold w_J_floorMod at hq
  refine lv_lload_n hx hb d_J_floorMod_0 rfl (lv_at hl 0 rfl) ?_
  refine lv_lload_n hx hb d_J_floorMod_1 rfl (lv_at hl 1 rfl) ?_
  have hs_ := hq.1
  have hq := hq.2
  refine lv_lrem hx hb d_J_floorMod_2 hs_ ?_
  refine lv_lstore (lv' := [(4, .long (a1 - a1 / a2 * a2)), (0, .long a1), (2, .long a2)]) hx hb d_J_floorMod_3 hl (by decide) rfl (fun ls hl => ?_)
  refine lv_lload_n hx hb d_J_floorMod_5 rfl (lv_at hl 1 rfl) ?_
  refine lv_lload_n hx hb d_J_floorMod_6 rfl (lv_at hl 2 rfl) ?_
  refine lv_lxor hx hb d_J_floorMod_7 ?_
  refine lv_lconst (v := (0 : Int64)) hx hb d_J_floorMod_8 (by decide) ?_
  refine W.lcmp hx hb d_J_floorMod_9 ?_
  refine lv_if_ge (tgt := 25) hx hb d_J_floorMod_10 (by decide) (fun c_2 => ?_) (fun c_2 => ?_)
  · have hq := hq.1 c_2
    refine lv_lload hx hb d_J_floorMod_25 (lv_at hl 0 rfl) ?_
    exact hE (a1 - a1 / a2 * a2) () _ _ _ _ _ ls hq hC hS (Nat.le_of_ble_eq_true rfl) (Nat.le_of_ble_eq_true rfl) d_J_floorMod_27
  · have hq := hq.2 c_2
    refine lv_lload hx hb d_J_floorMod_13 (lv_at hl 0 rfl) ?_
    refine lv_lconst (v := (0 : Int64)) hx hb d_J_floorMod_15 (by decide) ?_
    refine W.lcmp hx hb d_J_floorMod_16 ?_
    refine lv_if_eq (tgt := 25) hx hb d_J_floorMod_17 (by decide) (fun c_1 => ?_) (fun c_1 => ?_)
    · have hq := hq.1 c_1
      refine lv_lload hx hb d_J_floorMod_25 (lv_at hl 0 rfl) ?_
      exact hE (a1 - a1 / a2 * a2) () _ _ _ _ _ ls hq hC hS (Nat.le_of_ble_eq_true rfl) (Nat.le_of_ble_eq_true rfl) d_J_floorMod_27
    · have hq := hq.2 c_1
      refine lv_lload hx hb d_J_floorMod_20 (lv_at hl 0 rfl) ?_
      refine lv_lload_n hx hb d_J_floorMod_22 rfl (lv_at hl 2 rfl) ?_
      refine lv_ladd hx hb d_J_floorMod_23 ?_
      exact hE ((a1 - a1 / a2 * a2) + a2) () _ _ _ _ _ ls hq hC hS (Nat.le_of_ble_eq_true rfl) (Nat.le_of_ble_eq_true rfl) d_J_floorMod_24
def w_T_init (K : KT) (b : Nat) (a1 : Int32) (post : KT → Prop) : Prop := w_H_init K b (fun K1_1 => (isT K1_1 (some b) 4) ∧ (post (ksR K1_1 (some b) (osI (kob K1_1 (some b)) a1))))
set_option maxHeartbeats 8000000 in
set_option maxRecDepth 100000 in
theorem c_T_init (l : Launch) (D : va_G) (A : Nat → Prop) (cA : ClassId) (x hs : Nat) (K : KT) (b : Nat) (a1 : Int32) (post : KT → Prop) (hq : w_T_init K b a1 post) : Met l y_T_init (kw y_T_init b_T_init 2 (Option.none : Option Jvm.ClassFile.FieldType)) ({ frames := 2, cells := 0, slots := 0, locals := 32 }) (kP D (tysC cA) A [va_rf (some b), .int a1] (CW D A x hs cA K)) (va_Qv post (fun u t => CW D A x hs cA u t.heap) A) 0 0 A := by
  refine kmet_v (BB := (fun u H => CW D A x hs cA u H)) (lv := [(0, va_rf (some b)), (1, .int a1)]) (by decide +kernel) rfl (Nat.le_of_ble_eq_true rfl) ?_
  intro p e s m args below meth c Q ls X hin hC hl hE
  have hx := X.x
  have hb := X.b
  have hS : va_S A s.heap s.heap [] := va_S.rf
  unfold w_T_init at hq
  refine kr_aload_n (r := (some b)) hx hb d_T_init_0 rfl (lv_at hl 0 rfl) ?_
  refine kcv (BB := fun u H => CW D A x hs cA u H) (krIN (b := b) X hl.1 hS hC (c_H_init l D A cA x hs K b _ hq) ki_H_init (X.N.2.1 ("MemberInspection$Text", 3, y_H_init, "MemberInspection") (by decide +kernel)) wd_48 rfl ⟨rfl, rfl, Nat.le_of_ble_eq_true rfl, Nat.le_of_ble_eq_true rfl⟩ rfl rfl (Nat.le_of_ble_eq_true rfl) d_T_init_1 ⟨Nat.le_of_ble_eq_true rfl, Nat.le_of_ble_eq_true rfl⟩) hS (fun K1_1 H locs hq hC hS => ?_)
  refine kr_aload_n (r := (some b)) hx hb d_T_init_4 rfl (lv_at hl 0 rfl) ?_
  refine lv_iload_n hx hb d_T_init_5 rfl (lv_at hl 1 rfl) ?_
  have hs_ := hq.1
  have hq := hq.2
  refine kp_number_T9 (r := (some b)) (v := a1) X hC hS hin hs_ d_T_init_6 (fun H locs hC hS => ?_)
  exact hE (ksR K1_1 (some b) (osI (kob K1_1 (some b)) a1)) _ _ _ _ _ ls hq hC hS (Nat.le_of_ble_eq_true rfl) (Nat.le_of_ble_eq_true rfl) d_T_init_9
def w_C_put (K : KT) (a1 : Int32) (a2 : Int32) (a3 : Int64) (post : Int32 → KT → Prop) : Prop := w_C_isBelow a1 (8 : Int32) (fun r3_1 => ((r3_1 = (0 : Int32)) → (post (-1 : Int32) K)) ∧ (¬ (r3_1 = (0 : Int32)) → (w_C_isBelow a2 (9 : Int32) (fun r12_2 => ((r12_2 = (0 : Int32)) → (post (-1 : Int32) K)) ∧ (¬ (r12_2 = (0 : Int32)) → (((a2 = (8 : Int32)) → (∀ q36_4 : Nat, q36_4 ∉ kL (ksLa K (0 : Int64)) → (w_J_floorMod a3 (10 : Int64) (fun r44_5 => w_T_init (kNew (ksLa K (0 : Int64)) q36_4 (ob0 4)) q36_4 (r44_5).toInt32 (fun K48_6 => (okR K48_6 (some q36_4)) ∧ ((vp_in a1 9) ∧ (post (0 : Int32) (ksH K48_6 (a1).toNatClampNeg (some q36_4))))))))) ∧ (¬ (a2 = (8 : Int32)) → (w_C_boxMade (ksLa K (0 : Int64)) a2 a3 (fun r62_3 K62_3 => (okR K62_3 r62_3) ∧ ((vp_in a1 9) ∧ (post (0 : Int32) (ksH K62_3 (a1).toNatClampNeg r62_3))))))))))))
set_option maxHeartbeats 8000000 in
set_option maxRecDepth 100000 in
theorem c_C_put (l : Launch) (D : va_G) (A : Nat → Prop) (cA : ClassId) (x hs : Nat) (K : KT) (a1 : Int32) (a2 : Int32) (a3 : Int64) (post : Int32 → KT → Prop) (hq : w_C_put K a1 a2 a3 post) : Met l y_C_put (kw y_C_put b_C_put 5 (Option.some Jvm.ClassFile.FieldType.int)) ({ frames := 5, cells := 1, slots := 3, locals := 101 }) (kP D (tysC cA) A [.ref x, .int a1, .int a2, .long a3] (CW D A x hs cA K)) (va_Qi post (fun u t => CW D A x hs cA u t.heap) A) 1 3 A := by
  refine kmet_i (BB := (fun u H => CW D A x hs cA u H)) (lv := [(0, .ref x), (1, .int a1), (2, .int a2), (3, .long a3)]) (by decide +kernel) rfl (Nat.le_of_ble_eq_true rfl) ?_
  intro p e s m args below meth c Q ls X hin hC hl hE
  have hx := X.x
  have hb := X.b
  have hS : va_S A s.heap s.heap [] := va_S.rf
  unfold w_C_put at hq
  refine lv_iload_n hx hb d_C_put_0 rfl (lv_at hl 1 rfl) ?_
  refine lv_bipush (v := (8 : Int32)) hx hb d_C_put_1 (by decide) ?_
  refine kci (BB := fun (_ : Unit) H => CW D A x hs cA K H) (krS X hl.1 hS hC (c_C_isBelow l D (tysC cA) A _ a1 (8 : Int32) _ hq) ki_C_isBelow wd_35 wd_36 ⟨rfl, rfl, Nat.le_of_ble_eq_true rfl, Nat.le_of_ble_eq_true rfl⟩ rfl rfl (Nat.le_of_ble_eq_true rfl) d_C_put_3 ⟨Nat.le_of_ble_eq_true rfl, Nat.le_of_ble_eq_true rfl⟩) hS (fun r3_1 _u H locs hq hC hS => ?_)
  refine lv_if_eq (tgt := 18) hx hb d_C_put_6 (by decide) (fun c_9 => ?_) (fun c_9 => ?_)
  · have hq := hq.1 c_9
    refine lv_iconst (v := (-1 : Int32)) hx hb d_C_put_18 (by decide) ?_
    exact hE (-1 : Int32) K _ _ _ _ _ ls hq hC hS (Nat.le_of_ble_eq_true rfl) (Nat.le_of_ble_eq_true rfl) d_C_put_19
  · have hq := hq.2 c_9
    refine lv_iload_n hx hb d_C_put_9 rfl (lv_at hl 2 rfl) ?_
    refine lv_bipush (v := (9 : Int32)) hx hb d_C_put_10 (by decide) ?_
    refine kci (BB := fun (_ : Unit) H => CW D A x hs cA K H) (krS X hl.1 hS hC (c_C_isBelow l D (tysC cA) A _ a2 (9 : Int32) _ hq) ki_C_isBelow wd_35 wd_36 ⟨rfl, rfl, Nat.le_of_ble_eq_true rfl, Nat.le_of_ble_eq_true rfl⟩ rfl rfl (Nat.le_of_ble_eq_true rfl) d_C_put_12 ⟨Nat.le_of_ble_eq_true rfl, Nat.le_of_ble_eq_true rfl⟩) hS (fun r12_2 _u H locs hq hC hS => ?_)
    refine lv_if_ne (tgt := 20) hx hb d_C_put_15 (by decide) (fun c_8 => ?_) (fun c_8 => ?_)
    · have hq := hq.2 c_8
      refine lv_aload_n hx hb d_C_put_20 rfl (lv_at hl 0 rfl) ?_
      refine lv_lconst (v := (0 : Int64)) hx hb d_C_put_21 (by decide) ?_
      refine kp_lastTold X hC hS d_C_put_22 (fun H locs hC hS => ?_)
      refine lv_iload_n hx hb d_C_put_25 rfl (lv_at hl 2 rfl) ?_
      refine lv_bipush (v := (8 : Int32)) hx hb d_C_put_26 (by decide) ?_
      refine lv_icmp_ne (tgt := 55) hx hb d_C_put_28 (by decide) (fun c_7 => ?_) (fun c_7 => ?_)
      · have hq := hq.2 c_7
        refine lv_aload_n hx hb d_C_put_55 rfl (lv_at hl 0 rfl) ?_
        refine kg_handles X hC d_C_put_56 ?_
        refine lv_iload_n hx hb d_C_put_59 rfl (lv_at hl 1 rfl) ?_
        refine lv_iload_n hx hb d_C_put_60 rfl (lv_at hl 2 rfl) ?_
        refine lv_lload_n hx hb d_C_put_61 rfl (lv_at hl 3 rfl) ?_
        refine kcq (BB := fun u H => CW D A x hs cA u H) (krS X hl.1 hS hC (c_C_boxMade l D A cA x hs (ksLa K (0 : Int64)) a2 a3 _ hq) ki_C_boxMade wd_56 wd_57 ⟨rfl, rfl, Nat.le_of_ble_eq_true rfl, Nat.le_of_ble_eq_true rfl⟩ rfl rfl (Nat.le_of_ble_eq_true rfl) d_C_put_62 ⟨Nat.le_of_ble_eq_true rfl, Nat.le_of_ble_eq_true rfl⟩) hS (fun r62_3 K62_3 H locs hq hC hS => ?_)
        have hs_ := hq.1
        have hs2_ := hq.2.1
        have hq := hq.2.2
        refine kp_h (r := r62_3) X hC hS hs_ hs2_ d_C_put_65 (fun H locs hC hS => ?_)
        refine lv_iconst (v := (0 : Int32)) hx hb d_C_put_66 (by decide) ?_
        exact hE (0 : Int32) (ksH K62_3 (a1).toNatClampNeg r62_3) _ _ _ _ _ ls hq hC hS (Nat.le_of_ble_eq_true rfl) (Nat.le_of_ble_eq_true rfl) d_C_put_67
      · have hq := hq.1 c_7
        refine lv_aload_n hx hb d_C_put_31 rfl (lv_at hl 0 rfl) ?_
        refine kg_handles X hC d_C_put_32 ?_
        refine lv_iload_n hx hb d_C_put_35 rfl (lv_at hl 1 rfl) ?_
        refine ki_new_T X hC hS (Nat.le_of_ble_eq_true rfl) (Nat.le_of_ble_eq_true rfl) d_C_put_36 (fun q36_4 H h_q36_4 hC hS => ?_)
        have hq := hq q36_4 h_q36_4
        refine lv_dup hx hb d_C_put_39 rfl ?_
        refine lv_lload_n hx hb d_C_put_40 rfl (lv_at hl 3 rfl) ?_
        refine lv_ldc2 hx hb X.o (X.t _ wd_40) d_C_put_41 ?_
        refine kcl_ (BB := fun (_ : Unit) H => CW D A x hs cA (kNew (ksLa K (0 : Int64)) q36_4 (ob0 4)) H) (krS X hl.1 hS hC (c_J_floorMod l D (tysC cA) A _ a3 (10 : Int64) _ hq) ki_J_floorMod wd_41 wd_42 ⟨rfl, rfl, Nat.le_of_ble_eq_true rfl, Nat.le_of_ble_eq_true rfl⟩ rfl rfl (Nat.le_of_ble_eq_true rfl) d_C_put_44 ⟨Nat.le_of_ble_eq_true rfl, Nat.le_of_ble_eq_true rfl⟩) hS (fun r44_5 _u H locs hq hC hS => ?_)
        refine lv_l2i hx hb d_C_put_47 rfl ?_
        refine kcv (BB := fun u H => CW D A x hs cA u H) (krI (b := q36_4) X hl.1 hS hC (c_T_init l D A cA x hs (kNew (ksLa K (0 : Int64)) q36_4 (ob0 4)) q36_4 (r44_5).toInt32 _ hq) ki_T_init wd_44 wd_45 rfl ⟨rfl, rfl, Nat.le_of_ble_eq_true rfl, Nat.le_of_ble_eq_true rfl⟩ rfl rfl (Nat.le_of_ble_eq_true rfl) d_C_put_48 ⟨Nat.le_of_ble_eq_true rfl, Nat.le_of_ble_eq_true rfl⟩) hS (fun K48_6 H locs hq hC hS => ?_)
        have hs_ := hq.1
        have hs2_ := hq.2.1
        have hq := hq.2.2
        refine kp_h (r := (some q36_4)) X hC hS hs_ hs2_ d_C_put_51 (fun H locs hC hS => ?_)
        refine lv_goto (tgt := 66) hx hb d_C_put_52 (by decide) ?_
        refine lv_iconst (v := (0 : Int32)) hx hb d_C_put_66 (by decide) ?_
        exact hE (0 : Int32) (ksH K48_6 (a1).toNatClampNeg (some q36_4)) _ _ _ _ _ ls hq hC hS (Nat.le_of_ble_eq_true rfl) (Nat.le_of_ble_eq_true rfl) d_C_put_67
    · have hq := hq.1 c_8
      refine lv_iconst (v := (-1 : Int32)) hx hb d_C_put_18 (by decide) ?_
      exact hE (-1 : Int32) K _ _ _ _ _ ls hq hC hS (Nat.le_of_ble_eq_true rfl) (Nat.le_of_ble_eq_true rfl) d_C_put_19
def w_C_hold (K : KT) (a1 : Int32) (a2 : Int32) (post : Int32 → KT → Prop) : Prop := w_C_isBelow a1 (8 : Int32) (fun r3_1 => ((r3_1 = (0 : Int32)) → (post (-1 : Int32) K)) ∧ (¬ (r3_1 = (0 : Int32)) → (((a2 = (-1 : Int32)) → (((a2 = (-1 : Int32)) → ((okR (ksLa K (0 : Int64)) none) ∧ ((vp_in a1 9) ∧ (post (0 : Int32) (ksH (ksLa K (0 : Int64)) (a1).toNatClampNeg none))))) ∧ (¬ (a2 = (-1 : Int32)) → ((vp_in a2 9) ∧ (∀ r49_2 : Option Nat, r49_2 = (kH (ksLa K (0 : Int64)) (a2).toNatClampNeg) → ((okR (ksLa K (0 : Int64)) r49_2) ∧ ((vp_in a1 9) ∧ (post (0 : Int32) (ksH (ksLa K (0 : Int64)) (a1).toNatClampNeg r49_2))))))))) ∧ (¬ (a2 = (-1 : Int32)) → (w_C_isBelow a2 (9 : Int32) (fun r17_4 => ((r17_4 = (0 : Int32)) → (post (-1 : Int32) K)) ∧ (¬ (r17_4 = (0 : Int32)) → (((a2 = (-1 : Int32)) → ((okR (ksLa K (0 : Int64)) none) ∧ ((vp_in a1 9) ∧ (post (0 : Int32) (ksH (ksLa K (0 : Int64)) (a1).toNatClampNeg none))))) ∧ (¬ (a2 = (-1 : Int32)) → ((vp_in a2 9) ∧ (∀ r49_5 : Option Nat, r49_5 = (kH (ksLa K (0 : Int64)) (a2).toNatClampNeg) → ((okR (ksLa K (0 : Int64)) r49_5) ∧ ((vp_in a1 9) ∧ (post (0 : Int32) (ksH (ksLa K (0 : Int64)) (a1).toNatClampNeg r49_5)))))))))))))))
set_option maxHeartbeats 8000000 in
set_option maxRecDepth 100000 in
theorem c_C_hold (l : Launch) (D : va_G) (A : Nat → Prop) (cA : ClassId) (x hs : Nat) (K : KT) (a1 : Int32) (a2 : Int32) (post : Int32 → KT → Prop) (hq : w_C_hold K a1 a2 post) : Met l y_C_hold (kw y_C_hold b_C_hold 3 (Option.some Jvm.ClassFile.FieldType.int)) ({ frames := 1, cells := 0, slots := 0, locals := 21 }) (kP D (tysC cA) A [.ref x, .int a1, .int a2] (CW D A x hs cA K)) (va_Qi post (fun u t => CW D A x hs cA u t.heap) A) 0 0 A := by
  refine kmet_i (BB := (fun u H => CW D A x hs cA u H)) (lv := [(0, .ref x), (1, .int a1), (2, .int a2)]) (by decide +kernel) rfl (Nat.le_of_ble_eq_true rfl) ?_
  intro p e s m args below meth c Q ls X hin hC hl hE
  have hx := X.x
  have hb := X.b
  have hS : va_S A s.heap s.heap [] := va_S.rf
  unfold w_C_hold at hq
  refine lv_iload_n hx hb d_C_hold_0 rfl (lv_at hl 1 rfl) ?_
  refine lv_bipush (v := (8 : Int32)) hx hb d_C_hold_1 (by decide) ?_
  refine kci (BB := fun (_ : Unit) H => CW D A x hs cA K H) (krS X hl.1 hS hC (c_C_isBelow l D (tysC cA) A _ a1 (8 : Int32) _ hq) ki_C_isBelow wd_35 wd_36 ⟨rfl, rfl, Nat.le_of_ble_eq_true rfl, Nat.le_of_ble_eq_true rfl⟩ rfl rfl (Nat.le_of_ble_eq_true rfl) d_C_hold_3 ⟨Nat.le_of_ble_eq_true rfl, Nat.le_of_ble_eq_true rfl⟩) hS (fun r3_1 _u H locs hq hC hS => ?_)
  refine lv_if_eq (tgt := 23) hx hb d_C_hold_6 (by decide) (fun c_9 => ?_) (fun c_9 => ?_)
  · have hq := hq.1 c_9
    refine lv_iconst (v := (-1 : Int32)) hx hb d_C_hold_23 (by decide) ?_
    exact hE (-1 : Int32) K _ _ _ _ _ ls hq hC hS (Nat.le_of_ble_eq_true rfl) (Nat.le_of_ble_eq_true rfl) d_C_hold_24
  · have hq := hq.2 c_9
    refine lv_iload_n hx hb d_C_hold_9 rfl (lv_at hl 2 rfl) ?_
    refine lv_iconst (v := (-1 : Int32)) hx hb d_C_hold_10 (by decide) ?_
    refine lv_icmp_eq (tgt := 25) hx hb d_C_hold_11 (by decide) (fun c_8 => ?_) (fun c_8 => ?_)
    · have hq := hq.1 c_8
      refine lv_aload_n hx hb d_C_hold_25 rfl (lv_at hl 0 rfl) ?_
      refine lv_lconst (v := (0 : Int64)) hx hb d_C_hold_26 (by decide) ?_
      refine kp_lastTold X hC hS d_C_hold_27 (fun H locs hC hS => ?_)
      refine lv_aload_n hx hb d_C_hold_30 rfl (lv_at hl 0 rfl) ?_
      refine kg_handles X hC d_C_hold_31 ?_
      refine lv_iload_n hx hb d_C_hold_34 rfl (lv_at hl 1 rfl) ?_
      refine lv_iload_n hx hb d_C_hold_35 rfl (lv_at hl 2 rfl) ?_
      refine lv_iconst (v := (-1 : Int32)) hx hb d_C_hold_36 (by decide) ?_
      refine lv_icmp_ne (tgt := 44) hx hb d_C_hold_37 (by decide) (fun c_3 => ?_) (fun c_3 => ?_)
      · have hq := hq.2 c_3
        refine lv_aload_n hx hb d_C_hold_44 rfl (lv_at hl 0 rfl) ?_
        refine kg_handles X hC d_C_hold_45 ?_
        refine lv_iload_n hx hb d_C_hold_48 rfl (lv_at hl 2 rfl) ?_
        have hs_ := hq.1
        have hq := hq.2
        refine kg_h X hC hs_ d_C_hold_49 (fun r49_2 e_r49_2 => ?_)
        have hq := hq r49_2 e_r49_2
        have hs_ := hq.1
        have hs2_ := hq.2.1
        have hq := hq.2.2
        refine kp_h (r := r49_2) X hC hS hs_ hs2_ d_C_hold_50 (fun H locs hC hS => ?_)
        refine lv_iconst (v := (0 : Int32)) hx hb d_C_hold_51 (by decide) ?_
        exact hE (0 : Int32) (ksH (ksLa K (0 : Int64)) (a1).toNatClampNeg r49_2) _ _ _ _ _ ls hq hC hS (Nat.le_of_ble_eq_true rfl) (Nat.le_of_ble_eq_true rfl) d_C_hold_52
      · have hq := hq.1 c_3
        refine kr_null hx hb d_C_hold_40 ?_
        refine lv_goto (tgt := 50) hx hb d_C_hold_41 (by decide) ?_
        have hs_ := hq.1
        have hs2_ := hq.2.1
        have hq := hq.2.2
        refine kp_h (r := none) X hC hS hs_ hs2_ d_C_hold_50 (fun H locs hC hS => ?_)
        refine lv_iconst (v := (0 : Int32)) hx hb d_C_hold_51 (by decide) ?_
        exact hE (0 : Int32) (ksH (ksLa K (0 : Int64)) (a1).toNatClampNeg none) _ _ _ _ _ ls hq hC hS (Nat.le_of_ble_eq_true rfl) (Nat.le_of_ble_eq_true rfl) d_C_hold_52
    · have hq := hq.2 c_8
      refine lv_iload_n hx hb d_C_hold_14 rfl (lv_at hl 2 rfl) ?_
      refine lv_bipush (v := (9 : Int32)) hx hb d_C_hold_15 (by decide) ?_
      refine kci (BB := fun (_ : Unit) H => CW D A x hs cA K H) (krS X hl.1 hS hC (c_C_isBelow l D (tysC cA) A _ a2 (9 : Int32) _ hq) ki_C_isBelow wd_35 wd_36 ⟨rfl, rfl, Nat.le_of_ble_eq_true rfl, Nat.le_of_ble_eq_true rfl⟩ rfl rfl (Nat.le_of_ble_eq_true rfl) d_C_hold_17 ⟨Nat.le_of_ble_eq_true rfl, Nat.le_of_ble_eq_true rfl⟩) hS (fun r17_4 _u H locs hq hC hS => ?_)
      refine lv_if_ne (tgt := 25) hx hb d_C_hold_20 (by decide) (fun c_7 => ?_) (fun c_7 => ?_)
      · have hq := hq.2 c_7
        refine lv_aload_n hx hb d_C_hold_25 rfl (lv_at hl 0 rfl) ?_
        refine lv_lconst (v := (0 : Int64)) hx hb d_C_hold_26 (by decide) ?_
        refine kp_lastTold X hC hS d_C_hold_27 (fun H locs hC hS => ?_)
        refine lv_aload_n hx hb d_C_hold_30 rfl (lv_at hl 0 rfl) ?_
        refine kg_handles X hC d_C_hold_31 ?_
        refine lv_iload_n hx hb d_C_hold_34 rfl (lv_at hl 1 rfl) ?_
        refine lv_iload_n hx hb d_C_hold_35 rfl (lv_at hl 2 rfl) ?_
        refine lv_iconst (v := (-1 : Int32)) hx hb d_C_hold_36 (by decide) ?_
        refine lv_icmp_ne (tgt := 44) hx hb d_C_hold_37 (by decide) (fun c_6 => ?_) (fun c_6 => ?_)
        · have hq := hq.2 c_6
          refine lv_aload_n hx hb d_C_hold_44 rfl (lv_at hl 0 rfl) ?_
          refine kg_handles X hC d_C_hold_45 ?_
          refine lv_iload_n hx hb d_C_hold_48 rfl (lv_at hl 2 rfl) ?_
          have hs_ := hq.1
          have hq := hq.2
          refine kg_h X hC hs_ d_C_hold_49 (fun r49_5 e_r49_5 => ?_)
          have hq := hq r49_5 e_r49_5
          have hs_ := hq.1
          have hs2_ := hq.2.1
          have hq := hq.2.2
          refine kp_h (r := r49_5) X hC hS hs_ hs2_ d_C_hold_50 (fun H locs hC hS => ?_)
          refine lv_iconst (v := (0 : Int32)) hx hb d_C_hold_51 (by decide) ?_
          exact hE (0 : Int32) (ksH (ksLa K (0 : Int64)) (a1).toNatClampNeg r49_5) _ _ _ _ _ ls hq hC hS (Nat.le_of_ble_eq_true rfl) (Nat.le_of_ble_eq_true rfl) d_C_hold_52
        · have hq := hq.1 c_6
          refine kr_null hx hb d_C_hold_40 ?_
          refine lv_goto (tgt := 50) hx hb d_C_hold_41 (by decide) ?_
          have hs_ := hq.1
          have hs2_ := hq.2.1
          have hq := hq.2.2
          refine kp_h (r := none) X hC hS hs_ hs2_ d_C_hold_50 (fun H locs hC hS => ?_)
          refine lv_iconst (v := (0 : Int32)) hx hb d_C_hold_51 (by decide) ?_
          exact hE (0 : Int32) (ksH (ksLa K (0 : Int64)) (a1).toNatClampNeg none) _ _ _ _ _ ls hq hC hS (Nat.le_of_ble_eq_true rfl) (Nat.le_of_ble_eq_true rfl) d_C_hold_52
      · have hq := hq.1 c_7
        refine lv_iconst (v := (-1 : Int32)) hx hb d_C_hold_23 (by decide) ?_
        exact hE (-1 : Int32) K _ _ _ _ _ ls hq hC hS (Nat.le_of_ble_eq_true rfl) (Nat.le_of_ble_eq_true rfl) d_C_hold_24
def w_C_hasEmptyConstructor (a1 : Int32) (post : Int32 → Prop) : Prop := ((a1 = (0 : Int32)) → (z01 (1 : Int32) ∧ post (1 : Int32))) ∧ (¬ (a1 = (0 : Int32)) → (((a1 = (1 : Int32)) → (z01 (1 : Int32) ∧ post (1 : Int32))) ∧ (¬ (a1 = (1 : Int32)) → (((a1 = (3 : Int32)) → (z01 (1 : Int32) ∧ post (1 : Int32))) ∧ (¬ (a1 = (3 : Int32)) → (((a1 = (5 : Int32)) → (z01 (1 : Int32) ∧ post (1 : Int32))) ∧ (¬ (a1 = (5 : Int32)) → (((a1 = (7 : Int32)) → (z01 (1 : Int32) ∧ post (1 : Int32))) ∧ (¬ (a1 = (7 : Int32)) → (z01 (0 : Int32) ∧ post (0 : Int32)))))))))))
set_option maxHeartbeats 8000000 in
set_option maxRecDepth 100000 in
theorem c_C_hasEmptyConstructor (l : Launch) (D : va_G) (tys : List (ClassId × FieldType)) (A : Nat → Prop) (B : Heap → Prop) (a1 : Int32) (post : Int32 → Prop) (hq : w_C_hasEmptyConstructor a1 post) : Met l y_C_hasEmptyConstructor (kw y_C_hasEmptyConstructor b_C_hasEmptyConstructor 1 (Option.some Jvm.ClassFile.FieldType.boolean)) ({ frames := 0, cells := 0, slots := 0, locals := 0 }) (kP D tys A [.int a1] B) (va_Qi (fun r (_ : Unit) => post r) (fun _ t => B t.heap) A) 0 0 A := by
  refine kmet_z (BB := (fun (_ : Unit) H => B H)) (lv := [(0, .int a1)]) (by decide +kernel) rfl (Nat.le_of_ble_eq_true rfl) ?_
  intro p e s m args below meth c Q ls X hin hC hl hE
  have hx := X.x
  have hb := X.b
  have hS : va_S A s.heap s.heap [] := va_S.rf
  unfold w_C_hasEmptyConstructor at hq
  refine lv_iload_n hx hb d_C_hasEmptyConstructor_0 rfl (lv_at hl 0 rfl) ?_
  refine lv_if_eq (tgt := 25) hx hb d_C_hasEmptyConstructor_1 (by decide) (fun c_5 => ?_) (fun c_5 => ?_)
  · have hq := hq.1 c_5
    refine lv_iconst (v := (1 : Int32)) hx hb d_C_hasEmptyConstructor_25 (by decide) ?_
    refine lv_goto (tgt := 30) hx hb d_C_hasEmptyConstructor_26 (by decide) ?_
    exact hE (1 : Int32) () _ _ _ _ _ ls hq hC hS (Nat.le_of_ble_eq_true rfl) (Nat.le_of_ble_eq_true rfl) d_C_hasEmptyConstructor_30
  · have hq := hq.2 c_5
    refine lv_iload_n hx hb d_C_hasEmptyConstructor_4 rfl (lv_at hl 0 rfl) ?_
    refine lv_iconst (v := (1 : Int32)) hx hb d_C_hasEmptyConstructor_5 (by decide) ?_
    refine lv_icmp_eq (tgt := 25) hx hb d_C_hasEmptyConstructor_6 (by decide) (fun c_4 => ?_) (fun c_4 => ?_)
    · have hq := hq.1 c_4
      refine lv_iconst (v := (1 : Int32)) hx hb d_C_hasEmptyConstructor_25 (by decide) ?_
      refine lv_goto (tgt := 30) hx hb d_C_hasEmptyConstructor_26 (by decide) ?_
      exact hE (1 : Int32) () _ _ _ _ _ ls hq hC hS (Nat.le_of_ble_eq_true rfl) (Nat.le_of_ble_eq_true rfl) d_C_hasEmptyConstructor_30
    · have hq := hq.2 c_4
      refine lv_iload_n hx hb d_C_hasEmptyConstructor_9 rfl (lv_at hl 0 rfl) ?_
      refine lv_iconst (v := (3 : Int32)) hx hb d_C_hasEmptyConstructor_10 (by decide) ?_
      refine lv_icmp_eq (tgt := 25) hx hb d_C_hasEmptyConstructor_11 (by decide) (fun c_3 => ?_) (fun c_3 => ?_)
      · have hq := hq.1 c_3
        refine lv_iconst (v := (1 : Int32)) hx hb d_C_hasEmptyConstructor_25 (by decide) ?_
        refine lv_goto (tgt := 30) hx hb d_C_hasEmptyConstructor_26 (by decide) ?_
        exact hE (1 : Int32) () _ _ _ _ _ ls hq hC hS (Nat.le_of_ble_eq_true rfl) (Nat.le_of_ble_eq_true rfl) d_C_hasEmptyConstructor_30
      · have hq := hq.2 c_3
        refine lv_iload_n hx hb d_C_hasEmptyConstructor_14 rfl (lv_at hl 0 rfl) ?_
        refine lv_iconst (v := (5 : Int32)) hx hb d_C_hasEmptyConstructor_15 (by decide) ?_
        refine lv_icmp_eq (tgt := 25) hx hb d_C_hasEmptyConstructor_16 (by decide) (fun c_2 => ?_) (fun c_2 => ?_)
        · have hq := hq.1 c_2
          refine lv_iconst (v := (1 : Int32)) hx hb d_C_hasEmptyConstructor_25 (by decide) ?_
          refine lv_goto (tgt := 30) hx hb d_C_hasEmptyConstructor_26 (by decide) ?_
          exact hE (1 : Int32) () _ _ _ _ _ ls hq hC hS (Nat.le_of_ble_eq_true rfl) (Nat.le_of_ble_eq_true rfl) d_C_hasEmptyConstructor_30
        · have hq := hq.2 c_2
          refine lv_iload_n hx hb d_C_hasEmptyConstructor_19 rfl (lv_at hl 0 rfl) ?_
          refine lv_bipush (v := (7 : Int32)) hx hb d_C_hasEmptyConstructor_20 (by decide) ?_
          refine lv_icmp_ne (tgt := 29) hx hb d_C_hasEmptyConstructor_22 (by decide) (fun c_1 => ?_) (fun c_1 => ?_)
          · have hq := hq.2 c_1
            refine lv_iconst (v := (0 : Int32)) hx hb d_C_hasEmptyConstructor_29 (by decide) ?_
            exact hE (0 : Int32) () _ _ _ _ _ ls hq hC hS (Nat.le_of_ble_eq_true rfl) (Nat.le_of_ble_eq_true rfl) d_C_hasEmptyConstructor_30
          · have hq := hq.1 c_1
            refine lv_iconst (v := (1 : Int32)) hx hb d_C_hasEmptyConstructor_25 (by decide) ?_
            refine lv_goto (tgt := 30) hx hb d_C_hasEmptyConstructor_26 (by decide) ?_
            exact hE (1 : Int32) () _ _ _ _ _ ls hq hC hS (Nat.le_of_ble_eq_true rfl) (Nat.le_of_ble_eq_true rfl) d_C_hasEmptyConstructor_30
def w_P_init (K : KT) (b : Nat) (post : KT → Prop) : Prop := w_H_init K b (fun K1_1 => post K1_1)
set_option maxHeartbeats 8000000 in
set_option maxRecDepth 100000 in
theorem c_P_init (l : Launch) (D : va_G) (A : Nat → Prop) (cA : ClassId) (x hs : Nat) (K : KT) (b : Nat) (post : KT → Prop) (hq : w_P_init K b post) : Met l y_P_init (kw y_P_init b_P_init 1 (Option.none : Option Jvm.ClassFile.FieldType)) ({ frames := 2, cells := 0, slots := 0, locals := 32 }) (kP D (tysC cA) A [va_rf (some b)] (CW D A x hs cA K)) (va_Qv post (fun u t => CW D A x hs cA u t.heap) A) 0 0 A := by
  refine kmet_v (BB := (fun u H => CW D A x hs cA u H)) (lv := [(0, va_rf (some b))]) (by decide +kernel) rfl (Nat.le_of_ble_eq_true rfl) ?_
  intro p e s m args below meth c Q ls X hin hC hl hE
  have hx := X.x
  have hb := X.b
  have hS : va_S A s.heap s.heap [] := va_S.rf
  unfold w_P_init at hq
  refine kr_aload_n (r := (some b)) hx hb d_P_init_0 rfl (lv_at hl 0 rfl) ?_
  refine kcv (BB := fun u H => CW D A x hs cA u H) (krIN (b := b) X hl.1 hS hC (c_H_init l D A cA x hs K b _ hq) ki_H_init (X.N.2.1 ("MemberInspection$Plain", 3, y_H_init, "MemberInspection") (by decide +kernel)) wd_48 rfl ⟨rfl, rfl, Nat.le_of_ble_eq_true rfl, Nat.le_of_ble_eq_true rfl⟩ rfl rfl (Nat.le_of_ble_eq_true rfl) d_P_init_1 ⟨Nat.le_of_ble_eq_true rfl, Nat.le_of_ble_eq_true rfl⟩) hS (fun K1_1 H locs hq hC hS => ?_)
  exact hE K1_1 _ _ _ _ _ ls hq hC hS (Nat.le_of_ble_eq_true rfl) (Nat.le_of_ble_eq_true rfl) d_P_init_4
def w_I_init (K : KT) (b : Nat) (a1 : Int32) (post : KT → Prop) : Prop := w_H_init K b (fun K1_1 => (isI K1_1 (some b)) ∧ (post (ksR K1_1 (some b) (osI (kob K1_1 (some b)) a1))))
set_option maxHeartbeats 8000000 in
set_option maxRecDepth 100000 in
theorem c_I_init (l : Launch) (D : va_G) (A : Nat → Prop) (cA : ClassId) (x hs : Nat) (K : KT) (b : Nat) (a1 : Int32) (post : KT → Prop) (hq : w_I_init K b a1 post) : Met l y_I_init (kw y_I_init b_I_init 2 (Option.none : Option Jvm.ClassFile.FieldType)) ({ frames := 2, cells := 0, slots := 0, locals := 32 }) (kP D (tysC cA) A [va_rf (some b), .int a1] (CW D A x hs cA K)) (va_Qv post (fun u t => CW D A x hs cA u t.heap) A) 0 0 A := by
  refine kmet_v (BB := (fun u H => CW D A x hs cA u H)) (lv := [(0, va_rf (some b)), (1, .int a1)]) (by decide +kernel) rfl (Nat.le_of_ble_eq_true rfl) ?_
  intro p e s m args below meth c Q ls X hin hC hl hE
  have hx := X.x
  have hb := X.b
  have hS : va_S A s.heap s.heap [] := va_S.rf
  unfold w_I_init at hq
  refine kr_aload_n (r := (some b)) hx hb d_I_init_0 rfl (lv_at hl 0 rfl) ?_
  refine kcv (BB := fun u H => CW D A x hs cA u H) (krIN (b := b) X hl.1 hS hC (c_H_init l D A cA x hs K b _ hq) ki_H_init (X.N.2.1 ("MemberInspection$Item", 3, y_H_init, "MemberInspection") (by decide +kernel)) wd_48 rfl ⟨rfl, rfl, Nat.le_of_ble_eq_true rfl, Nat.le_of_ble_eq_true rfl⟩ rfl rfl (Nat.le_of_ble_eq_true rfl) d_I_init_1 ⟨Nat.le_of_ble_eq_true rfl, Nat.le_of_ble_eq_true rfl⟩) hS (fun K1_1 H locs hq hC hS => ?_)
  refine kr_aload_n (r := (some b)) hx hb d_I_init_4 rfl (lv_at hl 0 rfl) ?_
  refine lv_iload_n hx hb d_I_init_5 rfl (lv_at hl 1 rfl) ?_
  have hs_ := hq.1
  have hq := hq.2
  refine kp_whole_I9 (r := (some b)) (v := a1) X hC hS hs_ d_I_init_6 (fun H locs hC hS => ?_)
  exact hE (ksR K1_1 (some b) (osI (kob K1_1 (some b)) a1)) _ _ _ _ _ ls hq hC hS (Nat.le_of_ble_eq_true rfl) (Nat.le_of_ble_eq_true rfl) d_I_init_9
def w_S_init (K : KT) (b : Nat) (a1 : Int32) (post : KT → Prop) : Prop := w_I_init K b (a1 + (1 : Int32)) (fun K4_1 => (isT K4_1 (some b) 3) ∧ (post (ksR K4_1 (some b) (osX (kob K4_1 (some b)) (((5 : Int32)).toInt16.toInt32)))))
set_option maxHeartbeats 8000000 in
set_option maxRecDepth 100000 in
theorem c_S_init (l : Launch) (D : va_G) (A : Nat → Prop) (cA : ClassId) (x hs : Nat) (K : KT) (b : Nat) (a1 : Int32) (post : KT → Prop) (hq : w_S_init K b a1 post) : Met l y_S_init (kw y_S_init b_S_init 2 (Option.none : Option Jvm.ClassFile.FieldType)) ({ frames := 3, cells := 0, slots := 0, locals := 53 }) (kP D (tysC cA) A [va_rf (some b), .int a1] (CW D A x hs cA K)) (va_Qv post (fun u t => CW D A x hs cA u t.heap) A) 0 0 A := by
  refine kmet_v (BB := (fun u H => CW D A x hs cA u H)) (lv := [(0, va_rf (some b)), (1, .int a1)]) (by decide +kernel) rfl (Nat.le_of_ble_eq_true rfl) ?_
  intro p e s m args below meth c Q ls X hin hC hl hE
  have hx := X.x
  have hb := X.b
  have hS : va_S A s.heap s.heap [] := va_S.rf
  unfold w_S_init at hq
  refine kr_aload_n (r := (some b)) hx hb d_S_init_0 rfl (lv_at hl 0 rfl) ?_
  refine lv_iload_n hx hb d_S_init_1 rfl (lv_at hl 1 rfl) ?_
  refine lv_iconst (v := (1 : Int32)) hx hb d_S_init_2 (by decide) ?_
  refine lv_iadd hx hb d_S_init_3 ?_
  refine kcv (BB := fun u H => CW D A x hs cA u H) (krI (b := b) X hl.1 hS hC (c_I_init l D A cA x hs K b (a1 + (1 : Int32)) _ hq) ki_I_init wd_139 wd_109 rfl ⟨rfl, rfl, Nat.le_of_ble_eq_true rfl, Nat.le_of_ble_eq_true rfl⟩ rfl rfl (Nat.le_of_ble_eq_true rfl) d_S_init_4 ⟨Nat.le_of_ble_eq_true rfl, Nat.le_of_ble_eq_true rfl⟩) hS (fun K4_1 H locs hq hC hS => ?_)
  refine kr_aload_n (r := (some b)) hx hb d_S_init_7 rfl (lv_at hl 0 rfl) ?_
  refine lv_iconst (v := (5 : Int32)) hx hb d_S_init_8 (by decide) ?_
  have hs_ := hq.1
  have hq := hq.2
  refine W.eq (g2 := F0 m 9 ls (.int (((5 : Int32)).toInt16.toInt32) :: va_rf (some b) :: [])) rfl ?_
  refine kp_extra_S9 (r := (some b)) (v := (5 : Int32)) X hC hS hs_ d_S_init_9 (fun H locs hC hS => ?_)
  exact hE (ksR K4_1 (some b) (osX (kob K4_1 (some b)) (((5 : Int32)).toInt16.toInt32))) _ _ _ _ _ ls hq hC hS (Nat.le_of_ble_eq_true rfl) (Nat.le_of_ble_eq_true rfl) d_S_init_12
def w_C_newObject (K : KT) (a1 : Int32) (a2 : Int32) (post : Option Nat → KT → Prop) : Prop := ((a1 = (2 : Int32)) → (w_C_boxOfWhole K (4 : Int32) (a2).toInt64 (fun r39_2 K39_2 => post r39_2 K39_2))) ∧ (¬ (a1 = (2 : Int32)) → (((a1 = (3 : Int32)) → (∀ q43_4 : Nat, q43_4 ∉ kL K → (w_T_init (kNew K q43_4 (ob0 4)) q43_4 (0 : Int32) (fun K48_5 => post (some q43_4) K48_5)))) ∧ (¬ (a1 = (3 : Int32)) → (((a1 = (4 : Int32)) → (∀ q70_7 : Nat, q70_7 ∉ kL K → (w_P_init (kNew K q70_7 (ob0 2)) q70_7 (fun K74_8 => post (some q70_7) K74_8)))) ∧ (¬ (a1 = (4 : Int32)) → (((a1 = (5 : Int32)) → (∀ q52_10 : Nat, q52_10 ∉ kL K → (w_I_init (kNew K q52_10 (ob0 1)) q52_10 a2 (fun K57_11 => post (some q52_10) K57_11)))) ∧ (¬ (a1 = (5 : Int32)) → (((a1 = (6 : Int32)) → (∀ q61_13 : Nat, q61_13 ∉ kL K → (w_S_init (kNew K q61_13 (ob0 3)) q61_13 a2 (fun K66_14 => post (some q61_13) K66_14)))) ∧ (¬ (a1 = (6 : Int32)) → (∀ q70_15 : Nat, q70_15 ∉ kL K → (w_P_init (kNew K q70_15 (ob0 2)) q70_15 (fun K74_16 => post (some q70_15) K74_16))))))))))))
set_option maxHeartbeats 8000000 in
set_option maxRecDepth 100000 in
theorem c_C_newObject (l : Launch) (D : va_G) (A : Nat → Prop) (cA : ClassId) (x hs : Nat) (K : KT) (a1 : Int32) (a2 : Int32) (post : Option Nat → KT → Prop) (hq : w_C_newObject K a1 a2 post) : Met l y_C_newObject (kw y_C_newObject b_C_newObject 2 (Option.some (Jvm.ClassFile.FieldType.object "MemberInspection$Held"))) ({ frames := 4, cells := 1, slots := 7, locals := 79 }) (kP D (tysC cA) A [.int a1, .int a2] (CW D A x hs cA K)) (va_Qq post (fun u t => CW D A x hs cA u t.heap) A) 1 7 A := by
  refine kmet_q (BB := (fun u H => CW D A x hs cA u H)) (lv := [(0, .int a1), (1, .int a2)]) (by decide +kernel) rfl (Nat.le_of_ble_eq_true rfl) ?_
  intro p e s m args below meth c Q ls X hin hC hl hE
  have hx := X.x
  have hb := X.b
  have hS : va_S A s.heap s.heap [] := va_S.rf
  unfold w_C_newObject at hq
  refine lv_iload_n hx hb d_C_newObject_0 rfl (lv_at hl 0 rfl) ?_
  by_cases g_1 : a1 = (2 : Int32)
  · have hq := hq.1 g_1
    refine lv_tableIn (off := 35) (tgt := 36) hx hb d_C_newObject_1 (by rw [g_1]; decide) (by rw [g_1]; decide) (by rw [g_1]; rfl) (by decide) ?_
    refine lv_iconst (v := (4 : Int32)) hx hb d_C_newObject_36 (by decide) ?_
    refine lv_iload_n hx hb d_C_newObject_37 rfl (lv_at hl 1 rfl) ?_
    refine lv_i2l hx hb d_C_newObject_38 rfl ?_
    refine kcq (BB := fun u H => CW D A x hs cA u H) (krS X hl.1 hS hC (c_C_boxOfWhole l D A cA x hs K (4 : Int32) (a2).toInt64 _ hq) ki_C_boxOfWhole wd_59 wd_60 ⟨rfl, rfl, Nat.le_of_ble_eq_true rfl, Nat.le_of_ble_eq_true rfl⟩ rfl rfl (Nat.le_of_ble_eq_true rfl) d_C_newObject_39 ⟨Nat.le_of_ble_eq_true rfl, Nat.le_of_ble_eq_true rfl⟩) hS (fun r39_2 K39_2 H locs hq hC hS => ?_)
    exact hE r39_2 K39_2 _ _ _ _ _ ls hq hC hS (Nat.le_of_ble_eq_true rfl) (Nat.le_of_ble_eq_true rfl) d_C_newObject_42
  · have hq := hq.2 g_1
    by_cases g_3 : a1 = (3 : Int32)
    · have hq := hq.1 g_3
      refine lv_tableIn (off := 42) (tgt := 43) hx hb d_C_newObject_1 (by rw [g_3]; decide) (by rw [g_3]; decide) (by rw [g_3]; rfl) (by decide) ?_
      refine ki_new_T X hC hS (Nat.le_of_ble_eq_true rfl) (Nat.le_of_ble_eq_true rfl) d_C_newObject_43 (fun q43_4 H h_q43_4 hC hS => ?_)
      have hq := hq q43_4 h_q43_4
      refine lv_dup hx hb d_C_newObject_46 rfl ?_
      refine lv_iconst (v := (0 : Int32)) hx hb d_C_newObject_47 (by decide) ?_
      refine kcv (BB := fun u H => CW D A x hs cA u H) (krI (b := q43_4) X hl.1 hS hC (c_T_init l D A cA x hs (kNew K q43_4 (ob0 4)) q43_4 (0 : Int32) _ hq) ki_T_init wd_44 wd_45 rfl ⟨rfl, rfl, Nat.le_of_ble_eq_true rfl, Nat.le_of_ble_eq_true rfl⟩ rfl rfl (Nat.le_of_ble_eq_true rfl) d_C_newObject_48 ⟨Nat.le_of_ble_eq_true rfl, Nat.le_of_ble_eq_true rfl⟩) hS (fun K48_5 H locs hq hC hS => ?_)
      exact hE (some q43_4) K48_5 _ _ _ _ _ ls hq hC hS (Nat.le_of_ble_eq_true rfl) (Nat.le_of_ble_eq_true rfl) d_C_newObject_51
    · have hq := hq.2 g_3
      by_cases g_6 : a1 = (4 : Int32)
      · have hq := hq.1 g_6
        refine lv_tableIn (off := 69) (tgt := 70) hx hb d_C_newObject_1 (by rw [g_6]; decide) (by rw [g_6]; decide) (by rw [g_6]; rfl) (by decide) ?_
        refine ki_new_P X hC hS (Nat.le_of_ble_eq_true rfl) (Nat.le_of_ble_eq_true rfl) d_C_newObject_70 (fun q70_7 H h_q70_7 hC hS => ?_)
        have hq := hq q70_7 h_q70_7
        refine lv_dup hx hb d_C_newObject_73 rfl ?_
        refine kcv (BB := fun u H => CW D A x hs cA u H) (krIN (b := q70_7) X hl.1 hS hC (c_P_init l D A cA x hs (kNew K q70_7 (ob0 2)) q70_7 _ hq) ki_P_init (X.N.2.1 ("MemberInspection", 178, y_P_init, "MemberInspection") (by decide +kernel)) wd_153 rfl ⟨rfl, rfl, Nat.le_of_ble_eq_true rfl, Nat.le_of_ble_eq_true rfl⟩ rfl rfl (Nat.le_of_ble_eq_true rfl) d_C_newObject_74 ⟨Nat.le_of_ble_eq_true rfl, Nat.le_of_ble_eq_true rfl⟩) hS (fun K74_8 H locs hq hC hS => ?_)
        exact hE (some q70_7) K74_8 _ _ _ _ _ ls hq hC hS (Nat.le_of_ble_eq_true rfl) (Nat.le_of_ble_eq_true rfl) d_C_newObject_77
      · have hq := hq.2 g_6
        by_cases g_9 : a1 = (5 : Int32)
        · have hq := hq.1 g_9
          refine lv_tableIn (off := 51) (tgt := 52) hx hb d_C_newObject_1 (by rw [g_9]; decide) (by rw [g_9]; decide) (by rw [g_9]; rfl) (by decide) ?_
          refine ki_new_I X hC hS (Nat.le_of_ble_eq_true rfl) (Nat.le_of_ble_eq_true rfl) d_C_newObject_52 (fun q52_10 H h_q52_10 hC hS => ?_)
          have hq := hq q52_10 h_q52_10
          refine lv_dup hx hb d_C_newObject_55 rfl ?_
          refine lv_iload_n hx hb d_C_newObject_56 rfl (lv_at hl 1 rfl) ?_
          refine kcv (BB := fun u H => CW D A x hs cA u H) (krI (b := q52_10) X hl.1 hS hC (c_I_init l D A cA x hs (kNew K q52_10 (ob0 1)) q52_10 a2 _ hq) ki_I_init wd_108 wd_109 rfl ⟨rfl, rfl, Nat.le_of_ble_eq_true rfl, Nat.le_of_ble_eq_true rfl⟩ rfl rfl (Nat.le_of_ble_eq_true rfl) d_C_newObject_57 ⟨Nat.le_of_ble_eq_true rfl, Nat.le_of_ble_eq_true rfl⟩) hS (fun K57_11 H locs hq hC hS => ?_)
          exact hE (some q52_10) K57_11 _ _ _ _ _ ls hq hC hS (Nat.le_of_ble_eq_true rfl) (Nat.le_of_ble_eq_true rfl) d_C_newObject_60
        · have hq := hq.2 g_9
          by_cases g_12 : a1 = (6 : Int32)
          · have hq := hq.1 g_12
            refine lv_tableIn (off := 60) (tgt := 61) hx hb d_C_newObject_1 (by rw [g_12]; decide) (by rw [g_12]; decide) (by rw [g_12]; rfl) (by decide) ?_
            refine ki_new_S X hC hS (Nat.le_of_ble_eq_true rfl) (Nat.le_of_ble_eq_true rfl) d_C_newObject_61 (fun q61_13 H h_q61_13 hC hS => ?_)
            have hq := hq q61_13 h_q61_13
            refine lv_dup hx hb d_C_newObject_64 rfl ?_
            refine lv_iload_n hx hb d_C_newObject_65 rfl (lv_at hl 1 rfl) ?_
            refine kcv (BB := fun u H => CW D A x hs cA u H) (krI (b := q61_13) X hl.1 hS hC (c_S_init l D A cA x hs (kNew K q61_13 (ob0 3)) q61_13 a2 _ hq) ki_S_init wd_136 wd_137 rfl ⟨rfl, rfl, Nat.le_of_ble_eq_true rfl, Nat.le_of_ble_eq_true rfl⟩ rfl rfl (Nat.le_of_ble_eq_true rfl) d_C_newObject_66 ⟨Nat.le_of_ble_eq_true rfl, Nat.le_of_ble_eq_true rfl⟩) hS (fun K66_14 H locs hq hC hS => ?_)
            exact hE (some q61_13) K66_14 _ _ _ _ _ ls hq hC hS (Nat.le_of_ble_eq_true rfl) (Nat.le_of_ble_eq_true rfl) d_C_newObject_69
          · have hq := hq.2 g_12
            refine lv_tableOut (tgt := 70) hx hb d_C_newObject_1 (by have z0 := lv_neT (a := 2) g_1 rfl; have z1 := lv_neT (a := 3) g_3 rfl; have z2 := lv_neT (a := 4) g_6 rfl; have z3 := lv_neT (a := 5) g_9 rfl; have z4 := lv_neT (a := 6) g_12 rfl; omega) (by decide) ?_
            refine ki_new_P X hC hS (Nat.le_of_ble_eq_true rfl) (Nat.le_of_ble_eq_true rfl) d_C_newObject_70 (fun q70_15 H h_q70_15 hC hS => ?_)
            have hq := hq q70_15 h_q70_15
            refine lv_dup hx hb d_C_newObject_73 rfl ?_
            refine kcv (BB := fun u H => CW D A x hs cA u H) (krIN (b := q70_15) X hl.1 hS hC (c_P_init l D A cA x hs (kNew K q70_15 (ob0 2)) q70_15 _ hq) ki_P_init (X.N.2.1 ("MemberInspection", 178, y_P_init, "MemberInspection") (by decide +kernel)) wd_153 rfl ⟨rfl, rfl, Nat.le_of_ble_eq_true rfl, Nat.le_of_ble_eq_true rfl⟩ rfl rfl (Nat.le_of_ble_eq_true rfl) d_C_newObject_74 ⟨Nat.le_of_ble_eq_true rfl, Nat.le_of_ble_eq_true rfl⟩) hS (fun K74_16 H locs hq hC hS => ?_)
            exact hE (some q70_15) K74_16 _ _ _ _ _ ls hq hC hS (Nat.le_of_ble_eq_true rfl) (Nat.le_of_ble_eq_true rfl) d_C_newObject_77
def w_C_answer (K : KT) (a1 : Option Nat) (post : Int32 → KT → Prop) : Prop := (okR K a1) ∧ ((vp_in (8 : Int32) 9) ∧ (post (0 : Int32) (ksH K ((8 : Int32)).toNatClampNeg a1)))
set_option maxHeartbeats 8000000 in
set_option maxRecDepth 100000 in
theorem c_C_answer (l : Launch) (D : va_G) (A : Nat → Prop) (cA : ClassId) (x hs : Nat) (K : KT) (a1 : Option Nat) (post : Int32 → KT → Prop) (hq : w_C_answer K a1 post) : Met l y_C_answer (kw y_C_answer b_C_answer 2 (Option.some Jvm.ClassFile.FieldType.int)) ({ frames := 0, cells := 0, slots := 0, locals := 0 }) (kP D (tysC cA) A [.ref x, va_rf a1] (CW D A x hs cA K)) (va_Qi post (fun u t => CW D A x hs cA u t.heap) A) 0 0 A := by
  refine kmet_i (BB := (fun u H => CW D A x hs cA u H)) (lv := [(0, .ref x), (1, va_rf a1)]) (by decide +kernel) (by cases a1 <;> rfl) (by cases a1 <;> exact Nat.le_of_ble_eq_true rfl) ?_
  intro p e s m args below meth c Q ls X hin hC hl hE
  have hx := X.x
  have hb := X.b
  have hS : va_S A s.heap s.heap [] := va_S.rf
  unfold w_C_answer at hq
  refine lv_aload_n hx hb d_C_answer_0 rfl (lv_at hl 0 rfl) ?_
  refine kg_handles X hC d_C_answer_1 ?_
  refine lv_bipush (v := (8 : Int32)) hx hb d_C_answer_4 (by decide) ?_
  refine kr_aload_n (r := a1) hx hb d_C_answer_6 rfl (lv_at hl 1 rfl) ?_
  have hs_ := hq.1
  have hs2_ := hq.2.1
  have hq := hq.2.2
  refine kp_h (r := a1) X hC hS hs_ hs2_ d_C_answer_7 (fun H locs hC hS => ?_)
  refine lv_iconst (v := (0 : Int32)) hx hb d_C_answer_8 (by decide) ?_
  exact hE (0 : Int32) (ksH K ((8 : Int32)).toNatClampNeg a1) _ _ _ _ _ ls hq hC hS (Nat.le_of_ble_eq_true rfl) (Nat.le_of_ble_eq_true rfl) d_C_answer_9
def w_C_hasIntConstructor (a1 : Int32) (post : Int32 → Prop) : Prop := ((a1 = (2 : Int32)) → (z01 (1 : Int32) ∧ post (1 : Int32))) ∧ (¬ (a1 = (2 : Int32)) → (((a1 = (5 : Int32)) → (z01 (1 : Int32) ∧ post (1 : Int32))) ∧ (¬ (a1 = (5 : Int32)) → (((a1 = (6 : Int32)) → (z01 (1 : Int32) ∧ post (1 : Int32))) ∧ (¬ (a1 = (6 : Int32)) → (((a1 = (7 : Int32)) → (z01 (1 : Int32) ∧ post (1 : Int32))) ∧ (¬ (a1 = (7 : Int32)) → (z01 (0 : Int32) ∧ post (0 : Int32)))))))))
set_option maxHeartbeats 8000000 in
set_option maxRecDepth 100000 in
theorem c_C_hasIntConstructor (l : Launch) (D : va_G) (tys : List (ClassId × FieldType)) (A : Nat → Prop) (B : Heap → Prop) (a1 : Int32) (post : Int32 → Prop) (hq : w_C_hasIntConstructor a1 post) : Met l y_C_hasIntConstructor (kw y_C_hasIntConstructor b_C_hasIntConstructor 1 (Option.some Jvm.ClassFile.FieldType.boolean)) ({ frames := 0, cells := 0, slots := 0, locals := 0 }) (kP D tys A [.int a1] B) (va_Qi (fun r (_ : Unit) => post r) (fun _ t => B t.heap) A) 0 0 A := by
  refine kmet_z (BB := (fun (_ : Unit) H => B H)) (lv := [(0, .int a1)]) (by decide +kernel) rfl (Nat.le_of_ble_eq_true rfl) ?_
  intro p e s m args below meth c Q ls X hin hC hl hE
  have hx := X.x
  have hb := X.b
  have hS : va_S A s.heap s.heap [] := va_S.rf
  unfold w_C_hasIntConstructor at hq
  refine lv_iload_n hx hb d_C_hasIntConstructor_0 rfl (lv_at hl 0 rfl) ?_
  refine lv_iconst (v := (2 : Int32)) hx hb d_C_hasIntConstructor_1 (by decide) ?_
  refine lv_icmp_eq (tgt := 22) hx hb d_C_hasIntConstructor_2 (by decide) (fun c_4 => ?_) (fun c_4 => ?_)
  · have hq := hq.1 c_4
    refine lv_iconst (v := (1 : Int32)) hx hb d_C_hasIntConstructor_22 (by decide) ?_
    refine lv_goto (tgt := 27) hx hb d_C_hasIntConstructor_23 (by decide) ?_
    exact hE (1 : Int32) () _ _ _ _ _ ls hq hC hS (Nat.le_of_ble_eq_true rfl) (Nat.le_of_ble_eq_true rfl) d_C_hasIntConstructor_27
  · have hq := hq.2 c_4
    refine lv_iload_n hx hb d_C_hasIntConstructor_5 rfl (lv_at hl 0 rfl) ?_
    refine lv_iconst (v := (5 : Int32)) hx hb d_C_hasIntConstructor_6 (by decide) ?_
    refine lv_icmp_eq (tgt := 22) hx hb d_C_hasIntConstructor_7 (by decide) (fun c_3 => ?_) (fun c_3 => ?_)
    · have hq := hq.1 c_3
      refine lv_iconst (v := (1 : Int32)) hx hb d_C_hasIntConstructor_22 (by decide) ?_
      refine lv_goto (tgt := 27) hx hb d_C_hasIntConstructor_23 (by decide) ?_
      exact hE (1 : Int32) () _ _ _ _ _ ls hq hC hS (Nat.le_of_ble_eq_true rfl) (Nat.le_of_ble_eq_true rfl) d_C_hasIntConstructor_27
    · have hq := hq.2 c_3
      refine lv_iload_n hx hb d_C_hasIntConstructor_10 rfl (lv_at hl 0 rfl) ?_
      refine lv_bipush (v := (6 : Int32)) hx hb d_C_hasIntConstructor_11 (by decide) ?_
      refine lv_icmp_eq (tgt := 22) hx hb d_C_hasIntConstructor_13 (by decide) (fun c_2 => ?_) (fun c_2 => ?_)
      · have hq := hq.1 c_2
        refine lv_iconst (v := (1 : Int32)) hx hb d_C_hasIntConstructor_22 (by decide) ?_
        refine lv_goto (tgt := 27) hx hb d_C_hasIntConstructor_23 (by decide) ?_
        exact hE (1 : Int32) () _ _ _ _ _ ls hq hC hS (Nat.le_of_ble_eq_true rfl) (Nat.le_of_ble_eq_true rfl) d_C_hasIntConstructor_27
      · have hq := hq.2 c_2
        refine lv_iload_n hx hb d_C_hasIntConstructor_16 rfl (lv_at hl 0 rfl) ?_
        refine lv_bipush (v := (7 : Int32)) hx hb d_C_hasIntConstructor_17 (by decide) ?_
        refine lv_icmp_ne (tgt := 26) hx hb d_C_hasIntConstructor_19 (by decide) (fun c_1 => ?_) (fun c_1 => ?_)
        · have hq := hq.2 c_1
          refine lv_iconst (v := (0 : Int32)) hx hb d_C_hasIntConstructor_26 (by decide) ?_
          exact hE (0 : Int32) () _ _ _ _ _ ls hq hC hS (Nat.le_of_ble_eq_true rfl) (Nat.le_of_ble_eq_true rfl) d_C_hasIntConstructor_27
        · have hq := hq.1 c_1
          refine lv_iconst (v := (1 : Int32)) hx hb d_C_hasIntConstructor_22 (by decide) ?_
          refine lv_goto (tgt := 27) hx hb d_C_hasIntConstructor_23 (by decide) ?_
          exact hE (1 : Int32) () _ _ _ _ _ ls hq hC hS (Nat.le_of_ble_eq_true rfl) (Nat.le_of_ble_eq_true rfl) d_C_hasIntConstructor_27
def w_C_make (K : KT) (a1 : Int32) (a2 : Int32) (a3 : Int32) (post : Int32 → KT → Prop) : Prop := w_C_isBelow a1 (8 : Int32) (fun r3_1 => ((r3_1 = (0 : Int32)) → (post (-1 : Int32) K)) ∧ (¬ (r3_1 = (0 : Int32)) → (((a2 = (0 : Int32)) → (w_C_hasEmptyConstructor a1 (fun r28_2 => ((r28_2 = (0 : Int32)) → (post (5 : Int32) (ksLa K (0 : Int64)))) ∧ (¬ (r28_2 = (0 : Int32)) → ((vp_in a1 sf_ABSTRACT_TYPES.length) ∧ ((((sf_ABSTRACT_TYPES.getD (a1).toNatClampNeg 0) = (1 : Int32)) → (post (6 : Int32) (ksLa K (0 : Int64)))) ∧ (¬ ((sf_ABSTRACT_TYPES.getD (a1).toNatClampNeg 0) = (1 : Int32)) → (((a2 = (0 : Int32)) → (w_C_newObject (ksLa K (0 : Int64)) a1 (0 : Int32) (fun r63_4 K63_4 => w_C_answer K63_4 r63_4 (fun r66_5 K66_5 => post r66_5 K66_5)))) ∧ (¬ (a2 = (0 : Int32)) → (w_C_newObject (ksLa K (0 : Int64)) a1 a3 (fun r63_6 K63_6 => w_C_answer K63_6 r63_6 (fun r66_7 K66_7 => post r66_7 K66_7)))))))))))) ∧ (¬ (a2 = (0 : Int32)) → (w_C_hasIntConstructor a1 (fun r21_11 => ((r21_11 = (0 : Int32)) → (post (5 : Int32) (ksLa K (0 : Int64)))) ∧ (¬ (r21_11 = (0 : Int32)) → ((vp_in a1 sf_ABSTRACT_TYPES.length) ∧ ((((sf_ABSTRACT_TYPES.getD (a1).toNatClampNeg 0) = (1 : Int32)) → (post (6 : Int32) (ksLa K (0 : Int64)))) ∧ (¬ ((sf_ABSTRACT_TYPES.getD (a1).toNatClampNeg 0) = (1 : Int32)) → (((a2 = (0 : Int32)) → (w_C_newObject (ksLa K (0 : Int64)) a1 (0 : Int32) (fun r63_13 K63_13 => w_C_answer K63_13 r63_13 (fun r66_14 K66_14 => post r66_14 K66_14)))) ∧ (¬ (a2 = (0 : Int32)) → (w_C_newObject (ksLa K (0 : Int64)) a1 a3 (fun r63_15 K63_15 => w_C_answer K63_15 r63_15 (fun r66_16 K66_16 => post r66_16 K66_16)))))))))))))))
set_option maxHeartbeats 8000000 in
set_option maxRecDepth 100000 in
theorem c_C_make (l : Launch) (D : va_G) (A : Nat → Prop) (cA : ClassId) (x hs : Nat) (K : KT) (a1 : Int32) (a2 : Int32) (a3 : Int32) (post : Int32 → KT → Prop) (hq : w_C_make K a1 a2 a3 post) : Met l y_C_make (kw y_C_make b_C_make 5 (Option.some Jvm.ClassFile.FieldType.int)) ({ frames := 5, cells := 1, slots := 7, locals := 100 }) (kP D (tysC cA) A [.ref x, .int a1, .int a2, .int a3] (CW D A x hs cA K)) (va_Qi post (fun u t => CW D A x hs cA u t.heap) A) 1 7 A := by
  refine kmet_i (BB := (fun u H => CW D A x hs cA u H)) (lv := [(0, .ref x), (1, .int a1), (2, .int a2), (3, .int a3)]) (by decide +kernel) rfl (Nat.le_of_ble_eq_true rfl) ?_
  intro p e s m args below meth c Q ls X hin hC hl hE
  have hx := X.x
  have hb := X.b
  have hS : va_S A s.heap s.heap [] := va_S.rf
  unfold w_C_make at hq
  refine lv_iload_n hx hb d_C_make_0 rfl (lv_at hl 1 rfl) ?_
  refine lv_bipush (v := (8 : Int32)) hx hb d_C_make_1 (by decide) ?_
  refine kci (BB := fun (_ : Unit) H => CW D A x hs cA K H) (krS X hl.1 hS hC (c_C_isBelow l D (tysC cA) A _ a1 (8 : Int32) _ hq) ki_C_isBelow wd_35 wd_36 ⟨rfl, rfl, Nat.le_of_ble_eq_true rfl, Nat.le_of_ble_eq_true rfl⟩ rfl rfl (Nat.le_of_ble_eq_true rfl) d_C_make_3 ⟨Nat.le_of_ble_eq_true rfl, Nat.le_of_ble_eq_true rfl⟩) hS (fun r3_1 _u H locs hq hC hS => ?_)
  refine lv_if_ne (tgt := 11) hx hb d_C_make_6 (by decide) (fun c_21 => ?_) (fun c_21 => ?_)
  · have hq := hq.2 c_21
    refine lv_aload_n hx hb d_C_make_11 rfl (lv_at hl 0 rfl) ?_
    refine lv_lconst (v := (0 : Int64)) hx hb d_C_make_12 (by decide) ?_
    refine kp_lastTold X hC hS d_C_make_13 (fun H locs hC hS => ?_)
    refine lv_iload_n hx hb d_C_make_16 rfl (lv_at hl 2 rfl) ?_
    refine lv_if_eq (tgt := 27) hx hb d_C_make_17 (by decide) (fun c_20 => ?_) (fun c_20 => ?_)
    · have hq := hq.1 c_20
      refine lv_iload_n hx hb d_C_make_27 rfl (lv_at hl 1 rfl) ?_
      refine kci (BB := fun (_ : Unit) H => CW D A x hs cA (ksLa K (0 : Int64)) H) (krS X hl.1 hS hC (c_C_hasEmptyConstructor l D (tysC cA) A _ a1 _ hq) ki_C_hasEmptyConstructor wd_98 wd_99 ⟨rfl, rfl, Nat.le_of_ble_eq_true rfl, Nat.le_of_ble_eq_true rfl⟩ rfl rfl (Nat.le_of_ble_eq_true rfl) d_C_make_28 ⟨Nat.le_of_ble_eq_true rfl, Nat.le_of_ble_eq_true rfl⟩) hS (fun r28_2 _u H locs hq hC hS => ?_)
      refine lv_istore (lv' := [(4, .int r28_2), (0, .ref x), (1, .int a1), (2, .int a2), (3, .int a3)]) hx hb d_C_make_31 hl (by decide) rfl (fun ls hl => ?_)
      refine lv_iload hx hb d_C_make_33 (lv_at hl 0 rfl) ?_
      refine lv_if_ne (tgt := 40) hx hb d_C_make_35 (by decide) (fun c_10 => ?_) (fun c_10 => ?_)
      · have hq := hq.2 c_10
        refine kgs X hS (nm := "ABSTRACT_TYPES") (lst := sf_ABSTRACT_TYPES) (by decide +kernel) wd_101 d_C_make_40 (fun t40_3 hT40_3 => ?_)
        refine lv_iload_n hx hb d_C_make_43 rfl (lv_at hl 2 rfl) ?_
        have hs_ := hq.1
        have hq := hq.2
        refine ksl X hS hT40_3 hs_ d_C_make_44 ?_
        refine lv_iconst (v := (1 : Int32)) hx hb d_C_make_45 (by decide) ?_
        refine lv_icmp_ne (tgt := 52) hx hb d_C_make_46 (by decide) (fun c_9 => ?_) (fun c_9 => ?_)
        · have hq := hq.2 c_9
          refine lv_aload_n hx hb d_C_make_52 rfl (lv_at hl 1 rfl) ?_
          refine lv_iload_n hx hb d_C_make_53 rfl (lv_at hl 2 rfl) ?_
          refine lv_iload_n hx hb d_C_make_54 rfl (lv_at hl 3 rfl) ?_
          refine lv_if_eq (tgt := 62) hx hb d_C_make_55 (by decide) (fun c_8 => ?_) (fun c_8 => ?_)
          · have hq := hq.1 c_8
            refine lv_iconst (v := (0 : Int32)) hx hb d_C_make_62 (by decide) ?_
            refine kcq (BB := fun u H => CW D A x hs cA u H) (krS X hl.1 hS hC (c_C_newObject l D A cA x hs (ksLa K (0 : Int64)) a1 (0 : Int32) _ hq) ki_C_newObject wd_103 wd_104 ⟨rfl, rfl, Nat.le_of_ble_eq_true rfl, Nat.le_of_ble_eq_true rfl⟩ rfl rfl (Nat.le_of_ble_eq_true rfl) d_C_make_63 ⟨Nat.le_of_ble_eq_true rfl, Nat.le_of_ble_eq_true rfl⟩) hS (fun r63_4 K63_4 H locs hq hC hS => ?_)
            refine kci (BB := fun u H => CW D A x hs cA u H) (krV (b := x) X hl.1 hS hC (c_C_answer l D A cA x hs K63_4 r63_4 _ hq) ki_C_answer wd_157 wd_159 ws_C_answer (krecX X hC) ⟨rfl, rfl, Nat.le_of_ble_eq_true rfl, Nat.le_of_ble_eq_true rfl⟩ rfl rfl (Nat.le_of_ble_eq_true rfl) d_C_make_66 ⟨Nat.le_of_ble_eq_true rfl, Nat.le_of_ble_eq_true rfl⟩) hS (fun r66_5 K66_5 H locs hq hC hS => ?_)
            exact hE r66_5 K66_5 _ _ _ _ _ ls hq hC hS (Nat.le_of_ble_eq_true rfl) (Nat.le_of_ble_eq_true rfl) d_C_make_69
          · have hq := hq.2 c_8
            refine lv_iload_n hx hb d_C_make_58 rfl (lv_at hl 4 rfl) ?_
            refine lv_goto (tgt := 63) hx hb d_C_make_59 (by decide) ?_
            refine kcq (BB := fun u H => CW D A x hs cA u H) (krS X hl.1 hS hC (c_C_newObject l D A cA x hs (ksLa K (0 : Int64)) a1 a3 _ hq) ki_C_newObject wd_103 wd_104 ⟨rfl, rfl, Nat.le_of_ble_eq_true rfl, Nat.le_of_ble_eq_true rfl⟩ rfl rfl (Nat.le_of_ble_eq_true rfl) d_C_make_63 ⟨Nat.le_of_ble_eq_true rfl, Nat.le_of_ble_eq_true rfl⟩) hS (fun r63_6 K63_6 H locs hq hC hS => ?_)
            refine kci (BB := fun u H => CW D A x hs cA u H) (krV (b := x) X hl.1 hS hC (c_C_answer l D A cA x hs K63_6 r63_6 _ hq) ki_C_answer wd_157 wd_159 ws_C_answer (krecX X hC) ⟨rfl, rfl, Nat.le_of_ble_eq_true rfl, Nat.le_of_ble_eq_true rfl⟩ rfl rfl (Nat.le_of_ble_eq_true rfl) d_C_make_66 ⟨Nat.le_of_ble_eq_true rfl, Nat.le_of_ble_eq_true rfl⟩) hS (fun r66_7 K66_7 H locs hq hC hS => ?_)
            exact hE r66_7 K66_7 _ _ _ _ _ ls hq hC hS (Nat.le_of_ble_eq_true rfl) (Nat.le_of_ble_eq_true rfl) d_C_make_69
        · have hq := hq.1 c_9
          refine lv_bipush (v := (6 : Int32)) hx hb d_C_make_49 (by decide) ?_
          exact hE (6 : Int32) (ksLa K (0 : Int64)) _ _ _ _ _ ls hq hC hS (Nat.le_of_ble_eq_true rfl) (Nat.le_of_ble_eq_true rfl) d_C_make_51
      · have hq := hq.1 c_10
        refine lv_iconst (v := (5 : Int32)) hx hb d_C_make_38 (by decide) ?_
        exact hE (5 : Int32) (ksLa K (0 : Int64)) _ _ _ _ _ ls hq hC hS (Nat.le_of_ble_eq_true rfl) (Nat.le_of_ble_eq_true rfl) d_C_make_39
    · have hq := hq.2 c_20
      refine lv_iload_n hx hb d_C_make_20 rfl (lv_at hl 1 rfl) ?_
      refine kci (BB := fun (_ : Unit) H => CW D A x hs cA (ksLa K (0 : Int64)) H) (krS X hl.1 hS hC (c_C_hasIntConstructor l D (tysC cA) A _ a1 _ hq) ki_C_hasIntConstructor wd_95 wd_96 ⟨rfl, rfl, Nat.le_of_ble_eq_true rfl, Nat.le_of_ble_eq_true rfl⟩ rfl rfl (Nat.le_of_ble_eq_true rfl) d_C_make_21 ⟨Nat.le_of_ble_eq_true rfl, Nat.le_of_ble_eq_true rfl⟩) hS (fun r21_11 _u H locs hq hC hS => ?_)
      refine lv_goto (tgt := 31) hx hb d_C_make_24 (by decide) ?_
      refine lv_istore (lv' := [(4, .int r21_11), (0, .ref x), (1, .int a1), (2, .int a2), (3, .int a3)]) hx hb d_C_make_31 hl (by decide) rfl (fun ls hl => ?_)
      refine lv_iload hx hb d_C_make_33 (lv_at hl 0 rfl) ?_
      refine lv_if_ne (tgt := 40) hx hb d_C_make_35 (by decide) (fun c_19 => ?_) (fun c_19 => ?_)
      · have hq := hq.2 c_19
        refine kgs X hS (nm := "ABSTRACT_TYPES") (lst := sf_ABSTRACT_TYPES) (by decide +kernel) wd_101 d_C_make_40 (fun t40_12 hT40_12 => ?_)
        refine lv_iload_n hx hb d_C_make_43 rfl (lv_at hl 2 rfl) ?_
        have hs_ := hq.1
        have hq := hq.2
        refine ksl X hS hT40_12 hs_ d_C_make_44 ?_
        refine lv_iconst (v := (1 : Int32)) hx hb d_C_make_45 (by decide) ?_
        refine lv_icmp_ne (tgt := 52) hx hb d_C_make_46 (by decide) (fun c_18 => ?_) (fun c_18 => ?_)
        · have hq := hq.2 c_18
          refine lv_aload_n hx hb d_C_make_52 rfl (lv_at hl 1 rfl) ?_
          refine lv_iload_n hx hb d_C_make_53 rfl (lv_at hl 2 rfl) ?_
          refine lv_iload_n hx hb d_C_make_54 rfl (lv_at hl 3 rfl) ?_
          refine lv_if_eq (tgt := 62) hx hb d_C_make_55 (by decide) (fun c_17 => ?_) (fun c_17 => ?_)
          · have hq := hq.1 c_17
            refine lv_iconst (v := (0 : Int32)) hx hb d_C_make_62 (by decide) ?_
            refine kcq (BB := fun u H => CW D A x hs cA u H) (krS X hl.1 hS hC (c_C_newObject l D A cA x hs (ksLa K (0 : Int64)) a1 (0 : Int32) _ hq) ki_C_newObject wd_103 wd_104 ⟨rfl, rfl, Nat.le_of_ble_eq_true rfl, Nat.le_of_ble_eq_true rfl⟩ rfl rfl (Nat.le_of_ble_eq_true rfl) d_C_make_63 ⟨Nat.le_of_ble_eq_true rfl, Nat.le_of_ble_eq_true rfl⟩) hS (fun r63_13 K63_13 H locs hq hC hS => ?_)
            refine kci (BB := fun u H => CW D A x hs cA u H) (krV (b := x) X hl.1 hS hC (c_C_answer l D A cA x hs K63_13 r63_13 _ hq) ki_C_answer wd_157 wd_159 ws_C_answer (krecX X hC) ⟨rfl, rfl, Nat.le_of_ble_eq_true rfl, Nat.le_of_ble_eq_true rfl⟩ rfl rfl (Nat.le_of_ble_eq_true rfl) d_C_make_66 ⟨Nat.le_of_ble_eq_true rfl, Nat.le_of_ble_eq_true rfl⟩) hS (fun r66_14 K66_14 H locs hq hC hS => ?_)
            exact hE r66_14 K66_14 _ _ _ _ _ ls hq hC hS (Nat.le_of_ble_eq_true rfl) (Nat.le_of_ble_eq_true rfl) d_C_make_69
          · have hq := hq.2 c_17
            refine lv_iload_n hx hb d_C_make_58 rfl (lv_at hl 4 rfl) ?_
            refine lv_goto (tgt := 63) hx hb d_C_make_59 (by decide) ?_
            refine kcq (BB := fun u H => CW D A x hs cA u H) (krS X hl.1 hS hC (c_C_newObject l D A cA x hs (ksLa K (0 : Int64)) a1 a3 _ hq) ki_C_newObject wd_103 wd_104 ⟨rfl, rfl, Nat.le_of_ble_eq_true rfl, Nat.le_of_ble_eq_true rfl⟩ rfl rfl (Nat.le_of_ble_eq_true rfl) d_C_make_63 ⟨Nat.le_of_ble_eq_true rfl, Nat.le_of_ble_eq_true rfl⟩) hS (fun r63_15 K63_15 H locs hq hC hS => ?_)
            refine kci (BB := fun u H => CW D A x hs cA u H) (krV (b := x) X hl.1 hS hC (c_C_answer l D A cA x hs K63_15 r63_15 _ hq) ki_C_answer wd_157 wd_159 ws_C_answer (krecX X hC) ⟨rfl, rfl, Nat.le_of_ble_eq_true rfl, Nat.le_of_ble_eq_true rfl⟩ rfl rfl (Nat.le_of_ble_eq_true rfl) d_C_make_66 ⟨Nat.le_of_ble_eq_true rfl, Nat.le_of_ble_eq_true rfl⟩) hS (fun r66_16 K66_16 H locs hq hC hS => ?_)
            exact hE r66_16 K66_16 _ _ _ _ _ ls hq hC hS (Nat.le_of_ble_eq_true rfl) (Nat.le_of_ble_eq_true rfl) d_C_make_69
        · have hq := hq.1 c_18
          refine lv_bipush (v := (6 : Int32)) hx hb d_C_make_49 (by decide) ?_
          exact hE (6 : Int32) (ksLa K (0 : Int64)) _ _ _ _ _ ls hq hC hS (Nat.le_of_ble_eq_true rfl) (Nat.le_of_ble_eq_true rfl) d_C_make_51
      · have hq := hq.1 c_19
        refine lv_iconst (v := (5 : Int32)) hx hb d_C_make_38 (by decide) ?_
        exact hE (5 : Int32) (ksLa K (0 : Int64)) _ _ _ _ _ ls hq hC hS (Nat.le_of_ble_eq_true rfl) (Nat.le_of_ble_eq_true rfl) d_C_make_39
  · have hq := hq.1 c_21
    refine lv_iconst (v := (-1 : Int32)) hx hb d_C_make_9 (by decide) ?_
    exact hE (-1 : Int32) K _ _ _ _ _ ls hq hC hS (Nat.le_of_ble_eq_true rfl) (Nat.le_of_ble_eq_true rfl) d_C_make_10
def w_C_itemRefusal (K : KT) (a1 : Option Nat) (post : Int32 → Prop) : Prop := ((a1 = none) → (post (1 : Int32))) ∧ (¬ (a1 = none) → ((okR K a1) ∧ ((((bI (ktg K a1 == 1 || ktg K a1 == 3)) = (0 : Int32)) → (post (2 : Int32))) ∧ (¬ ((bI (ktg K a1 == 1 || ktg K a1 == 3)) = (0 : Int32)) → (post (0 : Int32))))))
set_option maxHeartbeats 8000000 in
set_option maxRecDepth 100000 in
theorem c_C_itemRefusal (l : Launch) (D : va_G) (A : Nat → Prop) (cA : ClassId) (x hs : Nat) (K : KT) (a1 : Option Nat) (post : Int32 → Prop) (hq : w_C_itemRefusal K a1 post) : Met l y_C_itemRefusal (kw y_C_itemRefusal b_C_itemRefusal 1 (Option.some Jvm.ClassFile.FieldType.int)) ({ frames := 0, cells := 0, slots := 0, locals := 0 }) (kP D (tysC cA) A [va_rf a1] (CW D A x hs cA K)) (va_Qi (fun r (_ : Unit) => post r) (fun _ t => CW D A x hs cA K t.heap) A) 0 0 A := by
  refine kmet_i (BB := (fun (_ : Unit) H => CW D A x hs cA K H)) (lv := [(0, va_rf a1)]) (by decide +kernel) (by cases a1 <;> rfl) (by cases a1 <;> exact Nat.le_of_ble_eq_true rfl) ?_
  intro p e s m args below meth c Q ls X hin hC hl hE
  have hx := X.x
  have hb := X.b
  have hS : va_S A s.heap s.heap [] := va_S.rf
  unfold w_C_itemRefusal at hq
  refine kr_aload_n (r := a1) hx hb d_C_itemRefusal_0 rfl (lv_at hl 0 rfl) ?_
  refine kr_ifnonnull (r := a1) (tgt := 6) hx hb d_C_itemRefusal_1 (by decide) (fun c_2 => ?_) (fun c_2 => ?_)
  · have hq := hq.2 c_2
    refine kr_aload_n (r := a1) hx hb d_C_itemRefusal_6 rfl (lv_at hl 0 rfl) ?_
    have hs_ := hq.1
    have hq := hq.2
    refine ki_inst_I (r := a1) X hC hs_ d_C_itemRefusal_7 ?_
    refine lv_if_eq (tgt := 17) hx hb d_C_itemRefusal_10 (by decide) (fun c_1 => ?_) (fun c_1 => ?_)
    · have hq := hq.1 c_1
      refine lv_iconst (v := (2 : Int32)) hx hb d_C_itemRefusal_17 (by decide) ?_
      exact hE (2 : Int32) () _ _ _ _ _ ls hq hC hS (Nat.le_of_ble_eq_true rfl) (Nat.le_of_ble_eq_true rfl) d_C_itemRefusal_18
    · have hq := hq.2 c_1
      refine lv_iconst (v := (0 : Int32)) hx hb d_C_itemRefusal_13 (by decide) ?_
      refine lv_goto (tgt := 18) hx hb d_C_itemRefusal_14 (by decide) ?_
      exact hE (0 : Int32) () _ _ _ _ _ ls hq hC hS (Nat.le_of_ble_eq_true rfl) (Nat.le_of_ble_eq_true rfl) d_C_itemRefusal_18
  · have hq := hq.1 c_2
    refine lv_iconst (v := (1 : Int32)) hx hb d_C_itemRefusal_4 (by decide) ?_
    exact hE (1 : Int32) () _ _ _ _ _ ls hq hC hS (Nat.le_of_ble_eq_true rfl) (Nat.le_of_ble_eq_true rfl) d_C_itemRefusal_5
def w_C_ownerRefusal (K : KT) (a1 : Option Nat) (a2 : Int32) (post : Int32 → Prop) : Prop := ((a2 = (7 : Int32)) → (post (0 : Int32))) ∧ (¬ (a2 = (7 : Int32)) → (w_C_itemRefusal K a1 (fun r9_1 => ((r9_1 = (0 : Int32)) → (((a2 = (8 : Int32)) → ((okR K a1) ∧ ((((bI (ktg K a1 == 3)) = (0 : Int32)) → (post (2 : Int32))) ∧ (¬ ((bI (ktg K a1 == 3)) = (0 : Int32)) → (post r9_1))))) ∧ (¬ (a2 = (8 : Int32)) → (post r9_1)))) ∧ (¬ (r9_1 = (0 : Int32)) → (post r9_1)))))
set_option maxHeartbeats 8000000 in
set_option maxRecDepth 100000 in
theorem c_C_ownerRefusal (l : Launch) (D : va_G) (A : Nat → Prop) (cA : ClassId) (x hs : Nat) (K : KT) (a1 : Option Nat) (a2 : Int32) (post : Int32 → Prop) (hq : w_C_ownerRefusal K a1 a2 post) : Met l y_C_ownerRefusal (kw y_C_ownerRefusal b_C_ownerRefusal 3 (Option.some Jvm.ClassFile.FieldType.int)) ({ frames := 1, cells := 0, slots := 0, locals := 20 }) (kP D (tysC cA) A [va_rf a1, .int a2] (CW D A x hs cA K)) (va_Qi (fun r (_ : Unit) => post r) (fun _ t => CW D A x hs cA K t.heap) A) 0 0 A := by
  refine kmet_i (BB := (fun (_ : Unit) H => CW D A x hs cA K H)) (lv := [(0, va_rf a1), (1, .int a2)]) (by decide +kernel) (by cases a1 <;> rfl) (by cases a1 <;> exact Nat.le_of_ble_eq_true rfl) ?_
  intro p e s m args below meth c Q ls X hin hC hl hE
  have hx := X.x
  have hb := X.b
  have hS : va_S A s.heap s.heap [] := va_S.rf
  unfold w_C_ownerRefusal at hq
  refine lv_iload_n hx hb d_C_ownerRefusal_0 rfl (lv_at hl 1 rfl) ?_
  refine lv_bipush (v := (7 : Int32)) hx hb d_C_ownerRefusal_1 (by decide) ?_
  refine lv_icmp_ne (tgt := 8) hx hb d_C_ownerRefusal_3 (by decide) (fun c_5 => ?_) (fun c_5 => ?_)
  · have hq := hq.2 c_5
    refine kr_aload_n (r := a1) hx hb d_C_ownerRefusal_8 rfl (lv_at hl 0 rfl) ?_
    refine kci (BB := fun (_ : Unit) H => CW D A x hs cA K H) (krS X hl.1 hS hC (c_C_itemRefusal l D A cA x hs K a1 _ hq) ki_C_itemRefusal wd_168 wd_169 ⟨rfl, rfl, Nat.le_of_ble_eq_true rfl, Nat.le_of_ble_eq_true rfl⟩ rfl rfl (Nat.le_of_ble_eq_true rfl) d_C_ownerRefusal_9 ⟨Nat.le_of_ble_eq_true rfl, Nat.le_of_ble_eq_true rfl⟩) hS (fun r9_1 _u H locs hq hC hS => ?_)
    refine lv_istore_n (lv' := [(2, .int r9_1), (0, va_rf a1), (1, .int a2)]) hx hb d_C_ownerRefusal_12 rfl hl (by decide) (by cases a1 <;> rfl) (fun ls hl => ?_)
    refine lv_iload_n hx hb d_C_ownerRefusal_13 rfl (lv_at hl 0 rfl) ?_
    refine lv_if_ne (tgt := 32) hx hb d_C_ownerRefusal_14 (by decide) (fun c_4 => ?_) (fun c_4 => ?_)
    · have hq := hq.2 c_4
      refine lv_iload_n hx hb d_C_ownerRefusal_32 rfl (lv_at hl 0 rfl) ?_
      exact hE r9_1 () _ _ _ _ _ ls hq hC hS (Nat.le_of_ble_eq_true rfl) (Nat.le_of_ble_eq_true rfl) d_C_ownerRefusal_33
    · have hq := hq.1 c_4
      refine lv_iload_n hx hb d_C_ownerRefusal_17 rfl (lv_at hl 2 rfl) ?_
      refine lv_bipush (v := (8 : Int32)) hx hb d_C_ownerRefusal_18 (by decide) ?_
      refine lv_icmp_ne (tgt := 32) hx hb d_C_ownerRefusal_20 (by decide) (fun c_3 => ?_) (fun c_3 => ?_)
      · have hq := hq.2 c_3
        refine lv_iload_n hx hb d_C_ownerRefusal_32 rfl (lv_at hl 0 rfl) ?_
        exact hE r9_1 () _ _ _ _ _ ls hq hC hS (Nat.le_of_ble_eq_true rfl) (Nat.le_of_ble_eq_true rfl) d_C_ownerRefusal_33
      · have hq := hq.1 c_3
        refine kr_aload_n (r := a1) hx hb d_C_ownerRefusal_23 rfl (lv_at hl 1 rfl) ?_
        have hs_ := hq.1
        have hq := hq.2
        refine ki_inst_S (r := a1) X hC hs_ d_C_ownerRefusal_24 ?_
        refine lv_if_ne (tgt := 32) hx hb d_C_ownerRefusal_27 (by decide) (fun c_2 => ?_) (fun c_2 => ?_)
        · have hq := hq.2 c_2
          refine lv_iload_n hx hb d_C_ownerRefusal_32 rfl (lv_at hl 0 rfl) ?_
          exact hE r9_1 () _ _ _ _ _ ls hq hC hS (Nat.le_of_ble_eq_true rfl) (Nat.le_of_ble_eq_true rfl) d_C_ownerRefusal_33
        · have hq := hq.1 c_2
          refine lv_iconst (v := (2 : Int32)) hx hb d_C_ownerRefusal_30 (by decide) ?_
          exact hE (2 : Int32) () _ _ _ _ _ ls hq hC hS (Nat.le_of_ble_eq_true rfl) (Nat.le_of_ble_eq_true rfl) d_C_ownerRefusal_31
  · have hq := hq.1 c_5
    refine lv_iconst (v := (0 : Int32)) hx hb d_C_ownerRefusal_6 (by decide) ?_
    exact hE (0 : Int32) () _ _ _ _ _ ls hq hC hS (Nat.le_of_ble_eq_true rfl) (Nat.le_of_ble_eq_true rfl) d_C_ownerRefusal_7
def w_I_read (K : KT) (b : Nat) (a1 : Int32) (post : Option Nat → KT → Prop) : Prop := ((a1 = (0 : Int32)) → ((isI K (some b)) ∧ (w_C_boxOfWhole K (4 : Int32) (oI (kob K (some b))).toInt64 (fun r50_2 K50_2 => post r50_2 K50_2)))) ∧ (¬ (a1 = (0 : Int32)) → (((a1 = (1 : Int32)) → ((isI K (some b)) ∧ (w_C_boxOfWhole K (1 : Int32) (oS (kob K (some b))).toInt64 (fun r60_4 K60_4 => post r60_4 K60_4)))) ∧ (¬ (a1 = (1 : Int32)) → (((a1 = (2 : Int32)) → ((isI K (some b)) ∧ (w_C_boxOfReal K (7 : Int32) (oD (kob K (some b))) (fun r70_6 K70_6 => post r70_6 K70_6)))) ∧ (¬ (a1 = (2 : Int32)) → (((a1 = (3 : Int32)) → ((isI K (some b)) ∧ (∀ r75_8 : Option Nat, r75_8 = (oT (kob K (some b))) → (post r75_8 K)))) ∧ (¬ (a1 = (3 : Int32)) → (((a1 = (4 : Int32)) → ((isI K (some b)) ∧ (∀ r80_10 : Option Nat, r80_10 = (oA (kob K (some b))) → (post r80_10 K)))) ∧ (¬ (a1 = (4 : Int32)) → (((a1 = (5 : Int32)) → ((isI K (some b)) ∧ (∀ r85_12 : Option Nat, r85_12 = (oN (kob K (some b))) → (post r85_12 K)))) ∧ (¬ (a1 = (5 : Int32)) → (((a1 = (6 : Int32)) → (w_C_boxOfWhole K (4 : Int32) (7 : Int64) (fun r93_14 K93_14 => post r93_14 K93_14))) ∧ (¬ (a1 = (6 : Int32)) → (post none K))))))))))))))
set_option maxHeartbeats 8000000 in
set_option maxRecDepth 100000 in
theorem c_I_read (l : Launch) (D : va_G) (A : Nat → Prop) (cA : ClassId) (x hs : Nat) (K : KT) (b : Nat) (a1 : Int32) (post : Option Nat → KT → Prop) (hq : w_I_read K b a1 post) : Met l y_I_read (kw y_I_read b_I_read 2 (Option.some (Jvm.ClassFile.FieldType.object "MemberInspection$Held"))) ({ frames := 4, cells := 1, slots := 3, locals := 79 }) (kP D (tysC cA) A [va_rf (some b), .int a1] (CW D A x hs cA K)) (va_Qq post (fun u t => CW D A x hs cA u t.heap) A) 1 3 A := by
  refine kmet_q (BB := (fun u H => CW D A x hs cA u H)) (lv := [(0, va_rf (some b)), (1, .int a1)]) (by decide +kernel) rfl (Nat.le_of_ble_eq_true rfl) ?_
  intro p e s m args below meth c Q ls X hin hC hl hE
  have hx := X.x
  have hb := X.b
  have hS : va_S A s.heap s.heap [] := va_S.rf
  unfold w_I_read at hq
  refine lv_iload_n hx hb d_I_read_0 rfl (lv_at hl 1 rfl) ?_
  by_cases g_1 : a1 = (0 : Int32)
  · have hq := hq.1 g_1
    refine lv_tableIn (off := 43) (tgt := 44) hx hb d_I_read_1 (by rw [g_1]; decide) (by rw [g_1]; decide) (by rw [g_1]; rfl) (by decide) ?_
    refine lv_iconst (v := (4 : Int32)) hx hb d_I_read_44 (by decide) ?_
    refine kr_aload_n (r := (some b)) hx hb d_I_read_45 rfl (lv_at hl 0 rfl) ?_
    have hs_ := hq.1
    have hq := hq.2
    refine kg_whole_I9 (r := (some b)) X hC hs_ d_I_read_46 ?_
    refine lv_i2l hx hb d_I_read_49 rfl ?_
    refine kcq (BB := fun u H => CW D A x hs cA u H) (krSN X hl.1 hS hC (c_C_boxOfWhole l D A cA x hs K (4 : Int32) (oI (kob K (some b))).toInt64 _ hq) ki_C_boxOfWhole (X.N.2.1 ("MemberInspection$Item", 15, y_C_boxOfWhole, "MemberInspection") (by decide +kernel)) wd_60 ⟨rfl, rfl, Nat.le_of_ble_eq_true rfl, Nat.le_of_ble_eq_true rfl⟩ rfl rfl (Nat.le_of_ble_eq_true rfl) d_I_read_50 ⟨Nat.le_of_ble_eq_true rfl, Nat.le_of_ble_eq_true rfl⟩) hS (fun r50_2 K50_2 H locs hq hC hS => ?_)
    exact hE r50_2 K50_2 _ _ _ _ _ ls hq hC hS (Nat.le_of_ble_eq_true rfl) (Nat.le_of_ble_eq_true rfl) d_I_read_53
  · have hq := hq.2 g_1
    by_cases g_3 : a1 = (1 : Int32)
    · have hq := hq.1 g_3
      refine lv_tableIn (off := 53) (tgt := 54) hx hb d_I_read_1 (by rw [g_3]; decide) (by rw [g_3]; decide) (by rw [g_3]; rfl) (by decide) ?_
      refine lv_iconst (v := (1 : Int32)) hx hb d_I_read_54 (by decide) ?_
      refine kr_aload_n (r := (some b)) hx hb d_I_read_55 rfl (lv_at hl 0 rfl) ?_
      have hs_ := hq.1
      have hq := hq.2
      refine kg_small_I19 (r := (some b)) X hC hs_ d_I_read_56 ?_
      refine lv_i2l hx hb d_I_read_59 rfl ?_
      refine kcq (BB := fun u H => CW D A x hs cA u H) (krSN X hl.1 hS hC (c_C_boxOfWhole l D A cA x hs K (1 : Int32) (oS (kob K (some b))).toInt64 _ hq) ki_C_boxOfWhole (X.N.2.1 ("MemberInspection$Item", 15, y_C_boxOfWhole, "MemberInspection") (by decide +kernel)) wd_60 ⟨rfl, rfl, Nat.le_of_ble_eq_true rfl, Nat.le_of_ble_eq_true rfl⟩ rfl rfl (Nat.le_of_ble_eq_true rfl) d_I_read_60 ⟨Nat.le_of_ble_eq_true rfl, Nat.le_of_ble_eq_true rfl⟩) hS (fun r60_4 K60_4 H locs hq hC hS => ?_)
      exact hE r60_4 K60_4 _ _ _ _ _ ls hq hC hS (Nat.le_of_ble_eq_true rfl) (Nat.le_of_ble_eq_true rfl) d_I_read_63
    · have hq := hq.2 g_3
      by_cases g_5 : a1 = (2 : Int32)
      · have hq := hq.1 g_5
        refine lv_tableIn (off := 63) (tgt := 64) hx hb d_I_read_1 (by rw [g_5]; decide) (by rw [g_5]; decide) (by rw [g_5]; rfl) (by decide) ?_
        refine lv_bipush (v := (7 : Int32)) hx hb d_I_read_64 (by decide) ?_
        refine kr_aload_n (r := (some b)) hx hb d_I_read_66 rfl (lv_at hl 0 rfl) ?_
        have hs_ := hq.1
        have hq := hq.2
        refine kg_real_I23 (r := (some b)) X hC hs_ d_I_read_67 ?_
        refine kcq (BB := fun u H => CW D A x hs cA u H) (krSN X hl.1 hS hC (c_C_boxOfReal l D A cA x hs K (7 : Int32) (oD (kob K (some b))) _ hq) ki_C_boxOfReal (X.N.2.1 ("MemberInspection$Item", 27, y_C_boxOfReal, "MemberInspection") (by decide +kernel)) wd_84 ⟨rfl, rfl, Nat.le_of_ble_eq_true rfl, Nat.le_of_ble_eq_true rfl⟩ rfl rfl (Nat.le_of_ble_eq_true rfl) d_I_read_70 ⟨Nat.le_of_ble_eq_true rfl, Nat.le_of_ble_eq_true rfl⟩) hS (fun r70_6 K70_6 H locs hq hC hS => ?_)
        exact hE r70_6 K70_6 _ _ _ _ _ ls hq hC hS (Nat.le_of_ble_eq_true rfl) (Nat.le_of_ble_eq_true rfl) d_I_read_73
      · have hq := hq.2 g_5
        by_cases g_7 : a1 = (3 : Int32)
        · have hq := hq.1 g_7
          refine lv_tableIn (off := 73) (tgt := 74) hx hb d_I_read_1 (by rw [g_7]; decide) (by rw [g_7]; decide) (by rw [g_7]; rfl) (by decide) ?_
          refine kr_aload_n (r := (some b)) hx hb d_I_read_74 rfl (lv_at hl 0 rfl) ?_
          have hs_ := hq.1
          have hq := hq.2
          refine kg_text_I31 (r := (some b)) X hC hs_ d_I_read_75 (fun r75_8 e_r75_8 => ?_)
          have hq := hq r75_8 e_r75_8
          exact hE r75_8 K _ _ _ _ _ ls hq hC hS (Nat.le_of_ble_eq_true rfl) (Nat.le_of_ble_eq_true rfl) d_I_read_78
        · have hq := hq.2 g_7
          by_cases g_9 : a1 = (4 : Int32)
          · have hq := hq.1 g_9
            refine lv_tableIn (off := 78) (tgt := 79) hx hb d_I_read_1 (by rw [g_9]; decide) (by rw [g_9]; decide) (by rw [g_9]; rfl) (by decide) ?_
            refine kr_aload_n (r := (some b)) hx hb d_I_read_79 rfl (lv_at hl 0 rfl) ?_
            have hs_ := hq.1
            have hq := hq.2
            refine kg_any_I35 (r := (some b)) X hC hs_ d_I_read_80 (fun r80_10 e_r80_10 => ?_)
            have hq := hq r80_10 e_r80_10
            exact hE r80_10 K _ _ _ _ _ ls hq hC hS (Nat.le_of_ble_eq_true rfl) (Nat.le_of_ble_eq_true rfl) d_I_read_83
          · have hq := hq.2 g_9
            by_cases g_11 : a1 = (5 : Int32)
            · have hq := hq.1 g_11
              refine lv_tableIn (off := 83) (tgt := 84) hx hb d_I_read_1 (by rw [g_11]; decide) (by rw [g_11]; decide) (by rw [g_11]; rfl) (by decide) ?_
              refine kr_aload_n (r := (some b)) hx hb d_I_read_84 rfl (lv_at hl 0 rfl) ?_
              have hs_ := hq.1
              have hq := hq.2
              refine kg_next_I39 (r := (some b)) X hC hs_ d_I_read_85 (fun r85_12 e_r85_12 => ?_)
              have hq := hq r85_12 e_r85_12
              exact hE r85_12 K _ _ _ _ _ ls hq hC hS (Nat.le_of_ble_eq_true rfl) (Nat.le_of_ble_eq_true rfl) d_I_read_88
            · have hq := hq.2 g_11
              by_cases g_13 : a1 = (6 : Int32)
              · have hq := hq.1 g_13
                refine lv_tableIn (off := 88) (tgt := 89) hx hb d_I_read_1 (by rw [g_13]; decide) (by rw [g_13]; decide) (by rw [g_13]; rfl) (by decide) ?_
                refine lv_iconst (v := (4 : Int32)) hx hb d_I_read_89 (by decide) ?_
                refine lv_ldc2 hx hb X.o (X.t _ wd_187) d_I_read_90 ?_
                refine kcq (BB := fun u H => CW D A x hs cA u H) (krSN X hl.1 hS hC (c_C_boxOfWhole l D A cA x hs K (4 : Int32) (7 : Int64) _ hq) ki_C_boxOfWhole (X.N.2.1 ("MemberInspection$Item", 15, y_C_boxOfWhole, "MemberInspection") (by decide +kernel)) wd_60 ⟨rfl, rfl, Nat.le_of_ble_eq_true rfl, Nat.le_of_ble_eq_true rfl⟩ rfl rfl (Nat.le_of_ble_eq_true rfl) d_I_read_93 ⟨Nat.le_of_ble_eq_true rfl, Nat.le_of_ble_eq_true rfl⟩) hS (fun r93_14 K93_14 H locs hq hC hS => ?_)
                exact hE r93_14 K93_14 _ _ _ _ _ ls hq hC hS (Nat.le_of_ble_eq_true rfl) (Nat.le_of_ble_eq_true rfl) d_I_read_96
              · have hq := hq.2 g_13
                refine lv_tableOut (tgt := 97) hx hb d_I_read_1 (by have z0 := lv_neT (a := 0) g_1 rfl; have z1 := lv_neT (a := 1) g_3 rfl; have z2 := lv_neT (a := 2) g_5 rfl; have z3 := lv_neT (a := 3) g_7 rfl; have z4 := lv_neT (a := 4) g_9 rfl; have z5 := lv_neT (a := 5) g_11 rfl; have z6 := lv_neT (a := 6) g_13 rfl; omega) (by decide) ?_
                refine kr_null hx hb d_I_read_97 ?_
                exact hE none K _ _ _ _ _ ls hq hC hS (Nat.le_of_ble_eq_true rfl) (Nat.le_of_ble_eq_true rfl) d_I_read_98
def w_S_read (K : KT) (b : Nat) (a1 : Int32) (post : Option Nat → KT → Prop) : Prop := ((a1 = (8 : Int32)) → ((isT K (some b) 3) ∧ (w_C_boxOfWhole K (3 : Int32) (oX (kob K (some b))).toInt64 (fun r12_2 K12_2 => post r12_2 K12_2)))) ∧ (¬ (a1 = (8 : Int32)) → ((isT K (some b) 3) ∧ (w_I_read K b a1 (fun r20_1 K20_1 => post r20_1 K20_1))))
set_option maxHeartbeats 8000000 in
set_option maxRecDepth 100000 in
theorem c_S_read (l : Launch) (D : va_G) (A : Nat → Prop) (cA : ClassId) (x hs : Nat) (K : KT) (b : Nat) (a1 : Int32) (post : Option Nat → KT → Prop) (hq : w_S_read K b a1 post) : Met l y_S_read (kw y_S_read b_S_read 2 (Option.some (Jvm.ClassFile.FieldType.object "MemberInspection$Held"))) ({ frames := 5, cells := 1, slots := 3, locals := 100 }) (kP D (tysC cA) A [va_rf (some b), .int a1] (CW D A x hs cA K)) (va_Qq post (fun u t => CW D A x hs cA u t.heap) A) 1 3 A := by
  refine kmet_q (BB := (fun u H => CW D A x hs cA u H)) (lv := [(0, va_rf (some b)), (1, .int a1)]) (by decide +kernel) rfl (Nat.le_of_ble_eq_true rfl) ?_
  intro p e s m args below meth c Q ls X hin hC hl hE
  have hx := X.x
  have hb := X.b
  have hS : va_S A s.heap s.heap [] := va_S.rf
  unfold w_S_read at hq
  refine lv_iload_n hx hb d_S_read_0 rfl (lv_at hl 1 rfl) ?_
  refine lv_bipush (v := (8 : Int32)) hx hb d_S_read_1 (by decide) ?_
  refine lv_icmp_ne (tgt := 18) hx hb d_S_read_3 (by decide) (fun c_3 => ?_) (fun c_3 => ?_)
  · have hq := hq.2 c_3
    refine kr_aload_n (r := (some b)) hx hb d_S_read_18 rfl (lv_at hl 0 rfl) ?_
    refine lv_iload_n hx hb d_S_read_19 rfl (lv_at hl 1 rfl) ?_
    have hs_ := hq.1
    have hq := hq.2
    refine kcq (BB := fun u H => CW D A x hs cA u H) (krU (b := b) (C := N_S) (X.K.1 3 _ rfl).2 X hl.1 hS hC (c_I_read l D A cA x hs K b a1 _ hq) ki_I_read wd_183 wd_178 wd_149 wd_176 (by decide +kernel) (krecT X hC hs_ rfl) ⟨rfl, rfl, Nat.le_of_ble_eq_true rfl, Nat.le_of_ble_eq_true rfl⟩ rfl rfl (Nat.le_of_ble_eq_true rfl) d_S_read_20 ⟨Nat.le_of_ble_eq_true rfl, Nat.le_of_ble_eq_true rfl⟩) hS (fun r20_1 K20_1 H locs hq hC hS => ?_)
    exact hE r20_1 K20_1 _ _ _ _ _ ls hq hC hS (Nat.le_of_ble_eq_true rfl) (Nat.le_of_ble_eq_true rfl) d_S_read_23
  · have hq := hq.1 c_3
    refine lv_iconst (v := (3 : Int32)) hx hb d_S_read_6 (by decide) ?_
    refine kr_aload_n (r := (some b)) hx hb d_S_read_7 rfl (lv_at hl 0 rfl) ?_
    have hs_ := hq.1
    have hq := hq.2
    refine kg_extra_S9 (r := (some b)) X hC hs_ d_S_read_8 ?_
    refine lv_i2l hx hb d_S_read_11 rfl ?_
    refine kcq (BB := fun u H => CW D A x hs cA u H) (krSN X hl.1 hS hC (c_C_boxOfWhole l D A cA x hs K (3 : Int32) (oX (kob K (some b))).toInt64 _ hq) ki_C_boxOfWhole (X.N.2.1 ("MemberInspection$Special", 19, y_C_boxOfWhole, "MemberInspection") (by decide +kernel)) wd_60 ⟨rfl, rfl, Nat.le_of_ble_eq_true rfl, Nat.le_of_ble_eq_true rfl⟩ rfl rfl (Nat.le_of_ble_eq_true rfl) d_S_read_12 ⟨Nat.le_of_ble_eq_true rfl, Nat.le_of_ble_eq_true rfl⟩) hS (fun r12_2 K12_2 H locs hq hC hS => ?_)
    refine lv_goto (tgt := 23) hx hb d_S_read_15 (by decide) ?_
    exact hE r12_2 K12_2 _ _ _ _ _ ls hq hC hS (Nat.le_of_ble_eq_true rfl) (Nat.le_of_ble_eq_true rfl) d_S_read_23
def w_v_read (K : KT) (r : Option Nat) (a1 : Int32) (post : Option Nat → KT → Prop) : Prop := ∃ b : Nat, r = some b ∧ b ∈ kL K ∧ (((kO K b).1 = 1 ∧ w_I_read K b a1 post) ∨ ((kO K b).1 = 3 ∧ w_S_read K b a1 post))
set_option maxHeartbeats 4000000 in
theorem kv_read_C179 {p : Program} {l : Launch} {e : Env} {R : Room} {s : State} {m : MethodId} {args : Array Value} {below : List Frame} {meth : Method} {c : Code} {H : Heap} {locs : List Loc} {cells slots : Nat} {Q : State → Prop} {cc : ByteArray} {pc : Nat} {ls : Array Slot} {rest : List Value} {D : va_G} {A : Nat → Prop} {nL : Nat} {x hs : Nat} {cA : ClassId} {K : KT} {r : Option Nat} {a1 : Int32} {post : Option Nat → KT → Prop} (X : KC "MemberInspection" cc nL D (tysC cA) A p s m args c) (hsz : ls.size = nL) (hS : va_S A s.heap H locs) (hC : CW D A x hs cA K H) (hq : w_v_read K r a1 post) (hF : 6 ≤ R.frames) (hL : 121 ≤ R.locals) (hw : (rest.map fun v => v.category).sum ≤ 8) (hdg : decode cc pc = .ok (.invokevirtual 179, 3)) (hf1 : cells + 1 ≤ R.cells) (hf2 : slots + 3 ≤ R.slots) (kk : ∀ (r2 : Option Nat) (K2 : KT) (H1 : Heap) (locs1 : List Loc), post r2 K2 → CW D A x hs cA K2 H1 → va_S A s.heap H1 locs1 → W p l e R s m args below meth c H1 locs1 (cells + 1) (slots + 3) Q (F0 m (pc + 3) ls (va_rf r2 :: rest))) : W p l e R s m args below meth c H locs cells slots Q (F0 m pc ls (.int a1 :: va_rf r :: rest)) := by
  obtain ⟨b, rfl, hb, hq⟩ := hq
  rcases hq with ⟨ht, hq⟩ | ⟨ht, hq⟩
  · exact kcq (BB := fun u H => CW D A x hs cA u H) (krV (b := b) (As := [.int a1]) X hsz hS hC (c_I_read l D A cA x hs K b a1 _ hq) ki_I_read wd_175 wd_176 wd_177 (krec X hC hb ht rfl) ⟨rfl, rfl, Nat.le_trans (Nat.le_of_ble_eq_true rfl) hF, Nat.le_trans (Nat.le_of_ble_eq_true rfl) hL⟩ rfl rfl hw hdg ⟨Nat.le_trans (Nat.add_le_add_left (Nat.le_of_ble_eq_true rfl) _) hf1, Nat.le_trans (Nat.add_le_add_left (Nat.le_of_ble_eq_true rfl) _) hf2⟩) hS (fun r2 K2 H1 locs1 hp hC1 hS1 => W.widen (Nat.add_le_add_left (Nat.le_of_ble_eq_true rfl) _) (Nat.add_le_add_left (Nat.le_of_ble_eq_true rfl) _) (kk r2 K2 H1 locs1 hp hC1 hS1))
  · exact kcq (BB := fun u H => CW D A x hs cA u H) (krO (b := b) (As := [.int a1]) (C := "MemberInspection$Special") (x := y_I_read) X hsz hS hC (c_S_read l D A cA x hs K b a1 _ hq) ki_S_read wd_175 wd_178 wd_176 wd_184 wd_179 wd_180 (by decide +kernel) (krec X hC hb ht rfl) ⟨rfl, rfl, Nat.le_trans (Nat.le_of_ble_eq_true rfl) hF, Nat.le_trans (Nat.le_of_ble_eq_true rfl) hL⟩ rfl rfl hw hdg ⟨Nat.le_trans (Nat.add_le_add_left (Nat.le_of_ble_eq_true rfl) _) hf1, Nat.le_trans (Nat.add_le_add_left (Nat.le_of_ble_eq_true rfl) _) hf2⟩) hS (fun r2 K2 H1 locs1 hp hC1 hS1 => W.widen (Nat.add_le_add_left (Nat.le_of_ble_eq_true rfl) _) (Nat.add_le_add_left (Nat.le_of_ble_eq_true rfl) _) (kk r2 K2 H1 locs1 hp hC1 hS1))
def w_C_fieldOf (K : KT) (a1 : Option Nat) (a2 : Int32) (post : Option Nat → KT → Prop) : Prop := ((a2 = (7 : Int32)) → (w_C_boxOfWhole K (5 : Int32) (kSh K) (fun r11_3 K11_3 => post r11_3 K11_3))) ∧ (¬ (a2 = (7 : Int32)) → ((okR K a1) ∧ ((((bI (ktg K a1 == 1 || ktg K a1 == 3)) = (0 : Int32)) → (post none K)) ∧ (¬ ((bI (ktg K a1 == 1 || ktg K a1 == 3)) = (0 : Int32)) → ((isI K a1) ∧ (w_v_read K a1 a2 (fun r29_1 K29_1 => post r29_1 K29_1)))))))
set_option maxHeartbeats 8000000 in
set_option maxRecDepth 100000 in
theorem c_C_fieldOf (l : Launch) (D : va_G) (A : Nat → Prop) (cA : ClassId) (x hs : Nat) (K : KT) (a1 : Option Nat) (a2 : Int32) (post : Option Nat → KT → Prop) (hq : w_C_fieldOf K a1 a2 post) : Met l y_C_fieldOf (kw y_C_fieldOf b_C_fieldOf 4 (Option.some (Jvm.ClassFile.FieldType.object "MemberInspection$Held"))) ({ frames := 6, cells := 1, slots := 3, locals := 121 }) (kP D (tysC cA) A [.ref x, va_rf a1, .int a2] (CW D A x hs cA K)) (va_Qq post (fun u t => CW D A x hs cA u t.heap) A) 1 3 A := by
  refine kmet_q (BB := (fun u H => CW D A x hs cA u H)) (lv := [(0, .ref x), (1, va_rf a1), (2, .int a2)]) (by decide +kernel) (by cases a1 <;> rfl) (by cases a1 <;> exact Nat.le_of_ble_eq_true rfl) ?_
  intro p e s m args below meth c Q ls X hin hC hl hE
  have hx := X.x
  have hb := X.b
  have hS : va_S A s.heap s.heap [] := va_S.rf
  unfold w_C_fieldOf at hq
  refine lv_iload_n hx hb d_C_fieldOf_0 rfl (lv_at hl 2 rfl) ?_
  refine lv_bipush (v := (7 : Int32)) hx hb d_C_fieldOf_1 (by decide) ?_
  refine lv_icmp_ne (tgt := 15) hx hb d_C_fieldOf_3 (by decide) (fun c_4 => ?_) (fun c_4 => ?_)
  · have hq := hq.2 c_4
    refine kr_aload_n (r := a1) hx hb d_C_fieldOf_15 rfl (lv_at hl 1 rfl) ?_
    have hs_ := hq.1
    have hq := hq.2
    refine ki_inst_I (r := a1) X hC hs_ d_C_fieldOf_16 ?_
    refine lv_if_eq (tgt := 33) hx hb d_C_fieldOf_19 (by decide) (fun c_2 => ?_) (fun c_2 => ?_)
    · have hq := hq.1 c_2
      refine kr_null hx hb d_C_fieldOf_33 ?_
      exact hE none K _ _ _ _ _ ls hq hC hS (Nat.le_of_ble_eq_true rfl) (Nat.le_of_ble_eq_true rfl) d_C_fieldOf_34
    · have hq := hq.2 c_2
      refine kr_aload_n (r := a1) hx hb d_C_fieldOf_22 rfl (lv_at hl 1 rfl) ?_
      have hs_ := hq.1
      have hq := hq.2
      refine ki_cast_I (r := a1) X hC hs_ d_C_fieldOf_23 ?_
      refine kr_astore_n (r := a1) (lv' := [(3, va_rf a1), (0, .ref x), (1, va_rf a1), (2, .int a2)]) hx hb d_C_fieldOf_26 rfl hl (by decide) (by cases a1 <;> rfl) (fun ls hl => ?_)
      refine kr_aload_n (r := a1) hx hb d_C_fieldOf_27 rfl (lv_at hl 0 rfl) ?_
      refine lv_iload_n hx hb d_C_fieldOf_28 rfl (lv_at hl 3 rfl) ?_
      refine kv_read_C179 (r := a1) X hl.1 hS hC hq (Nat.le_of_ble_eq_true rfl) (Nat.le_of_ble_eq_true rfl) (Nat.le_of_ble_eq_true rfl) d_C_fieldOf_29 (Nat.le_of_ble_eq_true rfl) (Nat.le_of_ble_eq_true rfl) (fun r29_1 K29_1 H locs hq hC hS => ?_)
      exact hE r29_1 K29_1 _ _ _ _ _ ls hq hC hS (Nat.le_of_ble_eq_true rfl) (Nat.le_of_ble_eq_true rfl) d_C_fieldOf_32
  · have hq := hq.1 c_4
    refine lv_iconst (v := (5 : Int32)) hx hb d_C_fieldOf_6 (by decide) ?_
    refine lv_aload_n hx hb d_C_fieldOf_7 rfl (lv_at hl 0 rfl) ?_
    refine kg_shared X hC d_C_fieldOf_8 ?_
    refine kcq (BB := fun u H => CW D A x hs cA u H) (krS X hl.1 hS hC (c_C_boxOfWhole l D A cA x hs K (5 : Int32) (kSh K) _ hq) ki_C_boxOfWhole wd_59 wd_60 ⟨rfl, rfl, Nat.le_of_ble_eq_true rfl, Nat.le_of_ble_eq_true rfl⟩ rfl rfl (Nat.le_of_ble_eq_true rfl) d_C_fieldOf_11 ⟨Nat.le_of_ble_eq_true rfl, Nat.le_of_ble_eq_true rfl⟩) hS (fun r11_3 K11_3 H locs hq hC hS => ?_)
    exact hE r11_3 K11_3 _ _ _ _ _ ls hq hC hS (Nat.le_of_ble_eq_true rfl) (Nat.le_of_ble_eq_true rfl) d_C_fieldOf_14
def w_C_get (K : KT) (a1 : Int32) (a2 : Int32) (post : Int32 → KT → Prop) : Prop := w_C_isBelow a1 (9 : Int32) (fun r3_1 => ((r3_1 = (0 : Int32)) → (post (-1 : Int32) K)) ∧ (¬ (r3_1 = (0 : Int32)) → (w_C_isBelow a2 (9 : Int32) (fun r12_2 => ((r12_2 = (0 : Int32)) → (post (-1 : Int32) K)) ∧ (¬ (r12_2 = (0 : Int32)) → ((vp_in a1 9) ∧ (∀ r30_3 : Option Nat, r30_3 = (kH (ksLa K (0 : Int64)) (a1).toNatClampNeg) → (w_C_ownerRefusal (ksLa K (0 : Int64)) r30_3 a2 (fun r34_4 => ((r34_4 = (0 : Int32)) → (w_C_fieldOf (ksLa K (0 : Int64)) r30_3 a2 (fun r51_5 K51_5 => w_C_answer K51_5 r51_5 (fun r54_6 K54_6 => post r54_6 K54_6)))) ∧ (¬ (r34_4 = (0 : Int32)) → (post r34_4 (ksLa K (0 : Int64)))))))))))))
set_option maxHeartbeats 8000000 in
set_option maxRecDepth 100000 in
theorem c_C_get (l : Launch) (D : va_G) (A : Nat → Prop) (cA : ClassId) (x hs : Nat) (K : KT) (a1 : Int32) (a2 : Int32) (post : Int32 → KT → Prop) (hq : w_C_get K a1 a2 post) : Met l y_C_get (kw y_C_get b_C_get 5 (Option.some Jvm.ClassFile.FieldType.int)) ({ frames := 7, cells := 1, slots := 3, locals := 144 }) (kP D (tysC cA) A [.ref x, .int a1, .int a2] (CW D A x hs cA K)) (va_Qi post (fun u t => CW D A x hs cA u t.heap) A) 1 3 A := by
  refine kmet_i (BB := (fun u H => CW D A x hs cA u H)) (lv := [(0, .ref x), (1, .int a1), (2, .int a2)]) (by decide +kernel) rfl (Nat.le_of_ble_eq_true rfl) ?_
  intro p e s m args below meth c Q ls X hin hC hl hE
  have hx := X.x
  have hb := X.b
  have hS : va_S A s.heap s.heap [] := va_S.rf
  unfold w_C_get at hq
  refine lv_iload_n hx hb d_C_get_0 rfl (lv_at hl 1 rfl) ?_
  refine lv_bipush (v := (9 : Int32)) hx hb d_C_get_1 (by decide) ?_
  refine kci (BB := fun (_ : Unit) H => CW D A x hs cA K H) (krS X hl.1 hS hC (c_C_isBelow l D (tysC cA) A _ a1 (9 : Int32) _ hq) ki_C_isBelow wd_35 wd_36 ⟨rfl, rfl, Nat.le_of_ble_eq_true rfl, Nat.le_of_ble_eq_true rfl⟩ rfl rfl (Nat.le_of_ble_eq_true rfl) d_C_get_3 ⟨Nat.le_of_ble_eq_true rfl, Nat.le_of_ble_eq_true rfl⟩) hS (fun r3_1 _u H locs hq hC hS => ?_)
  refine lv_if_eq (tgt := 18) hx hb d_C_get_6 (by decide) (fun c_9 => ?_) (fun c_9 => ?_)
  · have hq := hq.1 c_9
    refine lv_iconst (v := (-1 : Int32)) hx hb d_C_get_18 (by decide) ?_
    exact hE (-1 : Int32) K _ _ _ _ _ ls hq hC hS (Nat.le_of_ble_eq_true rfl) (Nat.le_of_ble_eq_true rfl) d_C_get_19
  · have hq := hq.2 c_9
    refine lv_iload_n hx hb d_C_get_9 rfl (lv_at hl 2 rfl) ?_
    refine lv_bipush (v := (9 : Int32)) hx hb d_C_get_10 (by decide) ?_
    refine kci (BB := fun (_ : Unit) H => CW D A x hs cA K H) (krS X hl.1 hS hC (c_C_isBelow l D (tysC cA) A _ a2 (9 : Int32) _ hq) ki_C_isBelow wd_35 wd_36 ⟨rfl, rfl, Nat.le_of_ble_eq_true rfl, Nat.le_of_ble_eq_true rfl⟩ rfl rfl (Nat.le_of_ble_eq_true rfl) d_C_get_12 ⟨Nat.le_of_ble_eq_true rfl, Nat.le_of_ble_eq_true rfl⟩) hS (fun r12_2 _u H locs hq hC hS => ?_)
    refine lv_if_ne (tgt := 20) hx hb d_C_get_15 (by decide) (fun c_8 => ?_) (fun c_8 => ?_)
    · have hq := hq.2 c_8
      refine lv_aload_n hx hb d_C_get_20 rfl (lv_at hl 0 rfl) ?_
      refine lv_lconst (v := (0 : Int64)) hx hb d_C_get_21 (by decide) ?_
      refine kp_lastTold X hC hS d_C_get_22 (fun H locs hC hS => ?_)
      refine lv_aload_n hx hb d_C_get_25 rfl (lv_at hl 0 rfl) ?_
      refine kg_handles X hC d_C_get_26 ?_
      refine lv_iload_n hx hb d_C_get_29 rfl (lv_at hl 1 rfl) ?_
      have hs_ := hq.1
      have hq := hq.2
      refine kg_h X hC hs_ d_C_get_30 (fun r30_3 e_r30_3 => ?_)
      have hq := hq r30_3 e_r30_3
      refine kr_astore_n (r := r30_3) (lv' := [(3, va_rf r30_3), (0, .ref x), (1, .int a1), (2, .int a2)]) hx hb d_C_get_31 rfl hl (by decide) (by cases r30_3 <;> rfl) (fun ls hl => ?_)
      refine kr_aload_n (r := r30_3) hx hb d_C_get_32 rfl (lv_at hl 0 rfl) ?_
      refine lv_iload_n hx hb d_C_get_33 rfl (lv_at hl 3 rfl) ?_
      refine kci (BB := fun (_ : Unit) H => CW D A x hs cA (ksLa K (0 : Int64)) H) (krS X hl.1 hS hC (c_C_ownerRefusal l D A cA x hs (ksLa K (0 : Int64)) r30_3 a2 _ hq) ki_C_ownerRefusal wd_165 wd_166 ⟨rfl, rfl, Nat.le_of_ble_eq_true rfl, Nat.le_of_ble_eq_true rfl⟩ rfl rfl (Nat.le_of_ble_eq_true rfl) d_C_get_34 ⟨Nat.le_of_ble_eq_true rfl, Nat.le_of_ble_eq_true rfl⟩) hS (fun r34_4 _u H locs hq hC hS => ?_)
      refine lv_istore (lv' := [(4, .int r34_4), (3, va_rf r30_3), (0, .ref x), (1, .int a1), (2, .int a2)]) hx hb d_C_get_37 hl (by decide) (by cases r30_3 <;> rfl) (fun ls hl => ?_)
      refine lv_iload hx hb d_C_get_39 (lv_at hl 0 rfl) ?_
      refine lv_if_eq (tgt := 47) hx hb d_C_get_41 (by decide) (fun c_7 => ?_) (fun c_7 => ?_)
      · have hq := hq.1 c_7
        refine lv_aload_n hx hb d_C_get_47 rfl (lv_at hl 2 rfl) ?_
        refine lv_aload_n hx hb d_C_get_48 rfl (lv_at hl 2 rfl) ?_
        refine kr_aload_n (r := r30_3) hx hb d_C_get_49 rfl (lv_at hl 1 rfl) ?_
        refine lv_iload_n hx hb d_C_get_50 rfl (lv_at hl 4 rfl) ?_
        refine kcq (BB := fun u H => CW D A x hs cA u H) (krV (b := x) X hl.1 hS hC (c_C_fieldOf l D A cA x hs (ksLa K (0 : Int64)) r30_3 a2 _ hq) ki_C_fieldOf wd_171 wd_173 ws_C_fieldOf (krecX X hC) ⟨rfl, rfl, Nat.le_of_ble_eq_true rfl, Nat.le_of_ble_eq_true rfl⟩ rfl rfl (Nat.le_of_ble_eq_true rfl) d_C_get_51 ⟨Nat.le_of_ble_eq_true rfl, Nat.le_of_ble_eq_true rfl⟩) hS (fun r51_5 K51_5 H locs hq hC hS => ?_)
        refine kci (BB := fun u H => CW D A x hs cA u H) (krV (b := x) X hl.1 hS hC (c_C_answer l D A cA x hs K51_5 r51_5 _ hq) ki_C_answer wd_157 wd_159 ws_C_answer (krecX X hC) ⟨rfl, rfl, Nat.le_of_ble_eq_true rfl, Nat.le_of_ble_eq_true rfl⟩ rfl rfl (Nat.le_of_ble_eq_true rfl) d_C_get_54 ⟨Nat.le_of_ble_eq_true rfl, Nat.le_of_ble_eq_true rfl⟩) hS (fun r54_6 K54_6 H locs hq hC hS => ?_)
        exact hE r54_6 K54_6 _ _ _ _ _ ls hq hC hS (Nat.le_of_ble_eq_true rfl) (Nat.le_of_ble_eq_true rfl) d_C_get_57
      · have hq := hq.2 c_7
        refine lv_iload hx hb d_C_get_44 (lv_at hl 0 rfl) ?_
        exact hE r34_4 (ksLa K (0 : Int64)) _ _ _ _ _ ls hq hC hS (Nat.le_of_ble_eq_true rfl) (Nat.le_of_ble_eq_true rfl) d_C_get_46
    · have hq := hq.1 c_8
      refine lv_iconst (v := (-1 : Int32)) hx hb d_C_get_18 (by decide) ?_
      exact hE (-1 : Int32) K _ _ _ _ _ ls hq hC hS (Nat.le_of_ble_eq_true rfl) (Nat.le_of_ble_eq_true rfl) d_C_get_19
def w_C_widens (a1 : Int32) (a2 : Int32) (post : Int32 → Prop) : Prop := ((a1 = a2) → (z01 (1 : Int32) ∧ post (1 : Int32))) ∧ (¬ (a1 = a2) → (((a1 = (0 : Int32)) → (z01 (0 : Int32) ∧ post (0 : Int32))) ∧ (¬ (a1 = (0 : Int32)) → (((a2 = (0 : Int32)) → (z01 (0 : Int32) ∧ post (0 : Int32))) ∧ (¬ (a2 = (0 : Int32)) → (((a2 = (2 : Int32)) → (z01 (0 : Int32) ∧ post (0 : Int32))) ∧ (¬ (a2 = (2 : Int32)) → (((a1 = (2 : Int32)) → (((a2 < (4 : Int32)) → (z01 (0 : Int32) ∧ post (0 : Int32))) ∧ (¬ (a2 < (4 : Int32)) → (z01 (1 : Int32) ∧ post (1 : Int32))))) ∧ (¬ (a1 = (2 : Int32)) → (((a2 ≤ a1) → (z01 (0 : Int32) ∧ post (0 : Int32))) ∧ (¬ (a2 ≤ a1) → (z01 (1 : Int32) ∧ post (1 : Int32)))))))))))))
set_option maxHeartbeats 8000000 in
set_option maxRecDepth 100000 in
theorem c_C_widens (l : Launch) (D : va_G) (tys : List (ClassId × FieldType)) (A : Nat → Prop) (B : Heap → Prop) (a1 : Int32) (a2 : Int32) (post : Int32 → Prop) (hq : w_C_widens a1 a2 post) : Met l y_C_widens (kw y_C_widens b_C_widens 2 (Option.some Jvm.ClassFile.FieldType.boolean)) ({ frames := 0, cells := 0, slots := 0, locals := 0 }) (kP D tys A [.int a1, .int a2] B) (va_Qi (fun r (_ : Unit) => post r) (fun _ t => B t.heap) A) 0 0 A := by
  refine kmet_z (BB := (fun (_ : Unit) H => B H)) (lv := [(0, .int a1), (1, .int a2)]) (by decide +kernel) rfl (Nat.le_of_ble_eq_true rfl) ?_
  intro p e s m args below meth c Q ls X hin hC hl hE
  have hx := X.x
  have hb := X.b
  have hS : va_S A s.heap s.heap [] := va_S.rf
  unfold w_C_widens at hq
  refine lv_iload_n hx hb d_C_widens_0 rfl (lv_at hl 0 rfl) ?_
  refine lv_iload_n hx hb d_C_widens_1 rfl (lv_at hl 1 rfl) ?_
  refine lv_icmp_ne (tgt := 7) hx hb d_C_widens_2 (by decide) (fun c_7 => ?_) (fun c_7 => ?_)
  · have hq := hq.2 c_7
    refine lv_iload_n hx hb d_C_widens_7 rfl (lv_at hl 0 rfl) ?_
    refine lv_if_eq (tgt := 20) hx hb d_C_widens_8 (by decide) (fun c_6 => ?_) (fun c_6 => ?_)
    · have hq := hq.1 c_6
      refine lv_iconst (v := (0 : Int32)) hx hb d_C_widens_20 (by decide) ?_
      exact hE (0 : Int32) () _ _ _ _ _ ls hq hC hS (Nat.le_of_ble_eq_true rfl) (Nat.le_of_ble_eq_true rfl) d_C_widens_21
    · have hq := hq.2 c_6
      refine lv_iload_n hx hb d_C_widens_11 rfl (lv_at hl 1 rfl) ?_
      refine lv_if_eq (tgt := 20) hx hb d_C_widens_12 (by decide) (fun c_5 => ?_) (fun c_5 => ?_)
      · have hq := hq.1 c_5
        refine lv_iconst (v := (0 : Int32)) hx hb d_C_widens_20 (by decide) ?_
        exact hE (0 : Int32) () _ _ _ _ _ ls hq hC hS (Nat.le_of_ble_eq_true rfl) (Nat.le_of_ble_eq_true rfl) d_C_widens_21
      · have hq := hq.2 c_5
        refine lv_iload_n hx hb d_C_widens_15 rfl (lv_at hl 1 rfl) ?_
        refine lv_iconst (v := (2 : Int32)) hx hb d_C_widens_16 (by decide) ?_
        refine lv_icmp_ne (tgt := 22) hx hb d_C_widens_17 (by decide) (fun c_4 => ?_) (fun c_4 => ?_)
        · have hq := hq.2 c_4
          refine lv_iload_n hx hb d_C_widens_22 rfl (lv_at hl 0 rfl) ?_
          refine lv_iconst (v := (2 : Int32)) hx hb d_C_widens_23 (by decide) ?_
          refine lv_icmp_ne (tgt := 38) hx hb d_C_widens_24 (by decide) (fun c_3 => ?_) (fun c_3 => ?_)
          · have hq := hq.2 c_3
            refine lv_iload_n hx hb d_C_widens_38 rfl (lv_at hl 0 rfl) ?_
            refine lv_iload_n hx hb d_C_widens_39 rfl (lv_at hl 1 rfl) ?_
            refine lv_icmp_ge (tgt := 47) hx hb d_C_widens_40 (by decide) (fun c_1 => ?_) (fun c_1 => ?_)
            · have hq := hq.1 c_1
              refine lv_iconst (v := (0 : Int32)) hx hb d_C_widens_47 (by decide) ?_
              exact hE (0 : Int32) () _ _ _ _ _ ls hq hC hS (Nat.le_of_ble_eq_true rfl) (Nat.le_of_ble_eq_true rfl) d_C_widens_48
            · have hq := hq.2 c_1
              refine lv_iconst (v := (1 : Int32)) hx hb d_C_widens_43 (by decide) ?_
              refine lv_goto (tgt := 48) hx hb d_C_widens_44 (by decide) ?_
              exact hE (1 : Int32) () _ _ _ _ _ ls hq hC hS (Nat.le_of_ble_eq_true rfl) (Nat.le_of_ble_eq_true rfl) d_C_widens_48
          · have hq := hq.1 c_3
            refine lv_iload_n hx hb d_C_widens_27 rfl (lv_at hl 1 rfl) ?_
            refine lv_iconst (v := (4 : Int32)) hx hb d_C_widens_28 (by decide) ?_
            refine lv_icmp_lt (tgt := 36) hx hb d_C_widens_29 (by decide) (fun c_2 => ?_) (fun c_2 => ?_)
            · have hq := hq.1 c_2
              refine lv_iconst (v := (0 : Int32)) hx hb d_C_widens_36 (by decide) ?_
              exact hE (0 : Int32) () _ _ _ _ _ ls hq hC hS (Nat.le_of_ble_eq_true rfl) (Nat.le_of_ble_eq_true rfl) d_C_widens_37
            · have hq := hq.2 c_2
              refine lv_iconst (v := (1 : Int32)) hx hb d_C_widens_32 (by decide) ?_
              refine lv_goto (tgt := 37) hx hb d_C_widens_33 (by decide) ?_
              exact hE (1 : Int32) () _ _ _ _ _ ls hq hC hS (Nat.le_of_ble_eq_true rfl) (Nat.le_of_ble_eq_true rfl) d_C_widens_37
        · have hq := hq.1 c_4
          refine lv_iconst (v := (0 : Int32)) hx hb d_C_widens_20 (by decide) ?_
          exact hE (0 : Int32) () _ _ _ _ _ ls hq hC hS (Nat.le_of_ble_eq_true rfl) (Nat.le_of_ble_eq_true rfl) d_C_widens_21
  · have hq := hq.1 c_7
    refine lv_iconst (v := (1 : Int32)) hx hb d_C_widens_5 (by decide) ?_
    exact hE (1 : Int32) () _ _ _ _ _ ls hq hC hS (Nat.le_of_ble_eq_true rfl) (Nat.le_of_ble_eq_true rfl) d_C_widens_6
def w_B_toldAs (K : KT) (b : Nat) (a1 : Int32) (post : Int64 → Prop) : Prop := (((5 : Int32) < a1) → (((a1 = (6 : Int32)) → ((isT K (some b) 0) ∧ ((((5 : Int32) < (oI (kob K (some b)))) → ((isT K (some b) 0) ∧ ((vf_n64 (FP.dmul (oD (kob K (some b))) (4620693217682128896 : UInt64))) ∧ (post (FP.d2l (FP.dmul (oD (kob K (some b))) (4620693217682128896 : UInt64))))))) ∧ (¬ ((5 : Int32) < (oI (kob K (some b)))) → ((isT K (some b) 0) ∧ ((vf_n64 (FP.f2d (FP.l2f (oL (kob K (some b)))))) ∧ ((vf_n64 (FP.dmul (FP.f2d (FP.l2f (oL (kob K (some b))))) (4620693217682128896 : UInt64))) ∧ (post (FP.d2l (FP.dmul (FP.f2d (FP.l2f (oL (kob K (some b))))) (4620693217682128896 : UInt64))))))))))) ∧ (¬ (a1 = (6 : Int32)) → ((isT K (some b) 0) ∧ ((vf_n64 (FP.dmul (oD (kob K (some b))) (4620693217682128896 : UInt64))) ∧ (post (FP.d2l (FP.dmul (oD (kob K (some b))) (4620693217682128896 : UInt64))))))))) ∧ (¬ ((5 : Int32) < a1) → ((isT K (some b) 0) ∧ (post (oL (kob K (some b))))))
set_option maxHeartbeats 8000000 in
set_option maxRecDepth 100000 in
theorem c_B_toldAs (l : Launch) (D : va_G) (A : Nat → Prop) (cA : ClassId) (x hs : Nat) (K : KT) (b : Nat) (a1 : Int32) (post : Int64 → Prop) (hq : w_B_toldAs K b a1 post) : Met l y_B_toldAs (kw y_B_toldAs b_B_toldAs 2 (Option.some Jvm.ClassFile.FieldType.long)) ({ frames := 0, cells := 0, slots := 0, locals := 0 }) (kP D (tysC cA) A [va_rf (some b), .int a1] (CW D A x hs cA K)) (va_Ql (fun r (_ : Unit) => post r) (fun _ t => CW D A x hs cA K t.heap) A) 0 0 A := by
  refine kmet_l (BB := (fun (_ : Unit) H => CW D A x hs cA K H)) (lv := [(0, va_rf (some b)), (1, .int a1)]) (by decide +kernel) rfl (Nat.le_of_ble_eq_true rfl) ?_
  intro p e s m args below meth c Q ls X hin hC hl hE
  have hx := X.x
  have hb := X.b
  have hS : va_S A s.heap s.heap [] := va_S.rf
  unfold w_B_toldAs at hq
  refine lv_iload_n hx hb d_B_toldAs_0 rfl (lv_at hl 1 rfl) ?_
  refine lv_iconst (v := (5 : Int32)) hx hb d_B_toldAs_1 (by decide) ?_
  refine lv_icmp_gt (tgt := 10) hx hb d_B_toldAs_2 (by decide) (fun c_3 => ?_) (fun c_3 => ?_)
  · have hq := hq.1 c_3
    refine lv_iload_n hx hb d_B_toldAs_10 rfl (lv_at hl 1 rfl) ?_
    refine lv_bipush (v := (6 : Int32)) hx hb d_B_toldAs_11 (by decide) ?_
    refine lv_icmp_ne (tgt := 36) hx hb d_B_toldAs_13 (by decide) (fun c_2 => ?_) (fun c_2 => ?_)
    · have hq := hq.2 c_2
      refine kr_aload_n (r := (some b)) hx hb d_B_toldAs_36 rfl (lv_at hl 0 rfl) ?_
      have hs_ := hq.1
      have hq := hq.2
      refine kg_real_B19 (r := (some b)) X hC hs_ d_B_toldAs_37 ?_
      refine lv_ldc2d hx hb X.o (X.t _ wd_201) d_B_toldAs_40 ?_
      have hs_ := hq.1
      have hq := hq.2
      refine lv_dmul hx hb d_B_toldAs_43 hs_ ?_
      refine lv_d2l hx hb d_B_toldAs_44 ?_
      exact hE (FP.d2l (FP.dmul (oD (kob K (some b))) (4620693217682128896 : UInt64))) () _ _ _ _ _ ls hq hC hS (Nat.le_of_ble_eq_true rfl) (Nat.le_of_ble_eq_true rfl) d_B_toldAs_45
    · have hq := hq.1 c_2
      refine kr_aload_n (r := (some b)) hx hb d_B_toldAs_16 rfl (lv_at hl 0 rfl) ?_
      have hs_ := hq.1
      have hq := hq.2
      refine kg_kind_B9 (r := (some b)) X hC hs_ d_B_toldAs_17 ?_
      refine lv_iconst (v := (5 : Int32)) hx hb d_B_toldAs_20 (by decide) ?_
      refine lv_icmp_gt (tgt := 36) hx hb d_B_toldAs_21 (by decide) (fun c_1 => ?_) (fun c_1 => ?_)
      · have hq := hq.1 c_1
        refine kr_aload_n (r := (some b)) hx hb d_B_toldAs_36 rfl (lv_at hl 0 rfl) ?_
        have hs_ := hq.1
        have hq := hq.2
        refine kg_real_B19 (r := (some b)) X hC hs_ d_B_toldAs_37 ?_
        refine lv_ldc2d hx hb X.o (X.t _ wd_201) d_B_toldAs_40 ?_
        have hs_ := hq.1
        have hq := hq.2
        refine lv_dmul hx hb d_B_toldAs_43 hs_ ?_
        refine lv_d2l hx hb d_B_toldAs_44 ?_
        exact hE (FP.d2l (FP.dmul (oD (kob K (some b))) (4620693217682128896 : UInt64))) () _ _ _ _ _ ls hq hC hS (Nat.le_of_ble_eq_true rfl) (Nat.le_of_ble_eq_true rfl) d_B_toldAs_45
      · have hq := hq.2 c_1
        refine kr_aload_n (r := (some b)) hx hb d_B_toldAs_24 rfl (lv_at hl 0 rfl) ?_
        have hs_ := hq.1
        have hq := hq.2
        refine kg_whole_B15 (r := (some b)) X hC hs_ d_B_toldAs_25 ?_
        refine lv_l2f hx hb d_B_toldAs_28 ?_
        have hs_ := hq.1
        have hq := hq.2
        refine lv_f2d hx hb d_B_toldAs_29 hs_ ?_
        refine lv_ldc2d hx hb X.o (X.t _ wd_201) d_B_toldAs_30 ?_
        have hs_ := hq.1
        have hq := hq.2
        refine lv_dmul hx hb d_B_toldAs_33 hs_ ?_
        refine lv_d2l hx hb d_B_toldAs_34 ?_
        exact hE (FP.d2l (FP.dmul (FP.f2d (FP.l2f (oL (kob K (some b))))) (4620693217682128896 : UInt64))) () _ _ _ _ _ ls hq hC hS (Nat.le_of_ble_eq_true rfl) (Nat.le_of_ble_eq_true rfl) d_B_toldAs_35
  · have hq := hq.2 c_3
    refine kr_aload_n (r := (some b)) hx hb d_B_toldAs_5 rfl (lv_at hl 0 rfl) ?_
    have hs_ := hq.1
    have hq := hq.2
    refine kg_whole_B15 (r := (some b)) X hC hs_ d_B_toldAs_6 ?_
    exact hE (oL (kob K (some b))) () _ _ _ _ _ ls hq hC hS (Nat.le_of_ble_eq_true rfl) (Nat.le_of_ble_eq_true rfl) d_B_toldAs_9
def w_v_toldAs (K : KT) (r : Option Nat) (a1 : Int32) (post : Int64 → Prop) : Prop := ∃ b : Nat, r = some b ∧ b ∈ kL K ∧ (((kO K b).1 = 0 ∧ w_B_toldAs K b a1 post))
set_option maxHeartbeats 4000000 in
theorem kv_toldAs_B27 {p : Program} {l : Launch} {e : Env} {R : Room} {s : State} {m : MethodId} {args : Array Value} {below : List Frame} {meth : Method} {c : Code} {H : Heap} {locs : List Loc} {cells slots : Nat} {Q : State → Prop} {cc : ByteArray} {pc : Nat} {ls : Array Slot} {rest : List Value} {D : va_G} {A : Nat → Prop} {nL : Nat} {x hs : Nat} {cA : ClassId} {K : KT} {r : Option Nat} {a1 : Int32} {post : Int64 → Prop} (X : KC "MemberInspection$Box" cc nL D (tysC cA) A p s m args c) (hsz : ls.size = nL) (hS : va_S A s.heap H locs) (hC : CW D A x hs cA K H) (hq : w_v_toldAs K r a1 post) (hF : 1 ≤ R.frames) (hL : 21 ≤ R.locals) (hw : (rest.map fun v => v.category).sum ≤ 8) (hdg : decode cc pc = .ok (.invokevirtual 27, 3)) (hf1 : cells + 0 ≤ R.cells) (hf2 : slots + 0 ≤ R.slots) (kk : ∀ (r2 : Int64) (H1 : Heap) (locs1 : List Loc), post r2 → CW D A x hs cA K H1 → va_S A s.heap H1 locs1 → W p l e R s m args below meth c H1 locs1 (cells + 0) (slots + 0) Q (F0 m (pc + 3) ls (.long r2 :: rest))) : W p l e R s m args below meth c H locs cells slots Q (F0 m pc ls (.int a1 :: va_rf r :: rest)) := by
  obtain ⟨b, rfl, hb, hq⟩ := hq
  obtain ⟨ht, hq⟩ := hq
  exact kcl_ (BB := fun (_ : Unit) H => CW D A x hs cA K H) (krV (b := b) (As := [.int a1]) X hsz hS hC (c_B_toldAs l D A cA x hs K b a1 _ hq) ki_B_toldAs wd_348 wd_198 wd_199 (krec X hC hb ht rfl) ⟨rfl, rfl, Nat.le_trans (Nat.le_of_ble_eq_true rfl) hF, Nat.le_trans (Nat.le_of_ble_eq_true rfl) hL⟩ rfl rfl hw hdg ⟨Nat.le_trans (Nat.add_le_add_left (Nat.le_of_ble_eq_true rfl) _) hf1, Nat.le_trans (Nat.add_le_add_left (Nat.le_of_ble_eq_true rfl) _) hf2⟩) hS (fun r2 _u H1 locs1 hp hC1 hS1 => W.widen (Nat.add_le_add_left (Nat.le_of_ble_eq_true rfl) _) (Nat.add_le_add_left (Nat.le_of_ble_eq_true rfl) _) (kk r2 H1 locs1 hp hC1 hS1))
set_option maxHeartbeats 4000000 in
theorem kv_toldAs_C80 {p : Program} {l : Launch} {e : Env} {R : Room} {s : State} {m : MethodId} {args : Array Value} {below : List Frame} {meth : Method} {c : Code} {H : Heap} {locs : List Loc} {cells slots : Nat} {Q : State → Prop} {cc : ByteArray} {pc : Nat} {ls : Array Slot} {rest : List Value} {D : va_G} {A : Nat → Prop} {nL : Nat} {x hs : Nat} {cA : ClassId} {K : KT} {r : Option Nat} {a1 : Int32} {post : Int64 → Prop} (X : KC "MemberInspection" cc nL D (tysC cA) A p s m args c) (hsz : ls.size = nL) (hS : va_S A s.heap H locs) (hC : CW D A x hs cA K H) (hq : w_v_toldAs K r a1 post) (hF : 1 ≤ R.frames) (hL : 21 ≤ R.locals) (hw : (rest.map fun v => v.category).sum ≤ 8) (hdg : decode cc pc = .ok (.invokevirtual 80, 3)) (hf1 : cells + 0 ≤ R.cells) (hf2 : slots + 0 ≤ R.slots) (kk : ∀ (r2 : Int64) (H1 : Heap) (locs1 : List Loc), post r2 → CW D A x hs cA K H1 → va_S A s.heap H1 locs1 → W p l e R s m args below meth c H1 locs1 (cells + 0) (slots + 0) Q (F0 m (pc + 3) ls (.long r2 :: rest))) : W p l e R s m args below meth c H locs cells slots Q (F0 m pc ls (.int a1 :: va_rf r :: rest)) := by
  obtain ⟨b, rfl, hb, hq⟩ := hq
  obtain ⟨ht, hq⟩ := hq
  exact kcl_ (BB := fun (_ : Unit) H => CW D A x hs cA K H) (krV (b := b) (As := [.int a1]) X hsz hS hC (c_B_toldAs l D A cA x hs K b a1 _ hq) ki_B_toldAs wd_197 wd_198 wd_199 (krec X hC hb ht rfl) ⟨rfl, rfl, Nat.le_trans (Nat.le_of_ble_eq_true rfl) hF, Nat.le_trans (Nat.le_of_ble_eq_true rfl) hL⟩ rfl rfl hw hdg ⟨Nat.le_trans (Nat.add_le_add_left (Nat.le_of_ble_eq_true rfl) _) hf1, Nat.le_trans (Nat.add_le_add_left (Nat.le_of_ble_eq_true rfl) _) hf2⟩) hS (fun r2 _u H1 locs1 hp hC1 hS1 => W.widen (Nat.add_le_add_left (Nat.le_of_ble_eq_true rfl) _) (Nat.add_le_add_left (Nat.le_of_ble_eq_true rfl) _) (kk r2 H1 locs1 hp hC1 hS1))
def w_C_getAs (K : KT) (a1 : Int32) (a2 : Int32) (a3 : Int32) (post : Int32 → KT → Prop) : Prop := w_C_isBelow a1 (9 : Int32) (fun r3_1 => ((r3_1 = (0 : Int32)) → (post (-1 : Int32) K)) ∧ (¬ (r3_1 = (0 : Int32)) → (w_C_isBelow a2 (9 : Int32) (fun r12_2 => ((r12_2 = (0 : Int32)) → (post (-1 : Int32) K)) ∧ (¬ (r12_2 = (0 : Int32)) → (w_C_isBelow a3 (8 : Int32) (fun r21_3 => ((r21_3 = (0 : Int32)) → (post (-1 : Int32) K)) ∧ (¬ (r21_3 = (0 : Int32)) → ((vp_in a1 9) ∧ (∀ r39_4 : Option Nat, r39_4 = (kH (ksLa K (0 : Int64)) (a1).toNatClampNeg) → (w_C_ownerRefusal (ksLa K (0 : Int64)) r39_4 a2 (fun r45_5 => ((r45_5 = (0 : Int32)) → ((vp_in a2 sf_FIELD_WANTS.length) ∧ ((((8 : Int32) ≤ (sf_FIELD_WANTS.getD (a2).toNatClampNeg 0)) → (post (2 : Int32) (ksLa K (0 : Int64)))) ∧ (¬ ((8 : Int32) ≤ (sf_FIELD_WANTS.getD (a2).toNatClampNeg 0)) → ((vp_in a2 sf_FIELD_WANTS.length) ∧ (w_C_widens (sf_FIELD_WANTS.getD (a2).toNatClampNeg 0) a3 (fun r74_8 => ((r74_8 = (0 : Int32)) → (post (2 : Int32) (ksLa K (0 : Int64)))) ∧ (¬ (r74_8 = (0 : Int32)) → (w_C_fieldOf (ksLa K (0 : Int64)) r39_4 a2 (fun r86_9 K86_9 => (okR K86_9 r86_9) ∧ ((((bI (ktg K86_9 r86_9 == 0)) = (0 : Int32)) → (post (0 : Int32) K86_9)) ∧ (¬ ((bI (ktg K86_9 r86_9 == 0)) = (0 : Int32)) → ((isT K86_9 r86_9 0) ∧ (w_v_toldAs K86_9 r86_9 a3 (fun r110_10 => post (0 : Int32) (ksLa K86_9 r110_10)))))))))))))))) ∧ (¬ (r45_5 = (0 : Int32)) → (post r45_5 (ksLa K (0 : Int64))))))))))))))))
set_option maxHeartbeats 8000000 in
set_option maxRecDepth 100000 in
theorem c_C_getAs (l : Launch) (D : va_G) (A : Nat → Prop) (cA : ClassId) (x hs : Nat) (K : KT) (a1 : Int32) (a2 : Int32) (a3 : Int32) (post : Int32 → KT → Prop) (hq : w_C_getAs K a1 a2 a3 post) : Met l y_C_getAs (kw y_C_getAs b_C_getAs 8 (Option.some Jvm.ClassFile.FieldType.int)) ({ frames := 7, cells := 1, slots := 3, locals := 144 }) (kP D (tysC cA) A [.ref x, .int a1, .int a2, .int a3] (CW D A x hs cA K)) (va_Qi post (fun u t => CW D A x hs cA u t.heap) A) 1 3 A := by
  refine kmet_i (BB := (fun u H => CW D A x hs cA u H)) (lv := [(0, .ref x), (1, .int a1), (2, .int a2), (3, .int a3)]) (by decide +kernel) rfl (Nat.le_of_ble_eq_true rfl) ?_
  intro p e s m args below meth c Q ls X hin hC hl hE
  have hx := X.x
  have hb := X.b
  have hS : va_S A s.heap s.heap [] := va_S.rf
  unfold w_C_getAs at hq
  refine lv_iload_n hx hb d_C_getAs_0 rfl (lv_at hl 1 rfl) ?_
  refine lv_bipush (v := (9 : Int32)) hx hb d_C_getAs_1 (by decide) ?_
  refine kci (BB := fun (_ : Unit) H => CW D A x hs cA K H) (krS X hl.1 hS hC (c_C_isBelow l D (tysC cA) A _ a1 (9 : Int32) _ hq) ki_C_isBelow wd_35 wd_36 ⟨rfl, rfl, Nat.le_of_ble_eq_true rfl, Nat.le_of_ble_eq_true rfl⟩ rfl rfl (Nat.le_of_ble_eq_true rfl) d_C_getAs_3 ⟨Nat.le_of_ble_eq_true rfl, Nat.le_of_ble_eq_true rfl⟩) hS (fun r3_1 _u H locs hq hC hS => ?_)
  refine lv_if_eq (tgt := 27) hx hb d_C_getAs_6 (by decide) (fun c_17 => ?_) (fun c_17 => ?_)
  · have hq := hq.1 c_17
    refine lv_iconst (v := (-1 : Int32)) hx hb d_C_getAs_27 (by decide) ?_
    exact hE (-1 : Int32) K _ _ _ _ _ ls hq hC hS (Nat.le_of_ble_eq_true rfl) (Nat.le_of_ble_eq_true rfl) d_C_getAs_28
  · have hq := hq.2 c_17
    refine lv_iload_n hx hb d_C_getAs_9 rfl (lv_at hl 2 rfl) ?_
    refine lv_bipush (v := (9 : Int32)) hx hb d_C_getAs_10 (by decide) ?_
    refine kci (BB := fun (_ : Unit) H => CW D A x hs cA K H) (krS X hl.1 hS hC (c_C_isBelow l D (tysC cA) A _ a2 (9 : Int32) _ hq) ki_C_isBelow wd_35 wd_36 ⟨rfl, rfl, Nat.le_of_ble_eq_true rfl, Nat.le_of_ble_eq_true rfl⟩ rfl rfl (Nat.le_of_ble_eq_true rfl) d_C_getAs_12 ⟨Nat.le_of_ble_eq_true rfl, Nat.le_of_ble_eq_true rfl⟩) hS (fun r12_2 _u H locs hq hC hS => ?_)
    refine lv_if_eq (tgt := 27) hx hb d_C_getAs_15 (by decide) (fun c_16 => ?_) (fun c_16 => ?_)
    · have hq := hq.1 c_16
      refine lv_iconst (v := (-1 : Int32)) hx hb d_C_getAs_27 (by decide) ?_
      exact hE (-1 : Int32) K _ _ _ _ _ ls hq hC hS (Nat.le_of_ble_eq_true rfl) (Nat.le_of_ble_eq_true rfl) d_C_getAs_28
    · have hq := hq.2 c_16
      refine lv_iload_n hx hb d_C_getAs_18 rfl (lv_at hl 3 rfl) ?_
      refine lv_bipush (v := (8 : Int32)) hx hb d_C_getAs_19 (by decide) ?_
      refine kci (BB := fun (_ : Unit) H => CW D A x hs cA K H) (krS X hl.1 hS hC (c_C_isBelow l D (tysC cA) A _ a3 (8 : Int32) _ hq) ki_C_isBelow wd_35 wd_36 ⟨rfl, rfl, Nat.le_of_ble_eq_true rfl, Nat.le_of_ble_eq_true rfl⟩ rfl rfl (Nat.le_of_ble_eq_true rfl) d_C_getAs_21 ⟨Nat.le_of_ble_eq_true rfl, Nat.le_of_ble_eq_true rfl⟩) hS (fun r21_3 _u H locs hq hC hS => ?_)
      refine lv_if_ne (tgt := 29) hx hb d_C_getAs_24 (by decide) (fun c_15 => ?_) (fun c_15 => ?_)
      · have hq := hq.2 c_15
        refine lv_aload_n hx hb d_C_getAs_29 rfl (lv_at hl 0 rfl) ?_
        refine lv_lconst (v := (0 : Int64)) hx hb d_C_getAs_30 (by decide) ?_
        refine kp_lastTold X hC hS d_C_getAs_31 (fun H locs hC hS => ?_)
        refine lv_aload_n hx hb d_C_getAs_34 rfl (lv_at hl 0 rfl) ?_
        refine kg_handles X hC d_C_getAs_35 ?_
        refine lv_iload_n hx hb d_C_getAs_38 rfl (lv_at hl 1 rfl) ?_
        have hs_ := hq.1
        have hq := hq.2
        refine kg_h X hC hs_ d_C_getAs_39 (fun r39_4 e_r39_4 => ?_)
        have hq := hq r39_4 e_r39_4
        refine kr_astore (r := r39_4) (lv' := [(4, va_rf r39_4), (0, .ref x), (1, .int a1), (2, .int a2), (3, .int a3)]) hx hb d_C_getAs_40 hl (by decide) (by cases r39_4 <;> rfl) (fun ls hl => ?_)
        refine kr_aload (r := r39_4) hx hb d_C_getAs_42 (lv_at hl 0 rfl) ?_
        refine lv_iload_n hx hb d_C_getAs_44 rfl (lv_at hl 3 rfl) ?_
        refine kci (BB := fun (_ : Unit) H => CW D A x hs cA (ksLa K (0 : Int64)) H) (krS X hl.1 hS hC (c_C_ownerRefusal l D A cA x hs (ksLa K (0 : Int64)) r39_4 a2 _ hq) ki_C_ownerRefusal wd_165 wd_166 ⟨rfl, rfl, Nat.le_of_ble_eq_true rfl, Nat.le_of_ble_eq_true rfl⟩ rfl rfl (Nat.le_of_ble_eq_true rfl) d_C_getAs_45 ⟨Nat.le_of_ble_eq_true rfl, Nat.le_of_ble_eq_true rfl⟩) hS (fun r45_5 _u H locs hq hC hS => ?_)
        refine lv_istore (lv' := [(5, .int r45_5), (4, va_rf r39_4), (0, .ref x), (1, .int a1), (2, .int a2), (3, .int a3)]) hx hb d_C_getAs_48 hl (by decide) (by cases r39_4 <;> rfl) (fun ls hl => ?_)
        refine lv_iload hx hb d_C_getAs_50 (lv_at hl 0 rfl) ?_
        refine lv_if_eq (tgt := 58) hx hb d_C_getAs_52 (by decide) (fun c_14 => ?_) (fun c_14 => ?_)
        · have hq := hq.1 c_14
          refine kgs X hS (nm := "FIELD_WANTS") (lst := sf_FIELD_WANTS) (by decide +kernel) wd_192 d_C_getAs_58 (fun t58_6 hT58_6 => ?_)
          refine lv_iload_n hx hb d_C_getAs_61 rfl (lv_at hl 4 rfl) ?_
          have hs_ := hq.1
          have hq := hq.2
          refine ksl X hS hT58_6 hs_ d_C_getAs_62 ?_
          refine lv_bipush (v := (8 : Int32)) hx hb d_C_getAs_63 (by decide) ?_
          refine lv_icmp_ge (tgt := 80) hx hb d_C_getAs_65 (by decide) (fun c_13 => ?_) (fun c_13 => ?_)
          · have hq := hq.1 c_13
            refine lv_iconst (v := (2 : Int32)) hx hb d_C_getAs_80 (by decide) ?_
            exact hE (2 : Int32) (ksLa K (0 : Int64)) _ _ _ _ _ ls hq hC hS (Nat.le_of_ble_eq_true rfl) (Nat.le_of_ble_eq_true rfl) d_C_getAs_81
          · have hq := hq.2 c_13
            refine kgs X hS (nm := "FIELD_WANTS") (lst := sf_FIELD_WANTS) (by decide +kernel) wd_192 d_C_getAs_68 (fun t68_7 hT68_7 => ?_)
            refine lv_iload_n hx hb d_C_getAs_71 rfl (lv_at hl 4 rfl) ?_
            have hs_ := hq.1
            have hq := hq.2
            refine ksl X hS hT68_7 hs_ d_C_getAs_72 ?_
            refine lv_iload_n hx hb d_C_getAs_73 rfl (lv_at hl 5 rfl) ?_
            refine kci (BB := fun (_ : Unit) H => CW D A x hs cA (ksLa K (0 : Int64)) H) (krS X hl.1 hS hC (c_C_widens l D (tysC cA) A _ (sf_FIELD_WANTS.getD (a2).toNatClampNeg 0) a3 _ hq) ki_C_widens wd_194 wd_195 ⟨rfl, rfl, Nat.le_of_ble_eq_true rfl, Nat.le_of_ble_eq_true rfl⟩ rfl rfl (Nat.le_of_ble_eq_true rfl) d_C_getAs_74 ⟨Nat.le_of_ble_eq_true rfl, Nat.le_of_ble_eq_true rfl⟩) hS (fun r74_8 _u H locs hq hC hS => ?_)
            refine lv_if_ne (tgt := 82) hx hb d_C_getAs_77 (by decide) (fun c_12 => ?_) (fun c_12 => ?_)
            · have hq := hq.2 c_12
              refine lv_aload_n hx hb d_C_getAs_82 rfl (lv_at hl 2 rfl) ?_
              refine kr_aload (r := r39_4) hx hb d_C_getAs_83 (lv_at hl 1 rfl) ?_
              refine lv_iload_n hx hb d_C_getAs_85 rfl (lv_at hl 4 rfl) ?_
              refine kcq (BB := fun u H => CW D A x hs cA u H) (krV (b := x) X hl.1 hS hC (c_C_fieldOf l D A cA x hs (ksLa K (0 : Int64)) r39_4 a2 _ hq) ki_C_fieldOf wd_171 wd_173 ws_C_fieldOf (krecX X hC) ⟨rfl, rfl, Nat.le_of_ble_eq_true rfl, Nat.le_of_ble_eq_true rfl⟩ rfl rfl (Nat.le_of_ble_eq_true rfl) d_C_getAs_86 ⟨Nat.le_of_ble_eq_true rfl, Nat.le_of_ble_eq_true rfl⟩) hS (fun r86_9 K86_9 H locs hq hC hS => ?_)
              refine kr_astore (r := r86_9) (lv' := [(6, va_rf r86_9), (5, .int r45_5), (4, va_rf r39_4), (0, .ref x), (1, .int a1), (2, .int a2), (3, .int a3)]) hx hb d_C_getAs_89 hl (by decide) (by cases r39_4 <;> cases r86_9 <;> rfl) (fun ls hl => ?_)
              refine kr_aload (r := r86_9) hx hb d_C_getAs_91 (lv_at hl 0 rfl) ?_
              have hs_ := hq.1
              have hq := hq.2
              refine ki_inst_B (r := r86_9) X hC hs_ d_C_getAs_93 ?_
              refine lv_if_eq (tgt := 116) hx hb d_C_getAs_96 (by decide) (fun c_11 => ?_) (fun c_11 => ?_)
              · have hq := hq.1 c_11
                refine lv_iconst (v := (0 : Int32)) hx hb d_C_getAs_116 (by decide) ?_
                exact hE (0 : Int32) K86_9 _ _ _ _ _ ls hq hC hS (Nat.le_of_ble_eq_true rfl) (Nat.le_of_ble_eq_true rfl) d_C_getAs_117
              · have hq := hq.2 c_11
                refine kr_aload (r := r86_9) hx hb d_C_getAs_99 (lv_at hl 0 rfl) ?_
                have hs_ := hq.1
                have hq := hq.2
                refine ki_cast_B (r := r86_9) X hC hs_ d_C_getAs_101 ?_
                refine kr_astore (r := r86_9) (lv' := [(7, va_rf r86_9), (6, va_rf r86_9), (5, .int r45_5), (4, va_rf r39_4), (0, .ref x), (1, .int a1), (2, .int a2), (3, .int a3)]) hx hb d_C_getAs_104 hl (by decide) (by cases r39_4 <;> cases r86_9 <;> rfl) (fun ls hl => ?_)
                refine lv_aload_n hx hb d_C_getAs_106 rfl (lv_at hl 4 rfl) ?_
                refine kr_aload (r := r86_9) hx hb d_C_getAs_107 (lv_at hl 0 rfl) ?_
                refine lv_iload_n hx hb d_C_getAs_109 rfl (lv_at hl 7 rfl) ?_
                refine kv_toldAs_C80 (r := r86_9) X hl.1 hS hC hq (Nat.le_of_ble_eq_true rfl) (Nat.le_of_ble_eq_true rfl) (Nat.le_of_ble_eq_true rfl) d_C_getAs_110 (Nat.le_of_ble_eq_true rfl) (Nat.le_of_ble_eq_true rfl) (fun r110_10 H locs hq hC hS => ?_)
                refine kp_lastTold X hC hS d_C_getAs_113 (fun H locs hC hS => ?_)
                refine lv_iconst (v := (0 : Int32)) hx hb d_C_getAs_116 (by decide) ?_
                exact hE (0 : Int32) (ksLa K86_9 r110_10) _ _ _ _ _ ls hq hC hS (Nat.le_of_ble_eq_true rfl) (Nat.le_of_ble_eq_true rfl) d_C_getAs_117
            · have hq := hq.1 c_12
              refine lv_iconst (v := (2 : Int32)) hx hb d_C_getAs_80 (by decide) ?_
              exact hE (2 : Int32) (ksLa K (0 : Int64)) _ _ _ _ _ ls hq hC hS (Nat.le_of_ble_eq_true rfl) (Nat.le_of_ble_eq_true rfl) d_C_getAs_81
        · have hq := hq.2 c_14
          refine lv_iload hx hb d_C_getAs_55 (lv_at hl 0 rfl) ?_
          exact hE r45_5 (ksLa K (0 : Int64)) _ _ _ _ _ ls hq hC hS (Nat.le_of_ble_eq_true rfl) (Nat.le_of_ble_eq_true rfl) d_C_getAs_57
      · have hq := hq.1 c_15
        refine lv_iconst (v := (-1 : Int32)) hx hb d_C_getAs_27 (by decide) ?_
        exact hE (-1 : Int32) K _ _ _ _ _ ls hq hC hS (Nat.le_of_ble_eq_true rfl) (Nat.le_of_ble_eq_true rfl) d_C_getAs_28
def w_C_converts (K : KT) (a1 : Option Nat) (a2 : Int32) (post : Int32 → Prop) : Prop := ((a2 = (10 : Int32)) → (z01 (1 : Int32) ∧ post (1 : Int32))) ∧ (¬ (a2 = (10 : Int32)) → (((a2 = (8 : Int32)) → (((a1 = none) → (z01 (1 : Int32) ∧ post (1 : Int32))) ∧ (¬ (a1 = none) → ((okR K a1) ∧ ((((bI (ktg K a1 == 4)) = (0 : Int32)) → (z01 (0 : Int32) ∧ post (0 : Int32))) ∧ (¬ ((bI (ktg K a1 == 4)) = (0 : Int32)) → (z01 (1 : Int32) ∧ post (1 : Int32)))))))) ∧ (¬ (a2 = (8 : Int32)) → (((a2 = (9 : Int32)) → (((a1 = none) → (z01 (1 : Int32) ∧ post (1 : Int32))) ∧ (¬ (a1 = none) → ((okR K a1) ∧ ((((bI (ktg K a1 == 1 || ktg K a1 == 3)) = (0 : Int32)) → (z01 (0 : Int32) ∧ post (0 : Int32))) ∧ (¬ ((bI (ktg K a1 == 1 || ktg K a1 == 3)) = (0 : Int32)) → (z01 (1 : Int32) ∧ post (1 : Int32)))))))) ∧ (¬ (a2 = (9 : Int32)) → ((okR K a1) ∧ ((((bI (ktg K a1 == 0)) = (0 : Int32)) → (z01 (0 : Int32) ∧ post (0 : Int32))) ∧ (¬ ((bI (ktg K a1 == 0)) = (0 : Int32)) → ((isT K a1 0) ∧ ((isT K a1 0) ∧ (w_C_widens (oI (kob K a1)) a2 (fun r71_1 => z01 r71_1 ∧ post r71_1))))))))))))
set_option maxHeartbeats 8000000 in
set_option maxRecDepth 100000 in
theorem c_C_converts (l : Launch) (D : va_G) (A : Nat → Prop) (cA : ClassId) (x hs : Nat) (K : KT) (a1 : Option Nat) (a2 : Int32) (post : Int32 → Prop) (hq : w_C_converts K a1 a2 post) : Met l y_C_converts (kw y_C_converts b_C_converts 3 (Option.some Jvm.ClassFile.FieldType.boolean)) ({ frames := 1, cells := 0, slots := 0, locals := 21 }) (kP D (tysC cA) A [va_rf a1, .int a2] (CW D A x hs cA K)) (va_Qi (fun r (_ : Unit) => post r) (fun _ t => CW D A x hs cA K t.heap) A) 0 0 A := by
  refine kmet_z (BB := (fun (_ : Unit) H => CW D A x hs cA K H)) (lv := [(0, va_rf a1), (1, .int a2)]) (by decide +kernel) (by cases a1 <;> rfl) (by cases a1 <;> exact Nat.le_of_ble_eq_true rfl) ?_
  intro p e s m args below meth c Q ls X hin hC hl hE
  have hx := X.x
  have hb := X.b
  have hS : va_S A s.heap s.heap [] := va_S.rf
  unfold w_C_converts at hq
  refine lv_iload_n hx hb d_C_converts_0 rfl (lv_at hl 1 rfl) ?_
  refine lv_bipush (v := (10 : Int32)) hx hb d_C_converts_1 (by decide) ?_
  refine lv_icmp_ne (tgt := 8) hx hb d_C_converts_3 (by decide) (fun c_9 => ?_) (fun c_9 => ?_)
  · have hq := hq.2 c_9
    refine lv_iload_n hx hb d_C_converts_8 rfl (lv_at hl 1 rfl) ?_
    refine lv_bipush (v := (8 : Int32)) hx hb d_C_converts_9 (by decide) ?_
    refine lv_icmp_ne (tgt := 31) hx hb d_C_converts_11 (by decide) (fun c_8 => ?_) (fun c_8 => ?_)
    · have hq := hq.2 c_8
      refine lv_iload_n hx hb d_C_converts_31 rfl (lv_at hl 1 rfl) ?_
      refine lv_bipush (v := (9 : Int32)) hx hb d_C_converts_32 (by decide) ?_
      refine lv_icmp_ne (tgt := 54) hx hb d_C_converts_34 (by decide) (fun c_5 => ?_) (fun c_5 => ?_)
      · have hq := hq.2 c_5
        refine kr_aload_n (r := a1) hx hb d_C_converts_54 rfl (lv_at hl 0 rfl) ?_
        have hs_ := hq.1
        have hq := hq.2
        refine ki_inst_B (r := a1) X hC hs_ d_C_converts_55 ?_
        refine lv_if_eq (tgt := 75) hx hb d_C_converts_58 (by decide) (fun c_2 => ?_) (fun c_2 => ?_)
        · have hq := hq.1 c_2
          refine lv_iconst (v := (0 : Int32)) hx hb d_C_converts_75 (by decide) ?_
          exact hE (0 : Int32) () _ _ _ _ _ ls hq hC hS (Nat.le_of_ble_eq_true rfl) (Nat.le_of_ble_eq_true rfl) d_C_converts_76
        · have hq := hq.2 c_2
          refine kr_aload_n (r := a1) hx hb d_C_converts_61 rfl (lv_at hl 0 rfl) ?_
          have hs_ := hq.1
          have hq := hq.2
          refine ki_cast_B (r := a1) X hC hs_ d_C_converts_62 ?_
          refine kr_astore_n (r := a1) (lv' := [(2, va_rf a1), (0, va_rf a1), (1, .int a2)]) hx hb d_C_converts_65 rfl hl (by decide) (by cases a1 <;> rfl) (fun ls hl => ?_)
          refine kr_aload_n (r := a1) hx hb d_C_converts_66 rfl (lv_at hl 0 rfl) ?_
          have hs_ := hq.1
          have hq := hq.2
          refine kg_kind_C158 (r := a1) X hC hs_ d_C_converts_67 ?_
          refine lv_iload_n hx hb d_C_converts_70 rfl (lv_at hl 2 rfl) ?_
          refine kci (BB := fun (_ : Unit) H => CW D A x hs cA K H) (krS X hl.1 hS hC (c_C_widens l D (tysC cA) A _ (oI (kob K a1)) a2 _ hq) ki_C_widens wd_194 wd_195 ⟨rfl, rfl, Nat.le_of_ble_eq_true rfl, Nat.le_of_ble_eq_true rfl⟩ rfl rfl (Nat.le_of_ble_eq_true rfl) d_C_converts_71 ⟨Nat.le_of_ble_eq_true rfl, Nat.le_of_ble_eq_true rfl⟩) hS (fun r71_1 _u H locs hq hC hS => ?_)
          exact hE r71_1 () _ _ _ _ _ ls hq hC hS (Nat.le_of_ble_eq_true rfl) (Nat.le_of_ble_eq_true rfl) d_C_converts_74
      · have hq := hq.1 c_5
        refine kr_aload_n (r := a1) hx hb d_C_converts_37 rfl (lv_at hl 0 rfl) ?_
        refine kr_ifnull (r := a1) (tgt := 48) hx hb d_C_converts_38 (by decide) (fun c_4 => ?_) (fun c_4 => ?_)
        · have hq := hq.1 c_4
          refine lv_iconst (v := (1 : Int32)) hx hb d_C_converts_48 (by decide) ?_
          refine lv_goto (tgt := 53) hx hb d_C_converts_49 (by decide) ?_
          exact hE (1 : Int32) () _ _ _ _ _ ls hq hC hS (Nat.le_of_ble_eq_true rfl) (Nat.le_of_ble_eq_true rfl) d_C_converts_53
        · have hq := hq.2 c_4
          refine kr_aload_n (r := a1) hx hb d_C_converts_41 rfl (lv_at hl 0 rfl) ?_
          have hs_ := hq.1
          have hq := hq.2
          refine ki_inst_I (r := a1) X hC hs_ d_C_converts_42 ?_
          refine lv_if_eq (tgt := 52) hx hb d_C_converts_45 (by decide) (fun c_3 => ?_) (fun c_3 => ?_)
          · have hq := hq.1 c_3
            refine lv_iconst (v := (0 : Int32)) hx hb d_C_converts_52 (by decide) ?_
            exact hE (0 : Int32) () _ _ _ _ _ ls hq hC hS (Nat.le_of_ble_eq_true rfl) (Nat.le_of_ble_eq_true rfl) d_C_converts_53
          · have hq := hq.2 c_3
            refine lv_iconst (v := (1 : Int32)) hx hb d_C_converts_48 (by decide) ?_
            refine lv_goto (tgt := 53) hx hb d_C_converts_49 (by decide) ?_
            exact hE (1 : Int32) () _ _ _ _ _ ls hq hC hS (Nat.le_of_ble_eq_true rfl) (Nat.le_of_ble_eq_true rfl) d_C_converts_53
    · have hq := hq.1 c_8
      refine kr_aload_n (r := a1) hx hb d_C_converts_14 rfl (lv_at hl 0 rfl) ?_
      refine kr_ifnull (r := a1) (tgt := 25) hx hb d_C_converts_15 (by decide) (fun c_7 => ?_) (fun c_7 => ?_)
      · have hq := hq.1 c_7
        refine lv_iconst (v := (1 : Int32)) hx hb d_C_converts_25 (by decide) ?_
        refine lv_goto (tgt := 30) hx hb d_C_converts_26 (by decide) ?_
        exact hE (1 : Int32) () _ _ _ _ _ ls hq hC hS (Nat.le_of_ble_eq_true rfl) (Nat.le_of_ble_eq_true rfl) d_C_converts_30
      · have hq := hq.2 c_7
        refine kr_aload_n (r := a1) hx hb d_C_converts_18 rfl (lv_at hl 0 rfl) ?_
        have hs_ := hq.1
        have hq := hq.2
        refine ki_inst_T (r := a1) X hC hs_ d_C_converts_19 ?_
        refine lv_if_eq (tgt := 29) hx hb d_C_converts_22 (by decide) (fun c_6 => ?_) (fun c_6 => ?_)
        · have hq := hq.1 c_6
          refine lv_iconst (v := (0 : Int32)) hx hb d_C_converts_29 (by decide) ?_
          exact hE (0 : Int32) () _ _ _ _ _ ls hq hC hS (Nat.le_of_ble_eq_true rfl) (Nat.le_of_ble_eq_true rfl) d_C_converts_30
        · have hq := hq.2 c_6
          refine lv_iconst (v := (1 : Int32)) hx hb d_C_converts_25 (by decide) ?_
          refine lv_goto (tgt := 30) hx hb d_C_converts_26 (by decide) ?_
          exact hE (1 : Int32) () _ _ _ _ _ ls hq hC hS (Nat.le_of_ble_eq_true rfl) (Nat.le_of_ble_eq_true rfl) d_C_converts_30
  · have hq := hq.1 c_9
    refine lv_iconst (v := (1 : Int32)) hx hb d_C_converts_6 (by decide) ?_
    exact hE (1 : Int32) () _ _ _ _ _ ls hq hC hS (Nat.le_of_ble_eq_true rfl) (Nat.le_of_ble_eq_true rfl) d_C_converts_7
def w_C_wholeOf (K : KT) (a1 : Option Nat) (post : Int64 → Prop) : Prop := (okR K a1) ∧ ((((bI (ktg K a1 == 0)) = (0 : Int32)) → (post (0 : Int64))) ∧ (¬ ((bI (ktg K a1 == 0)) = (0 : Int32)) → ((isT K a1 0) ∧ ((isT K a1 0) ∧ (post (oL (kob K a1)))))))
set_option maxHeartbeats 8000000 in
set_option maxRecDepth 100000 in
theorem c_C_wholeOf (l : Launch) (D : va_G) (A : Nat → Prop) (cA : ClassId) (x hs : Nat) (K : KT) (a1 : Option Nat) (post : Int64 → Prop) (hq : w_C_wholeOf K a1 post) : Met l y_C_wholeOf (kw y_C_wholeOf b_C_wholeOf 2 (Option.some Jvm.ClassFile.FieldType.long)) ({ frames := 0, cells := 0, slots := 0, locals := 0 }) (kP D (tysC cA) A [va_rf a1] (CW D A x hs cA K)) (va_Ql (fun r (_ : Unit) => post r) (fun _ t => CW D A x hs cA K t.heap) A) 0 0 A := by
  refine kmet_l (BB := (fun (_ : Unit) H => CW D A x hs cA K H)) (lv := [(0, va_rf a1)]) (by decide +kernel) (by cases a1 <;> rfl) (by cases a1 <;> exact Nat.le_of_ble_eq_true rfl) ?_
  intro p e s m args below meth c Q ls X hin hC hl hE
  have hx := X.x
  have hb := X.b
  have hS : va_S A s.heap s.heap [] := va_S.rf
  unfold w_C_wholeOf at hq
  refine kr_aload_n (r := a1) hx hb d_C_wholeOf_0 rfl (lv_at hl 0 rfl) ?_
  have hs_ := hq.1
  have hq := hq.2
  refine ki_inst_B (r := a1) X hC hs_ d_C_wholeOf_1 ?_
  refine lv_if_eq (tgt := 17) hx hb d_C_wholeOf_4 (by decide) (fun c_1 => ?_) (fun c_1 => ?_)
  · have hq := hq.1 c_1
    refine lv_lconst (v := (0 : Int64)) hx hb d_C_wholeOf_17 (by decide) ?_
    exact hE (0 : Int64) () _ _ _ _ _ ls hq hC hS (Nat.le_of_ble_eq_true rfl) (Nat.le_of_ble_eq_true rfl) d_C_wholeOf_18
  · have hq := hq.2 c_1
    refine kr_aload_n (r := a1) hx hb d_C_wholeOf_7 rfl (lv_at hl 0 rfl) ?_
    have hs_ := hq.1
    have hq := hq.2
    refine ki_cast_B (r := a1) X hC hs_ d_C_wholeOf_8 ?_
    refine kr_astore_n (r := a1) (lv' := [(1, va_rf a1), (0, va_rf a1)]) hx hb d_C_wholeOf_11 rfl hl (by decide) (by cases a1 <;> rfl) (fun ls hl => ?_)
    refine kr_aload_n (r := a1) hx hb d_C_wholeOf_12 rfl (lv_at hl 0 rfl) ?_
    have hs_ := hq.1
    have hq := hq.2
    refine kg_whole_C162 (r := a1) X hC hs_ d_C_wholeOf_13 ?_
    exact hE (oL (kob K a1)) () _ _ _ _ _ ls hq hC hS (Nat.le_of_ble_eq_true rfl) (Nat.le_of_ble_eq_true rfl) d_C_wholeOf_16
def w_C_realOf (K : KT) (a1 : Option Nat) (post : UInt64 → Prop) : Prop := (okR K a1) ∧ ((((bI (ktg K a1 == 0)) = (0 : Int32)) → (post FP.dconst0)) ∧ (¬ ((bI (ktg K a1 == 0)) = (0 : Int32)) → ((isT K a1 0) ∧ ((isT K a1 0) ∧ (post (oD (kob K a1)))))))
set_option maxHeartbeats 8000000 in
set_option maxRecDepth 100000 in
theorem c_C_realOf (l : Launch) (D : va_G) (A : Nat → Prop) (cA : ClassId) (x hs : Nat) (K : KT) (a1 : Option Nat) (post : UInt64 → Prop) (hq : w_C_realOf K a1 post) : Met l y_C_realOf (kw y_C_realOf b_C_realOf 2 (Option.some Jvm.ClassFile.FieldType.double)) ({ frames := 0, cells := 0, slots := 0, locals := 0 }) (kP D (tysC cA) A [va_rf a1] (CW D A x hs cA K)) (va_Qd (fun r (_ : Unit) => post r) (fun _ t => CW D A x hs cA K t.heap) A) 0 0 A := by
  refine kmet_d (BB := (fun (_ : Unit) H => CW D A x hs cA K H)) (lv := [(0, va_rf a1)]) (by decide +kernel) (by cases a1 <;> rfl) (by cases a1 <;> exact Nat.le_of_ble_eq_true rfl) ?_
  intro p e s m args below meth c Q ls X hin hC hl hE
  have hx := X.x
  have hb := X.b
  have hS : va_S A s.heap s.heap [] := va_S.rf
  unfold w_C_realOf at hq
  refine kr_aload_n (r := a1) hx hb d_C_realOf_0 rfl (lv_at hl 0 rfl) ?_
  have hs_ := hq.1
  have hq := hq.2
  refine ki_inst_B (r := a1) X hC hs_ d_C_realOf_1 ?_
  refine lv_if_eq (tgt := 17) hx hb d_C_realOf_4 (by decide) (fun c_1 => ?_) (fun c_1 => ?_)
  · have hq := hq.1 c_1
    refine lv_dconst0 hx hb d_C_realOf_17 ?_
    exact hE FP.dconst0 () _ _ _ _ _ ls hq hC hS (Nat.le_of_ble_eq_true rfl) (Nat.le_of_ble_eq_true rfl) d_C_realOf_18
  · have hq := hq.2 c_1
    refine kr_aload_n (r := a1) hx hb d_C_realOf_7 rfl (lv_at hl 0 rfl) ?_
    have hs_ := hq.1
    have hq := hq.2
    refine ki_cast_B (r := a1) X hC hs_ d_C_realOf_8 ?_
    refine kr_astore_n (r := a1) (lv' := [(1, va_rf a1), (0, va_rf a1)]) hx hb d_C_realOf_11 rfl hl (by decide) (by cases a1 <;> rfl) (fun ls hl => ?_)
    refine kr_aload_n (r := a1) hx hb d_C_realOf_12 rfl (lv_at hl 0 rfl) ?_
    have hs_ := hq.1
    have hq := hq.2
    refine kg_real_C165 (r := a1) X hC hs_ d_C_realOf_13 ?_
    exact hE (oD (kob K a1)) () _ _ _ _ _ ls hq hC hS (Nat.le_of_ble_eq_true rfl) (Nat.le_of_ble_eq_true rfl) d_C_realOf_16
def w_C_textOf (K : KT) (a1 : Option Nat) (post : Option Nat → Prop) : Prop := (okR K a1) ∧ ((((bI (ktg K a1 == 4)) = (0 : Int32)) → (post none)) ∧ (¬ ((bI (ktg K a1 == 4)) = (0 : Int32)) → ((isT K a1 4) ∧ (post a1))))
set_option maxHeartbeats 8000000 in
set_option maxRecDepth 100000 in
theorem c_C_textOf (l : Launch) (D : va_G) (A : Nat → Prop) (cA : ClassId) (x hs : Nat) (K : KT) (a1 : Option Nat) (post : Option Nat → Prop) (hq : w_C_textOf K a1 post) : Met l y_C_textOf (kw y_C_textOf b_C_textOf 2 (Option.some (Jvm.ClassFile.FieldType.object "MemberInspection$Text"))) ({ frames := 0, cells := 0, slots := 0, locals := 0 }) (kP D (tysC cA) A [va_rf a1] (CW D A x hs cA K)) (va_Qq (fun r (_ : Unit) => post r) (fun _ t => CW D A x hs cA K t.heap) A) 0 0 A := by
  refine kmet_q (BB := (fun (_ : Unit) H => CW D A x hs cA K H)) (lv := [(0, va_rf a1)]) (by decide +kernel) (by cases a1 <;> rfl) (by cases a1 <;> exact Nat.le_of_ble_eq_true rfl) ?_
  intro p e s m args below meth c Q ls X hin hC hl hE
  have hx := X.x
  have hb := X.b
  have hS : va_S A s.heap s.heap [] := va_S.rf
  unfold w_C_textOf at hq
  refine kr_aload_n (r := a1) hx hb d_C_textOf_0 rfl (lv_at hl 0 rfl) ?_
  have hs_ := hq.1
  have hq := hq.2
  refine ki_inst_T (r := a1) X hC hs_ d_C_textOf_1 ?_
  refine lv_if_eq (tgt := 14) hx hb d_C_textOf_4 (by decide) (fun c_1 => ?_) (fun c_1 => ?_)
  · have hq := hq.1 c_1
    refine kr_null hx hb d_C_textOf_14 ?_
    exact hE none () _ _ _ _ _ ls hq hC hS (Nat.le_of_ble_eq_true rfl) (Nat.le_of_ble_eq_true rfl) d_C_textOf_15
  · have hq := hq.2 c_1
    refine kr_aload_n (r := a1) hx hb d_C_textOf_7 rfl (lv_at hl 0 rfl) ?_
    have hs_ := hq.1
    have hq := hq.2
    refine ki_cast_T (r := a1) X hC hs_ d_C_textOf_8 ?_
    refine kr_astore_n (r := a1) (lv' := [(1, va_rf a1), (0, va_rf a1)]) hx hb d_C_textOf_11 rfl hl (by decide) (by cases a1 <;> rfl) (fun ls hl => ?_)
    refine kr_aload_n (r := a1) hx hb d_C_textOf_12 rfl (lv_at hl 0 rfl) ?_
    exact hE a1 () _ _ _ _ _ ls hq hC hS (Nat.le_of_ble_eq_true rfl) (Nat.le_of_ble_eq_true rfl) d_C_textOf_13
def w_C_itemOf (K : KT) (a1 : Option Nat) (post : Option Nat → Prop) : Prop := (okR K a1) ∧ ((((bI (ktg K a1 == 1 || ktg K a1 == 3)) = (0 : Int32)) → (post none)) ∧ (¬ ((bI (ktg K a1 == 1 || ktg K a1 == 3)) = (0 : Int32)) → ((isI K a1) ∧ (post a1))))
set_option maxHeartbeats 8000000 in
set_option maxRecDepth 100000 in
theorem c_C_itemOf (l : Launch) (D : va_G) (A : Nat → Prop) (cA : ClassId) (x hs : Nat) (K : KT) (a1 : Option Nat) (post : Option Nat → Prop) (hq : w_C_itemOf K a1 post) : Met l y_C_itemOf (kw y_C_itemOf b_C_itemOf 2 (Option.some (Jvm.ClassFile.FieldType.object "MemberInspection$Item"))) ({ frames := 0, cells := 0, slots := 0, locals := 0 }) (kP D (tysC cA) A [va_rf a1] (CW D A x hs cA K)) (va_Qq (fun r (_ : Unit) => post r) (fun _ t => CW D A x hs cA K t.heap) A) 0 0 A := by
  refine kmet_q (BB := (fun (_ : Unit) H => CW D A x hs cA K H)) (lv := [(0, va_rf a1)]) (by decide +kernel) (by cases a1 <;> rfl) (by cases a1 <;> exact Nat.le_of_ble_eq_true rfl) ?_
  intro p e s m args below meth c Q ls X hin hC hl hE
  have hx := X.x
  have hb := X.b
  have hS : va_S A s.heap s.heap [] := va_S.rf
  unfold w_C_itemOf at hq
  refine kr_aload_n (r := a1) hx hb d_C_itemOf_0 rfl (lv_at hl 0 rfl) ?_
  have hs_ := hq.1
  have hq := hq.2
  refine ki_inst_I (r := a1) X hC hs_ d_C_itemOf_1 ?_
  refine lv_if_eq (tgt := 14) hx hb d_C_itemOf_4 (by decide) (fun c_1 => ?_) (fun c_1 => ?_)
  · have hq := hq.1 c_1
    refine kr_null hx hb d_C_itemOf_14 ?_
    exact hE none () _ _ _ _ _ ls hq hC hS (Nat.le_of_ble_eq_true rfl) (Nat.le_of_ble_eq_true rfl) d_C_itemOf_15
  · have hq := hq.2 c_1
    refine kr_aload_n (r := a1) hx hb d_C_itemOf_7 rfl (lv_at hl 0 rfl) ?_
    have hs_ := hq.1
    have hq := hq.2
    refine ki_cast_I (r := a1) X hC hs_ d_C_itemOf_8 ?_
    refine kr_astore_n (r := a1) (lv' := [(1, va_rf a1), (0, va_rf a1)]) hx hb d_C_itemOf_11 rfl hl (by decide) (by cases a1 <;> rfl) (fun ls hl => ?_)
    refine kr_aload_n (r := a1) hx hb d_C_itemOf_12 rfl (lv_at hl 0 rfl) ?_
    exact hE a1 () _ _ _ _ _ ls hq hC hS (Nat.le_of_ble_eq_true rfl) (Nat.le_of_ble_eq_true rfl) d_C_itemOf_13
def w_I_write (K : KT) (b : Nat) (a1 : Int32) (a2 : Option Nat) (post : KT → Prop) : Prop := ((a1 = (0 : Int32)) → (w_C_wholeOf K a2 (fun r42_2 => (isI K (some b)) ∧ (post (ksR K (some b) (osI (kob K (some b)) (r42_2).toInt32)))))) ∧ (¬ (a1 = (0 : Int32)) → (((a1 = (1 : Int32)) → (w_C_wholeOf K a2 (fun r54_4 => (isI K (some b)) ∧ (post (ksR K (some b) (osS (kob K (some b)) (r54_4).toInt32.toInt8.toInt32)))))) ∧ (¬ (a1 = (1 : Int32)) → (((a1 = (2 : Int32)) → (w_C_realOf K a2 (fun r67_6 => (isI K (some b)) ∧ (post (ksR K (some b) (osD (kob K (some b)) r67_6)))))) ∧ (¬ (a1 = (2 : Int32)) → (((a1 = (3 : Int32)) → (w_C_textOf K a2 (fun r78_8 => (isI K (some b)) ∧ (post (ksR K (some b) (osT (kob K (some b)) r78_8)))))) ∧ (¬ (a1 = (3 : Int32)) → (((a1 = (4 : Int32)) → ((isI K (some b)) ∧ (post (ksR K (some b) (osA (kob K (some b)) a2))))) ∧ (¬ (a1 = (4 : Int32)) → (((a1 = (5 : Int32)) → (w_C_itemOf K a2 (fun r97_11 => (isI K (some b)) ∧ (post (ksR K (some b) (osN (kob K (some b)) r97_11)))))) ∧ (¬ (a1 = (5 : Int32)) → (post K))))))))))))
set_option maxHeartbeats 8000000 in
set_option maxRecDepth 100000 in
theorem c_I_write (l : Launch) (D : va_G) (A : Nat → Prop) (cA : ClassId) (x hs : Nat) (K : KT) (b : Nat) (a1 : Int32) (a2 : Option Nat) (post : KT → Prop) (hq : w_I_write K b a1 a2 post) : Met l y_I_write (kw y_I_write b_I_write 3 (Option.none : Option Jvm.ClassFile.FieldType)) ({ frames := 1, cells := 0, slots := 0, locals := 21 }) (kP D (tysC cA) A [va_rf (some b), .int a1, va_rf a2] (CW D A x hs cA K)) (va_Qv post (fun u t => CW D A x hs cA u t.heap) A) 0 0 A := by
  refine kmet_v (BB := (fun u H => CW D A x hs cA u H)) (lv := [(0, va_rf (some b)), (1, .int a1), (2, va_rf a2)]) (by decide +kernel) (by cases a2 <;> rfl) (by cases a2 <;> exact Nat.le_of_ble_eq_true rfl) ?_
  intro p e s m args below meth c Q ls X hin hC hl hE
  have hx := X.x
  have hb := X.b
  have hS : va_S A s.heap s.heap [] := va_S.rf
  unfold w_I_write at hq
  refine lv_iload_n hx hb d_I_write_0 rfl (lv_at hl 1 rfl) ?_
  by_cases g_1 : a1 = (0 : Int32)
  · have hq := hq.1 g_1
    refine lv_tableIn (off := 39) (tgt := 40) hx hb d_I_write_1 (by rw [g_1]; decide) (by rw [g_1]; decide) (by rw [g_1]; rfl) (by decide) ?_
    refine kr_aload_n (r := (some b)) hx hb d_I_write_40 rfl (lv_at hl 0 rfl) ?_
    refine kr_aload_n (r := a2) hx hb d_I_write_41 rfl (lv_at hl 2 rfl) ?_
    refine kcl_ (BB := fun (_ : Unit) H => CW D A x hs cA K H) (krSN X hl.1 hS hC (c_C_wholeOf l D A cA x hs K a2 _ hq) ki_C_wholeOf (X.N.2.1 ("MemberInspection$Item", 45, y_C_wholeOf, "MemberInspection") (by decide +kernel)) wd_214 ⟨rfl, rfl, Nat.le_of_ble_eq_true rfl, Nat.le_of_ble_eq_true rfl⟩ rfl rfl (Nat.le_of_ble_eq_true rfl) d_I_write_42 ⟨Nat.le_of_ble_eq_true rfl, Nat.le_of_ble_eq_true rfl⟩) hS (fun r42_2 _u H locs hq hC hS => ?_)
    refine lv_l2i hx hb d_I_write_45 rfl ?_
    have hs_ := hq.1
    have hq := hq.2
    refine kp_whole_I9 (r := (some b)) (v := (r42_2).toInt32) X hC hS hs_ d_I_write_46 (fun H locs hC hS => ?_)
    refine lv_goto (tgt := 106) hx hb d_I_write_49 (by decide) ?_
    exact hE (ksR K (some b) (osI (kob K (some b)) (r42_2).toInt32)) _ _ _ _ _ ls hq hC hS (Nat.le_of_ble_eq_true rfl) (Nat.le_of_ble_eq_true rfl) d_I_write_106
  · have hq := hq.2 g_1
    by_cases g_3 : a1 = (1 : Int32)
    · have hq := hq.1 g_3
      refine lv_tableIn (off := 51) (tgt := 52) hx hb d_I_write_1 (by rw [g_3]; decide) (by rw [g_3]; decide) (by rw [g_3]; rfl) (by decide) ?_
      refine kr_aload_n (r := (some b)) hx hb d_I_write_52 rfl (lv_at hl 0 rfl) ?_
      refine kr_aload_n (r := a2) hx hb d_I_write_53 rfl (lv_at hl 2 rfl) ?_
      refine kcl_ (BB := fun (_ : Unit) H => CW D A x hs cA K H) (krSN X hl.1 hS hC (c_C_wholeOf l D A cA x hs K a2 _ hq) ki_C_wholeOf (X.N.2.1 ("MemberInspection$Item", 45, y_C_wholeOf, "MemberInspection") (by decide +kernel)) wd_214 ⟨rfl, rfl, Nat.le_of_ble_eq_true rfl, Nat.le_of_ble_eq_true rfl⟩ rfl rfl (Nat.le_of_ble_eq_true rfl) d_I_write_54 ⟨Nat.le_of_ble_eq_true rfl, Nat.le_of_ble_eq_true rfl⟩) hS (fun r54_4 _u H locs hq hC hS => ?_)
      refine lv_l2i hx hb d_I_write_57 rfl ?_
      refine lv_i2b hx hb d_I_write_58 rfl ?_
      have hs_ := hq.1
      have hq := hq.2
      refine kp_small_I19 (r := (some b)) (v := (r54_4).toInt32) X hC hS hs_ d_I_write_59 (fun H locs hC hS => ?_)
      refine lv_goto (tgt := 106) hx hb d_I_write_62 (by decide) ?_
      exact hE (ksR K (some b) (osS (kob K (some b)) (r54_4).toInt32.toInt8.toInt32)) _ _ _ _ _ ls hq hC hS (Nat.le_of_ble_eq_true rfl) (Nat.le_of_ble_eq_true rfl) d_I_write_106
    · have hq := hq.2 g_3
      by_cases g_5 : a1 = (2 : Int32)
      · have hq := hq.1 g_5
        refine lv_tableIn (off := 64) (tgt := 65) hx hb d_I_write_1 (by rw [g_5]; decide) (by rw [g_5]; decide) (by rw [g_5]; rfl) (by decide) ?_
        refine kr_aload_n (r := (some b)) hx hb d_I_write_65 rfl (lv_at hl 0 rfl) ?_
        refine kr_aload_n (r := a2) hx hb d_I_write_66 rfl (lv_at hl 2 rfl) ?_
        refine kcd (BB := fun (_ : Unit) H => CW D A x hs cA K H) (krSN X hl.1 hS hC (c_C_realOf l D A cA x hs K a2 _ hq) ki_C_realOf (X.N.2.1 ("MemberInspection$Item", 49, y_C_realOf, "MemberInspection") (by decide +kernel)) wd_228 ⟨rfl, rfl, Nat.le_of_ble_eq_true rfl, Nat.le_of_ble_eq_true rfl⟩ rfl rfl (Nat.le_of_ble_eq_true rfl) d_I_write_67 ⟨Nat.le_of_ble_eq_true rfl, Nat.le_of_ble_eq_true rfl⟩) hS (fun r67_6 _u H locs hq hC hS => ?_)
        have hs_ := hq.1
        have hq := hq.2
        refine kp_real_I23 (r := (some b)) (v := r67_6) X hC hS hs_ d_I_write_70 (fun H locs hC hS => ?_)
        refine lv_goto (tgt := 106) hx hb d_I_write_73 (by decide) ?_
        exact hE (ksR K (some b) (osD (kob K (some b)) r67_6)) _ _ _ _ _ ls hq hC hS (Nat.le_of_ble_eq_true rfl) (Nat.le_of_ble_eq_true rfl) d_I_write_106
      · have hq := hq.2 g_5
        by_cases g_7 : a1 = (3 : Int32)
        · have hq := hq.1 g_7
          refine lv_tableIn (off := 75) (tgt := 76) hx hb d_I_write_1 (by rw [g_7]; decide) (by rw [g_7]; decide) (by rw [g_7]; rfl) (by decide) ?_
          refine kr_aload_n (r := (some b)) hx hb d_I_write_76 rfl (lv_at hl 0 rfl) ?_
          refine kr_aload_n (r := a2) hx hb d_I_write_77 rfl (lv_at hl 2 rfl) ?_
          refine kcq (BB := fun (_ : Unit) H => CW D A x hs cA K H) (krSN X hl.1 hS hC (c_C_textOf l D A cA x hs K a2 _ hq) ki_C_textOf (X.N.2.1 ("MemberInspection$Item", 53, y_C_textOf, "MemberInspection") (by decide +kernel)) wd_231 ⟨rfl, rfl, Nat.le_of_ble_eq_true rfl, Nat.le_of_ble_eq_true rfl⟩ rfl rfl (Nat.le_of_ble_eq_true rfl) d_I_write_78 ⟨Nat.le_of_ble_eq_true rfl, Nat.le_of_ble_eq_true rfl⟩) hS (fun r78_8 _u H locs hq hC hS => ?_)
          have hs_ := hq.1
          have hq := hq.2
          refine kp_text_I31 (r := (some b)) (v := r78_8) X hC hS hs_ d_I_write_81 (fun H locs hC hS => ?_)
          refine lv_goto (tgt := 106) hx hb d_I_write_84 (by decide) ?_
          exact hE (ksR K (some b) (osT (kob K (some b)) r78_8)) _ _ _ _ _ ls hq hC hS (Nat.le_of_ble_eq_true rfl) (Nat.le_of_ble_eq_true rfl) d_I_write_106
        · have hq := hq.2 g_7
          by_cases g_9 : a1 = (4 : Int32)
          · have hq := hq.1 g_9
            refine lv_tableIn (off := 86) (tgt := 87) hx hb d_I_write_1 (by rw [g_9]; decide) (by rw [g_9]; decide) (by rw [g_9]; rfl) (by decide) ?_
            refine kr_aload_n (r := (some b)) hx hb d_I_write_87 rfl (lv_at hl 0 rfl) ?_
            refine kr_aload_n (r := a2) hx hb d_I_write_88 rfl (lv_at hl 2 rfl) ?_
            have hs_ := hq.1
            have hq := hq.2
            refine kp_any_I35 (r := (some b)) (v := a2) X hC hS hs_ d_I_write_89 (fun H locs hC hS => ?_)
            refine lv_goto (tgt := 106) hx hb d_I_write_92 (by decide) ?_
            exact hE (ksR K (some b) (osA (kob K (some b)) a2)) _ _ _ _ _ ls hq hC hS (Nat.le_of_ble_eq_true rfl) (Nat.le_of_ble_eq_true rfl) d_I_write_106
          · have hq := hq.2 g_9
            by_cases g_10 : a1 = (5 : Int32)
            · have hq := hq.1 g_10
              refine lv_tableIn (off := 94) (tgt := 95) hx hb d_I_write_1 (by rw [g_10]; decide) (by rw [g_10]; decide) (by rw [g_10]; rfl) (by decide) ?_
              refine kr_aload_n (r := (some b)) hx hb d_I_write_95 rfl (lv_at hl 0 rfl) ?_
              refine kr_aload_n (r := a2) hx hb d_I_write_96 rfl (lv_at hl 2 rfl) ?_
              refine kcq (BB := fun (_ : Unit) H => CW D A x hs cA K H) (krSN X hl.1 hS hC (c_C_itemOf l D A cA x hs K a2 _ hq) ki_C_itemOf (X.N.2.1 ("MemberInspection$Item", 57, y_C_itemOf, "MemberInspection") (by decide +kernel)) wd_234 ⟨rfl, rfl, Nat.le_of_ble_eq_true rfl, Nat.le_of_ble_eq_true rfl⟩ rfl rfl (Nat.le_of_ble_eq_true rfl) d_I_write_97 ⟨Nat.le_of_ble_eq_true rfl, Nat.le_of_ble_eq_true rfl⟩) hS (fun r97_11 _u H locs hq hC hS => ?_)
              have hs_ := hq.1
              have hq := hq.2
              refine kp_next_I39 (r := (some b)) (v := r97_11) X hC hS hs_ d_I_write_100 (fun H locs hC hS => ?_)
              refine lv_goto (tgt := 106) hx hb d_I_write_103 (by decide) ?_
              exact hE (ksR K (some b) (osN (kob K (some b)) r97_11)) _ _ _ _ _ ls hq hC hS (Nat.le_of_ble_eq_true rfl) (Nat.le_of_ble_eq_true rfl) d_I_write_106
            · have hq := hq.2 g_10
              refine lv_tableOut (tgt := 106) hx hb d_I_write_1 (by have z0 := lv_neT (a := 0) g_1 rfl; have z1 := lv_neT (a := 1) g_3 rfl; have z2 := lv_neT (a := 2) g_5 rfl; have z3 := lv_neT (a := 3) g_7 rfl; have z4 := lv_neT (a := 4) g_9 rfl; have z5 := lv_neT (a := 5) g_10 rfl; omega) (by decide) ?_
              exact hE K _ _ _ _ _ ls hq hC hS (Nat.le_of_ble_eq_true rfl) (Nat.le_of_ble_eq_true rfl) d_I_write_106
def w_S_write (K : KT) (b : Nat) (a1 : Int32) (a2 : Option Nat) (post : KT → Prop) : Prop := ((a1 = (8 : Int32)) → (w_C_wholeOf K a2 (fun r8_2 => (isT K (some b) 3) ∧ (post (ksR K (some b) (osX (kob K (some b)) (r8_2).toInt32.toInt16.toInt32)))))) ∧ (¬ (a1 = (8 : Int32)) → ((isT K (some b) 3) ∧ (w_I_write K b a1 a2 (fun K22_1 => post K22_1))))
set_option maxHeartbeats 8000000 in
set_option maxRecDepth 100000 in
theorem c_S_write (l : Launch) (D : va_G) (A : Nat → Prop) (cA : ClassId) (x hs : Nat) (K : KT) (b : Nat) (a1 : Int32) (a2 : Option Nat) (post : KT → Prop) (hq : w_S_write K b a1 a2 post) : Met l y_S_write (kw y_S_write b_S_write 3 (Option.none : Option Jvm.ClassFile.FieldType)) ({ frames := 2, cells := 0, slots := 0, locals := 43 }) (kP D (tysC cA) A [va_rf (some b), .int a1, va_rf a2] (CW D A x hs cA K)) (va_Qv post (fun u t => CW D A x hs cA u t.heap) A) 0 0 A := by
  refine kmet_v (BB := (fun u H => CW D A x hs cA u H)) (lv := [(0, va_rf (some b)), (1, .int a1), (2, va_rf a2)]) (by decide +kernel) (by cases a2 <;> rfl) (by cases a2 <;> exact Nat.le_of_ble_eq_true rfl) ?_
  intro p e s m args below meth c Q ls X hin hC hl hE
  have hx := X.x
  have hb := X.b
  have hS : va_S A s.heap s.heap [] := va_S.rf
  unfold w_S_write at hq
  refine lv_iload_n hx hb d_S_write_0 rfl (lv_at hl 1 rfl) ?_
  refine lv_bipush (v := (8 : Int32)) hx hb d_S_write_1 (by decide) ?_
  refine lv_icmp_ne (tgt := 19) hx hb d_S_write_3 (by decide) (fun c_3 => ?_) (fun c_3 => ?_)
  · have hq := hq.2 c_3
    refine kr_aload_n (r := (some b)) hx hb d_S_write_19 rfl (lv_at hl 0 rfl) ?_
    refine lv_iload_n hx hb d_S_write_20 rfl (lv_at hl 1 rfl) ?_
    refine kr_aload_n (r := a2) hx hb d_S_write_21 rfl (lv_at hl 2 rfl) ?_
    have hs_ := hq.1
    have hq := hq.2
    refine kcv (BB := fun u H => CW D A x hs cA u H) (krU (b := b) (C := N_S) (X.K.1 3 _ rfl).2 X hl.1 hS hC (c_I_write l D A cA x hs K b a1 a2 _ hq) ki_I_write wd_224 wd_219 wd_149 wd_217 (by decide +kernel) (krecT X hC hs_ rfl) ⟨rfl, rfl, Nat.le_of_ble_eq_true rfl, Nat.le_of_ble_eq_true rfl⟩ rfl rfl (Nat.le_of_ble_eq_true rfl) d_S_write_22 ⟨Nat.le_of_ble_eq_true rfl, Nat.le_of_ble_eq_true rfl⟩) hS (fun K22_1 H locs hq hC hS => ?_)
    exact hE K22_1 _ _ _ _ _ ls hq hC hS (Nat.le_of_ble_eq_true rfl) (Nat.le_of_ble_eq_true rfl) d_S_write_25
  · have hq := hq.1 c_3
    refine kr_aload_n (r := (some b)) hx hb d_S_write_6 rfl (lv_at hl 0 rfl) ?_
    refine kr_aload_n (r := a2) hx hb d_S_write_7 rfl (lv_at hl 2 rfl) ?_
    refine kcl_ (BB := fun (_ : Unit) H => CW D A x hs cA K H) (krSN X hl.1 hS hC (c_C_wholeOf l D A cA x hs K a2 _ hq) ki_C_wholeOf (X.N.2.1 ("MemberInspection$Special", 27, y_C_wholeOf, "MemberInspection") (by decide +kernel)) wd_214 ⟨rfl, rfl, Nat.le_of_ble_eq_true rfl, Nat.le_of_ble_eq_true rfl⟩ rfl rfl (Nat.le_of_ble_eq_true rfl) d_S_write_8 ⟨Nat.le_of_ble_eq_true rfl, Nat.le_of_ble_eq_true rfl⟩) hS (fun r8_2 _u H locs hq hC hS => ?_)
    refine lv_l2i hx hb d_S_write_11 rfl ?_
    refine lv_i2s hx hb d_S_write_12 rfl ?_
    have hs_ := hq.1
    have hq := hq.2
    refine kp_extra_S9 (r := (some b)) (v := (r8_2).toInt32) X hC hS hs_ d_S_write_13 (fun H locs hC hS => ?_)
    refine lv_goto (tgt := 25) hx hb d_S_write_16 (by decide) ?_
    exact hE (ksR K (some b) (osX (kob K (some b)) (r8_2).toInt32.toInt16.toInt32)) _ _ _ _ _ ls hq hC hS (Nat.le_of_ble_eq_true rfl) (Nat.le_of_ble_eq_true rfl) d_S_write_25
def w_v_write (K : KT) (r : Option Nat) (a1 : Int32) (a2 : Option Nat) (post : KT → Prop) : Prop := ∃ b : Nat, r = some b ∧ b ∈ kL K ∧ (((kO K b).1 = 1 ∧ w_I_write K b a1 a2 post) ∨ ((kO K b).1 = 3 ∧ w_S_write K b a1 a2 post))
set_option maxHeartbeats 4000000 in
theorem kv_write_C187 {p : Program} {l : Launch} {e : Env} {R : Room} {s : State} {m : MethodId} {args : Array Value} {below : List Frame} {meth : Method} {c : Code} {H : Heap} {locs : List Loc} {cells slots : Nat} {Q : State → Prop} {cc : ByteArray} {pc : Nat} {ls : Array Slot} {rest : List Value} {D : va_G} {A : Nat → Prop} {nL : Nat} {x hs : Nat} {cA : ClassId} {K : KT} {r : Option Nat} {a1 : Int32} {a2 : Option Nat} {post : KT → Prop} (X : KC "MemberInspection" cc nL D (tysC cA) A p s m args c) (hsz : ls.size = nL) (hS : va_S A s.heap H locs) (hC : CW D A x hs cA K H) (hq : w_v_write K r a1 a2 post) (hF : 3 ≤ R.frames) (hL : 65 ≤ R.locals) (hw : (rest.map fun v => v.category).sum ≤ 8) (hdg : decode cc pc = .ok (.invokevirtual 187, 3)) (hf1 : cells + 0 ≤ R.cells) (hf2 : slots + 0 ≤ R.slots) (kk : ∀ (K2 : KT) (H1 : Heap) (locs1 : List Loc), post K2 → CW D A x hs cA K2 H1 → va_S A s.heap H1 locs1 → W p l e R s m args below meth c H1 locs1 (cells + 0) (slots + 0) Q (F0 m (pc + 3) ls (rest))) : W p l e R s m args below meth c H locs cells slots Q (F0 m pc ls (va_rf a2 :: .int a1 :: va_rf r :: rest)) := by
  obtain ⟨b, rfl, hb, hq⟩ := hq
  rcases hq with ⟨ht, hq⟩ | ⟨ht, hq⟩
  · exact kcv (BB := fun u H => CW D A x hs cA u H) (krV (b := b) (As := [.int a1, va_rf a2]) X hsz hS hC (c_I_write l D A cA x hs K b a1 a2 _ hq) ki_I_write wd_216 wd_217 wd_218 (krec X hC hb ht rfl) ⟨rfl, rfl, Nat.le_trans (Nat.le_of_ble_eq_true rfl) hF, Nat.le_trans (Nat.le_of_ble_eq_true rfl) hL⟩ rfl rfl hw hdg ⟨Nat.le_trans (Nat.add_le_add_left (Nat.le_of_ble_eq_true rfl) _) hf1, Nat.le_trans (Nat.add_le_add_left (Nat.le_of_ble_eq_true rfl) _) hf2⟩) hS (fun K2 H1 locs1 hp hC1 hS1 => W.widen (Nat.add_le_add_left (Nat.le_of_ble_eq_true rfl) _) (Nat.add_le_add_left (Nat.le_of_ble_eq_true rfl) _) (kk K2 H1 locs1 hp hC1 hS1))
  · exact kcv (BB := fun u H => CW D A x hs cA u H) (krO (b := b) (As := [.int a1, va_rf a2]) (C := "MemberInspection$Special") (x := y_I_write) X hsz hS hC (c_S_write l D A cA x hs K b a1 a2 _ hq) ki_S_write wd_216 wd_219 wd_217 wd_225 wd_220 wd_221 (by decide +kernel) (krec X hC hb ht rfl) ⟨rfl, rfl, Nat.le_trans (Nat.le_of_ble_eq_true rfl) hF, Nat.le_trans (Nat.le_of_ble_eq_true rfl) hL⟩ rfl rfl hw hdg ⟨Nat.le_trans (Nat.add_le_add_left (Nat.le_of_ble_eq_true rfl) _) hf1, Nat.le_trans (Nat.add_le_add_left (Nat.le_of_ble_eq_true rfl) _) hf2⟩) hS (fun K2 H1 locs1 hp hC1 hS1 => W.widen (Nat.add_le_add_left (Nat.le_of_ble_eq_true rfl) _) (Nat.add_le_add_left (Nat.le_of_ble_eq_true rfl) _) (kk K2 H1 locs1 hp hC1 hS1))
def w_C_store (K : KT) (a1 : Option Nat) (a2 : Int32) (a3 : Option Nat) (post : KT → Prop) : Prop := ((a2 = (7 : Int32)) → (w_C_wholeOf K a3 (fun r8_3 => post (ksSh K r8_3)))) ∧ (¬ (a2 = (7 : Int32)) → ((okR K a1) ∧ ((((bI (ktg K a1 == 1 || ktg K a1 == 3)) = (0 : Int32)) → (post K)) ∧ (¬ ((bI (ktg K a1 == 1 || ktg K a1 == 3)) = (0 : Int32)) → ((isI K a1) ∧ (w_v_write K a1 a2 a3 (fun K34_1 => post K34_1)))))))
set_option maxHeartbeats 8000000 in
set_option maxRecDepth 100000 in
theorem c_C_store (l : Launch) (D : va_G) (A : Nat → Prop) (cA : ClassId) (x hs : Nat) (K : KT) (a1 : Option Nat) (a2 : Int32) (a3 : Option Nat) (post : KT → Prop) (hq : w_C_store K a1 a2 a3 post) : Met l y_C_store (kw y_C_store b_C_store 5 (Option.none : Option Jvm.ClassFile.FieldType)) ({ frames := 3, cells := 0, slots := 0, locals := 65 }) (kP D (tysC cA) A [.ref x, va_rf a1, .int a2, va_rf a3] (CW D A x hs cA K)) (va_Qv post (fun u t => CW D A x hs cA u t.heap) A) 0 0 A := by
  refine kmet_v (BB := (fun u H => CW D A x hs cA u H)) (lv := [(0, .ref x), (1, va_rf a1), (2, .int a2), (3, va_rf a3)]) (by decide +kernel) (by cases a1 <;> cases a3 <;> rfl) (by cases a1 <;> cases a3 <;> exact Nat.le_of_ble_eq_true rfl) ?_
  intro p e s m args below meth c Q ls X hin hC hl hE
  have hx := X.x
  have hb := X.b
  have hS : va_S A s.heap s.heap [] := va_S.rf
  unfold w_C_store at hq
  refine lv_iload_n hx hb d_C_store_0 rfl (lv_at hl 2 rfl) ?_
  refine lv_bipush (v := (7 : Int32)) hx hb d_C_store_1 (by decide) ?_
  refine lv_icmp_ne (tgt := 17) hx hb d_C_store_3 (by decide) (fun c_4 => ?_) (fun c_4 => ?_)
  · have hq := hq.2 c_4
    refine kr_aload_n (r := a1) hx hb d_C_store_17 rfl (lv_at hl 1 rfl) ?_
    have hs_ := hq.1
    have hq := hq.2
    refine ki_inst_I (r := a1) X hC hs_ d_C_store_18 ?_
    refine lv_if_eq (tgt := 37) hx hb d_C_store_21 (by decide) (fun c_2 => ?_) (fun c_2 => ?_)
    · have hq := hq.1 c_2
      exact hE K _ _ _ _ _ ls hq hC hS (Nat.le_of_ble_eq_true rfl) (Nat.le_of_ble_eq_true rfl) d_C_store_37
    · have hq := hq.2 c_2
      refine kr_aload_n (r := a1) hx hb d_C_store_24 rfl (lv_at hl 1 rfl) ?_
      have hs_ := hq.1
      have hq := hq.2
      refine ki_cast_I (r := a1) X hC hs_ d_C_store_25 ?_
      refine kr_astore (r := a1) (lv' := [(4, va_rf a1), (0, .ref x), (1, va_rf a1), (2, .int a2), (3, va_rf a3)]) hx hb d_C_store_28 hl (by decide) (by cases a1 <;> cases a3 <;> rfl) (fun ls hl => ?_)
      refine kr_aload (r := a1) hx hb d_C_store_30 (lv_at hl 0 rfl) ?_
      refine lv_iload_n hx hb d_C_store_32 rfl (lv_at hl 3 rfl) ?_
      refine kr_aload_n (r := a3) hx hb d_C_store_33 rfl (lv_at hl 4 rfl) ?_
      refine kv_write_C187 (r := a1) X hl.1 hS hC hq (Nat.le_of_ble_eq_true rfl) (Nat.le_of_ble_eq_true rfl) (Nat.le_of_ble_eq_true rfl) d_C_store_34 (Nat.le_of_ble_eq_true rfl) (Nat.le_of_ble_eq_true rfl) (fun K34_1 H locs hq hC hS => ?_)
      exact hE K34_1 _ _ _ _ _ ls hq hC hS (Nat.le_of_ble_eq_true rfl) (Nat.le_of_ble_eq_true rfl) d_C_store_37
  · have hq := hq.1 c_4
    refine lv_aload_n hx hb d_C_store_6 rfl (lv_at hl 0 rfl) ?_
    refine kr_aload_n (r := a3) hx hb d_C_store_7 rfl (lv_at hl 3 rfl) ?_
    refine kcl_ (BB := fun (_ : Unit) H => CW D A x hs cA K H) (krS X hl.1 hS hC (c_C_wholeOf l D A cA x hs K a3 _ hq) ki_C_wholeOf wd_213 wd_214 ⟨rfl, rfl, Nat.le_of_ble_eq_true rfl, Nat.le_of_ble_eq_true rfl⟩ rfl rfl (Nat.le_of_ble_eq_true rfl) d_C_store_8 ⟨Nat.le_of_ble_eq_true rfl, Nat.le_of_ble_eq_true rfl⟩) hS (fun r8_3 _u H locs hq hC hS => ?_)
    refine kp_shared X hC hS d_C_store_11 (fun H locs hC hS => ?_)
    refine lv_goto (tgt := 37) hx hb d_C_store_14 (by decide) ?_
    exact hE (ksSh K r8_3) _ _ _ _ _ ls hq hC hS (Nat.le_of_ble_eq_true rfl) (Nat.le_of_ble_eq_true rfl) d_C_store_37
def w_C_set (K : KT) (a1 : Int32) (a2 : Int32) (a3 : Int32) (post : Int32 → KT → Prop) : Prop := w_C_isBelow a1 (9 : Int32) (fun r3_1 => ((r3_1 = (0 : Int32)) → (post (-1 : Int32) K)) ∧ (¬ (r3_1 = (0 : Int32)) → (w_C_isBelow a2 (9 : Int32) (fun r12_2 => ((r12_2 = (0 : Int32)) → (post (-1 : Int32) K)) ∧ (¬ (r12_2 = (0 : Int32)) → (w_C_isBelow a3 (9 : Int32) (fun r21_3 => ((r21_3 = (0 : Int32)) → (post (-1 : Int32) K)) ∧ (¬ (r21_3 = (0 : Int32)) → ((vp_in a1 9) ∧ (∀ r39_4 : Option Nat, r39_4 = (kH (ksLa K (0 : Int64)) (a1).toNatClampNeg) → ((vp_in a3 9) ∧ (∀ r47_5 : Option Nat, r47_5 = (kH (ksLa K (0 : Int64)) (a3).toNatClampNeg) → (w_C_ownerRefusal (ksLa K (0 : Int64)) r39_4 a2 (fun r53_6 => ((r53_6 = (0 : Int32)) → (((a2 = (6 : Int32)) → (post (3 : Int32) (ksLa K (0 : Int64)))) ∧ (¬ (a2 = (6 : Int32)) → ((vp_in a2 sf_FIELD_WANTS.length) ∧ (w_C_converts (ksLa K (0 : Int64)) r47_5 (sf_FIELD_WANTS.getD (a2).toNatClampNeg 0) (fun r81_8 => ((r81_8 = (0 : Int32)) → (post (2 : Int32) (ksLa K (0 : Int64)))) ∧ (¬ (r81_8 = (0 : Int32)) → (w_C_store (ksLa K (0 : Int64)) r39_4 a2 r47_5 (fun K95_9 => post (0 : Int32) K95_9))))))))) ∧ (¬ (r53_6 = (0 : Int32)) → (post r53_6 (ksLa K (0 : Int64))))))))))))))))))
set_option maxHeartbeats 8000000 in
set_option maxRecDepth 100000 in
theorem c_C_set (l : Launch) (D : va_G) (A : Nat → Prop) (cA : ClassId) (x hs : Nat) (K : KT) (a1 : Int32) (a2 : Int32) (a3 : Int32) (post : Int32 → KT → Prop) (hq : w_C_set K a1 a2 a3 post) : Met l y_C_set (kw y_C_set b_C_set 7 (Option.some Jvm.ClassFile.FieldType.int)) ({ frames := 4, cells := 0, slots := 0, locals := 89 }) (kP D (tysC cA) A [.ref x, .int a1, .int a2, .int a3] (CW D A x hs cA K)) (va_Qi post (fun u t => CW D A x hs cA u t.heap) A) 0 0 A := by
  refine kmet_i (BB := (fun u H => CW D A x hs cA u H)) (lv := [(0, .ref x), (1, .int a1), (2, .int a2), (3, .int a3)]) (by decide +kernel) rfl (Nat.le_of_ble_eq_true rfl) ?_
  intro p e s m args below meth c Q ls X hin hC hl hE
  have hx := X.x
  have hb := X.b
  have hS : va_S A s.heap s.heap [] := va_S.rf
  unfold w_C_set at hq
  refine lv_iload_n hx hb d_C_set_0 rfl (lv_at hl 1 rfl) ?_
  refine lv_bipush (v := (9 : Int32)) hx hb d_C_set_1 (by decide) ?_
  refine kci (BB := fun (_ : Unit) H => CW D A x hs cA K H) (krS X hl.1 hS hC (c_C_isBelow l D (tysC cA) A _ a1 (9 : Int32) _ hq) ki_C_isBelow wd_35 wd_36 ⟨rfl, rfl, Nat.le_of_ble_eq_true rfl, Nat.le_of_ble_eq_true rfl⟩ rfl rfl (Nat.le_of_ble_eq_true rfl) d_C_set_3 ⟨Nat.le_of_ble_eq_true rfl, Nat.le_of_ble_eq_true rfl⟩) hS (fun r3_1 _u H locs hq hC hS => ?_)
  refine lv_if_eq (tgt := 27) hx hb d_C_set_6 (by decide) (fun c_15 => ?_) (fun c_15 => ?_)
  · have hq := hq.1 c_15
    refine lv_iconst (v := (-1 : Int32)) hx hb d_C_set_27 (by decide) ?_
    exact hE (-1 : Int32) K _ _ _ _ _ ls hq hC hS (Nat.le_of_ble_eq_true rfl) (Nat.le_of_ble_eq_true rfl) d_C_set_28
  · have hq := hq.2 c_15
    refine lv_iload_n hx hb d_C_set_9 rfl (lv_at hl 2 rfl) ?_
    refine lv_bipush (v := (9 : Int32)) hx hb d_C_set_10 (by decide) ?_
    refine kci (BB := fun (_ : Unit) H => CW D A x hs cA K H) (krS X hl.1 hS hC (c_C_isBelow l D (tysC cA) A _ a2 (9 : Int32) _ hq) ki_C_isBelow wd_35 wd_36 ⟨rfl, rfl, Nat.le_of_ble_eq_true rfl, Nat.le_of_ble_eq_true rfl⟩ rfl rfl (Nat.le_of_ble_eq_true rfl) d_C_set_12 ⟨Nat.le_of_ble_eq_true rfl, Nat.le_of_ble_eq_true rfl⟩) hS (fun r12_2 _u H locs hq hC hS => ?_)
    refine lv_if_eq (tgt := 27) hx hb d_C_set_15 (by decide) (fun c_14 => ?_) (fun c_14 => ?_)
    · have hq := hq.1 c_14
      refine lv_iconst (v := (-1 : Int32)) hx hb d_C_set_27 (by decide) ?_
      exact hE (-1 : Int32) K _ _ _ _ _ ls hq hC hS (Nat.le_of_ble_eq_true rfl) (Nat.le_of_ble_eq_true rfl) d_C_set_28
    · have hq := hq.2 c_14
      refine lv_iload_n hx hb d_C_set_18 rfl (lv_at hl 3 rfl) ?_
      refine lv_bipush (v := (9 : Int32)) hx hb d_C_set_19 (by decide) ?_
      refine kci (BB := fun (_ : Unit) H => CW D A x hs cA K H) (krS X hl.1 hS hC (c_C_isBelow l D (tysC cA) A _ a3 (9 : Int32) _ hq) ki_C_isBelow wd_35 wd_36 ⟨rfl, rfl, Nat.le_of_ble_eq_true rfl, Nat.le_of_ble_eq_true rfl⟩ rfl rfl (Nat.le_of_ble_eq_true rfl) d_C_set_21 ⟨Nat.le_of_ble_eq_true rfl, Nat.le_of_ble_eq_true rfl⟩) hS (fun r21_3 _u H locs hq hC hS => ?_)
      refine lv_if_ne (tgt := 29) hx hb d_C_set_24 (by decide) (fun c_13 => ?_) (fun c_13 => ?_)
      · have hq := hq.2 c_13
        refine lv_aload_n hx hb d_C_set_29 rfl (lv_at hl 0 rfl) ?_
        refine lv_lconst (v := (0 : Int64)) hx hb d_C_set_30 (by decide) ?_
        refine kp_lastTold X hC hS d_C_set_31 (fun H locs hC hS => ?_)
        refine lv_aload_n hx hb d_C_set_34 rfl (lv_at hl 0 rfl) ?_
        refine kg_handles X hC d_C_set_35 ?_
        refine lv_iload_n hx hb d_C_set_38 rfl (lv_at hl 1 rfl) ?_
        have hs_ := hq.1
        have hq := hq.2
        refine kg_h X hC hs_ d_C_set_39 (fun r39_4 e_r39_4 => ?_)
        have hq := hq r39_4 e_r39_4
        refine kr_astore (r := r39_4) (lv' := [(4, va_rf r39_4), (0, .ref x), (1, .int a1), (2, .int a2), (3, .int a3)]) hx hb d_C_set_40 hl (by decide) (by cases r39_4 <;> rfl) (fun ls hl => ?_)
        refine lv_aload_n hx hb d_C_set_42 rfl (lv_at hl 1 rfl) ?_
        refine kg_handles X hC d_C_set_43 ?_
        refine lv_iload_n hx hb d_C_set_46 rfl (lv_at hl 4 rfl) ?_
        have hs_ := hq.1
        have hq := hq.2
        refine kg_h X hC hs_ d_C_set_47 (fun r47_5 e_r47_5 => ?_)
        have hq := hq r47_5 e_r47_5
        refine kr_astore (r := r47_5) (lv' := [(5, va_rf r47_5), (4, va_rf r39_4), (0, .ref x), (1, .int a1), (2, .int a2), (3, .int a3)]) hx hb d_C_set_48 hl (by decide) (by cases r39_4 <;> cases r47_5 <;> rfl) (fun ls hl => ?_)
        refine kr_aload (r := r39_4) hx hb d_C_set_50 (lv_at hl 1 rfl) ?_
        refine lv_iload_n hx hb d_C_set_52 rfl (lv_at hl 4 rfl) ?_
        refine kci (BB := fun (_ : Unit) H => CW D A x hs cA (ksLa K (0 : Int64)) H) (krS X hl.1 hS hC (c_C_ownerRefusal l D A cA x hs (ksLa K (0 : Int64)) r39_4 a2 _ hq) ki_C_ownerRefusal wd_165 wd_166 ⟨rfl, rfl, Nat.le_of_ble_eq_true rfl, Nat.le_of_ble_eq_true rfl⟩ rfl rfl (Nat.le_of_ble_eq_true rfl) d_C_set_53 ⟨Nat.le_of_ble_eq_true rfl, Nat.le_of_ble_eq_true rfl⟩) hS (fun r53_6 _u H locs hq hC hS => ?_)
        refine lv_istore (lv' := [(6, .int r53_6), (5, va_rf r47_5), (4, va_rf r39_4), (0, .ref x), (1, .int a1), (2, .int a2), (3, .int a3)]) hx hb d_C_set_56 hl (by decide) (by cases r39_4 <;> cases r47_5 <;> rfl) (fun ls hl => ?_)
        refine lv_iload hx hb d_C_set_58 (lv_at hl 0 rfl) ?_
        refine lv_if_eq (tgt := 66) hx hb d_C_set_60 (by decide) (fun c_12 => ?_) (fun c_12 => ?_)
        · have hq := hq.1 c_12
          refine lv_iload_n hx hb d_C_set_66 rfl (lv_at hl 5 rfl) ?_
          refine lv_bipush (v := (6 : Int32)) hx hb d_C_set_67 (by decide) ?_
          refine lv_icmp_ne (tgt := 74) hx hb d_C_set_69 (by decide) (fun c_11 => ?_) (fun c_11 => ?_)
          · have hq := hq.2 c_11
            refine kr_aload (r := r47_5) hx hb d_C_set_74 (lv_at hl 1 rfl) ?_
            refine kgs X hS (nm := "FIELD_WANTS") (lst := sf_FIELD_WANTS) (by decide +kernel) wd_192 d_C_set_76 (fun t76_7 hT76_7 => ?_)
            refine lv_iload_n hx hb d_C_set_79 rfl (lv_at hl 5 rfl) ?_
            have hs_ := hq.1
            have hq := hq.2
            refine ksl X hS hT76_7 hs_ d_C_set_80 ?_
            refine kci (BB := fun (_ : Unit) H => CW D A x hs cA (ksLa K (0 : Int64)) H) (krS X hl.1 hS hC (c_C_converts l D A cA x hs (ksLa K (0 : Int64)) r47_5 (sf_FIELD_WANTS.getD (a2).toNatClampNeg 0) _ hq) ki_C_converts wd_206 wd_207 ⟨rfl, rfl, Nat.le_of_ble_eq_true rfl, Nat.le_of_ble_eq_true rfl⟩ rfl rfl (Nat.le_of_ble_eq_true rfl) d_C_set_81 ⟨Nat.le_of_ble_eq_true rfl, Nat.le_of_ble_eq_true rfl⟩) hS (fun r81_8 _u H locs hq hC hS => ?_)
            refine lv_if_ne (tgt := 89) hx hb d_C_set_84 (by decide) (fun c_10 => ?_) (fun c_10 => ?_)
            · have hq := hq.2 c_10
              refine lv_aload_n hx hb d_C_set_89 rfl (lv_at hl 3 rfl) ?_
              refine kr_aload (r := r39_4) hx hb d_C_set_90 (lv_at hl 2 rfl) ?_
              refine lv_iload_n hx hb d_C_set_92 rfl (lv_at hl 5 rfl) ?_
              refine kr_aload (r := r47_5) hx hb d_C_set_93 (lv_at hl 1 rfl) ?_
              refine kcv (BB := fun u H => CW D A x hs cA u H) (krV (b := x) X hl.1 hS hC (c_C_store l D A cA x hs (ksLa K (0 : Int64)) r39_4 a2 r47_5 _ hq) ki_C_store wd_209 wd_211 ws_C_store (krecX X hC) ⟨rfl, rfl, Nat.le_of_ble_eq_true rfl, Nat.le_of_ble_eq_true rfl⟩ rfl rfl (Nat.le_of_ble_eq_true rfl) d_C_set_95 ⟨Nat.le_of_ble_eq_true rfl, Nat.le_of_ble_eq_true rfl⟩) hS (fun K95_9 H locs hq hC hS => ?_)
              refine lv_iconst (v := (0 : Int32)) hx hb d_C_set_98 (by decide) ?_
              exact hE (0 : Int32) K95_9 _ _ _ _ _ ls hq hC hS (Nat.le_of_ble_eq_true rfl) (Nat.le_of_ble_eq_true rfl) d_C_set_99
            · have hq := hq.1 c_10
              refine lv_iconst (v := (2 : Int32)) hx hb d_C_set_87 (by decide) ?_
              exact hE (2 : Int32) (ksLa K (0 : Int64)) _ _ _ _ _ ls hq hC hS (Nat.le_of_ble_eq_true rfl) (Nat.le_of_ble_eq_true rfl) d_C_set_88
          · have hq := hq.1 c_11
            refine lv_iconst (v := (3 : Int32)) hx hb d_C_set_72 (by decide) ?_
            exact hE (3 : Int32) (ksLa K (0 : Int64)) _ _ _ _ _ ls hq hC hS (Nat.le_of_ble_eq_true rfl) (Nat.le_of_ble_eq_true rfl) d_C_set_73
        · have hq := hq.2 c_12
          refine lv_iload hx hb d_C_set_63 (lv_at hl 0 rfl) ?_
          exact hE r53_6 (ksLa K (0 : Int64)) _ _ _ _ _ ls hq hC hS (Nat.le_of_ble_eq_true rfl) (Nat.le_of_ble_eq_true rfl) d_C_set_65
      · have hq := hq.1 c_13
        refine lv_iconst (v := (-1 : Int32)) hx hb d_C_set_27 (by decide) ?_
        exact hE (-1 : Int32) K _ _ _ _ _ ls hq hC hS (Nat.le_of_ble_eq_true rfl) (Nat.le_of_ble_eq_true rfl) d_C_set_28
def w_C_fail (K : KT) (a1 : Int32) (post : Int32 → KT → Prop) : Prop := post (4 : Int32) (ksLa K (a1).toInt64)
set_option maxHeartbeats 8000000 in
set_option maxRecDepth 100000 in
theorem c_C_fail (l : Launch) (D : va_G) (A : Nat → Prop) (cA : ClassId) (x hs : Nat) (K : KT) (a1 : Int32) (post : Int32 → KT → Prop) (hq : w_C_fail K a1 post) : Met l y_C_fail (kw y_C_fail b_C_fail 2 (Option.some Jvm.ClassFile.FieldType.int)) ({ frames := 0, cells := 0, slots := 0, locals := 0 }) (kP D (tysC cA) A [.ref x, .int a1] (CW D A x hs cA K)) (va_Qi post (fun u t => CW D A x hs cA u t.heap) A) 0 0 A := by
  refine kmet_i (BB := (fun u H => CW D A x hs cA u H)) (lv := [(0, .ref x), (1, .int a1)]) (by decide +kernel) rfl (Nat.le_of_ble_eq_true rfl) ?_
  intro p e s m args below meth c Q ls X hin hC hl hE
  have hx := X.x
  have hb := X.b
  have hS : va_S A s.heap s.heap [] := va_S.rf
  unfold w_C_fail at hq
  refine lv_aload_n hx hb d_C_fail_0 rfl (lv_at hl 0 rfl) ?_
  refine lv_iload_n hx hb d_C_fail_1 rfl (lv_at hl 1 rfl) ?_
  refine lv_i2l hx hb d_C_fail_2 rfl ?_
  refine kp_lastTold X hC hS d_C_fail_3 (fun H locs hC hS => ?_)
  refine lv_iconst (v := (4 : Int32)) hx hb d_C_fail_6 (by decide) ?_
  exact hE (4 : Int32) (ksLa K (a1).toInt64) _ _ _ _ _ ls hq hC hS (Nat.le_of_ble_eq_true rfl) (Nat.le_of_ble_eq_true rfl) d_C_fail_7
def w_B_sort (K : KT) (b : Nat) (post : Int32 → Prop) : Prop := (isT K (some b) 0) ∧ (post ((oI (kob K (some b))) + (1 : Int32)))
set_option maxHeartbeats 8000000 in
set_option maxRecDepth 100000 in
theorem c_B_sort (l : Launch) (D : va_G) (A : Nat → Prop) (cA : ClassId) (x hs : Nat) (K : KT) (b : Nat) (post : Int32 → Prop) (hq : w_B_sort K b post) : Met l y_B_sort (kw y_B_sort b_B_sort 1 (Option.some Jvm.ClassFile.FieldType.int)) ({ frames := 0, cells := 0, slots := 0, locals := 0 }) (kP D (tysC cA) A [va_rf (some b)] (CW D A x hs cA K)) (va_Qi (fun r (_ : Unit) => post r) (fun _ t => CW D A x hs cA K t.heap) A) 0 0 A := by
  refine kmet_i (BB := (fun (_ : Unit) H => CW D A x hs cA K H)) (lv := [(0, va_rf (some b))]) (by decide +kernel) rfl (Nat.le_of_ble_eq_true rfl) ?_
  intro p e s m args below meth c Q ls X hin hC hl hE
  have hx := X.x
  have hb := X.b
  have hS : va_S A s.heap s.heap [] := va_S.rf
  unfold w_B_sort at hq
  refine kr_aload_n (r := (some b)) hx hb d_B_sort_0 rfl (lv_at hl 0 rfl) ?_
  have hs_ := hq.1
  have hq := hq.2
  refine kg_kind_B9 (r := (some b)) X hC hs_ d_B_sort_1 ?_
  refine lv_iconst (v := (1 : Int32)) hx hb d_B_sort_4 (by decide) ?_
  refine lv_iadd hx hb d_B_sort_5 ?_
  exact hE ((oI (kob K (some b))) + (1 : Int32)) () _ _ _ _ _ ls hq hC hS (Nat.le_of_ble_eq_true rfl) (Nat.le_of_ble_eq_true rfl) d_B_sort_6
def w_I_sort (K : KT) (b : Nat) (post : Int32 → Prop) : Prop := post (10 : Int32)
set_option maxHeartbeats 8000000 in
set_option maxRecDepth 100000 in
theorem c_I_sort (l : Launch) (D : va_G) (A : Nat → Prop) (cA : ClassId) (x hs : Nat) (K : KT) (b : Nat) (post : Int32 → Prop) (hq : w_I_sort K b post) : Met l y_I_sort (kw y_I_sort b_I_sort 1 (Option.some Jvm.ClassFile.FieldType.int)) ({ frames := 0, cells := 0, slots := 0, locals := 0 }) (kP D (tysC cA) A [va_rf (some b)] (CW D A x hs cA K)) (va_Qi (fun r (_ : Unit) => post r) (fun _ t => CW D A x hs cA K t.heap) A) 0 0 A := by
  refine kmet_i (BB := (fun (_ : Unit) H => CW D A x hs cA K H)) (lv := [(0, va_rf (some b))]) (by decide +kernel) rfl (Nat.le_of_ble_eq_true rfl) ?_
  intro p e s m args below meth c Q ls X hin hC hl hE
  have hx := X.x
  have hb := X.b
  have hS : va_S A s.heap s.heap [] := va_S.rf
  unfold w_I_sort at hq
  refine lv_bipush (v := (10 : Int32)) hx hb d_I_sort_0 (by decide) ?_
  exact hE (10 : Int32) () _ _ _ _ _ ls hq hC hS (Nat.le_of_ble_eq_true rfl) (Nat.le_of_ble_eq_true rfl) d_I_sort_2
def w_P_sort (K : KT) (b : Nat) (post : Int32 → Prop) : Prop := post (12 : Int32)
set_option maxHeartbeats 8000000 in
set_option maxRecDepth 100000 in
theorem c_P_sort (l : Launch) (D : va_G) (A : Nat → Prop) (cA : ClassId) (x hs : Nat) (K : KT) (b : Nat) (post : Int32 → Prop) (hq : w_P_sort K b post) : Met l y_P_sort (kw y_P_sort b_P_sort 1 (Option.some Jvm.ClassFile.FieldType.int)) ({ frames := 0, cells := 0, slots := 0, locals := 0 }) (kP D (tysC cA) A [va_rf (some b)] (CW D A x hs cA K)) (va_Qi (fun r (_ : Unit) => post r) (fun _ t => CW D A x hs cA K t.heap) A) 0 0 A := by
  refine kmet_i (BB := (fun (_ : Unit) H => CW D A x hs cA K H)) (lv := [(0, va_rf (some b))]) (by decide +kernel) rfl (Nat.le_of_ble_eq_true rfl) ?_
  intro p e s m args below meth c Q ls X hin hC hl hE
  have hx := X.x
  have hb := X.b
  have hS : va_S A s.heap s.heap [] := va_S.rf
  unfold w_P_sort at hq
  refine lv_bipush (v := (12 : Int32)) hx hb d_P_sort_0 (by decide) ?_
  exact hE (12 : Int32) () _ _ _ _ _ ls hq hC hS (Nat.le_of_ble_eq_true rfl) (Nat.le_of_ble_eq_true rfl) d_P_sort_2
def w_S_sort (K : KT) (b : Nat) (post : Int32 → Prop) : Prop := post (11 : Int32)
set_option maxHeartbeats 8000000 in
set_option maxRecDepth 100000 in
theorem c_S_sort (l : Launch) (D : va_G) (A : Nat → Prop) (cA : ClassId) (x hs : Nat) (K : KT) (b : Nat) (post : Int32 → Prop) (hq : w_S_sort K b post) : Met l y_S_sort (kw y_S_sort b_S_sort 1 (Option.some Jvm.ClassFile.FieldType.int)) ({ frames := 0, cells := 0, slots := 0, locals := 0 }) (kP D (tysC cA) A [va_rf (some b)] (CW D A x hs cA K)) (va_Qi (fun r (_ : Unit) => post r) (fun _ t => CW D A x hs cA K t.heap) A) 0 0 A := by
  refine kmet_i (BB := (fun (_ : Unit) H => CW D A x hs cA K H)) (lv := [(0, va_rf (some b))]) (by decide +kernel) rfl (Nat.le_of_ble_eq_true rfl) ?_
  intro p e s m args below meth c Q ls X hin hC hl hE
  have hx := X.x
  have hb := X.b
  have hS : va_S A s.heap s.heap [] := va_S.rf
  unfold w_S_sort at hq
  refine lv_bipush (v := (11 : Int32)) hx hb d_S_sort_0 (by decide) ?_
  exact hE (11 : Int32) () _ _ _ _ _ ls hq hC hS (Nat.le_of_ble_eq_true rfl) (Nat.le_of_ble_eq_true rfl) d_S_sort_2
def w_T_sort (K : KT) (b : Nat) (post : Int32 → Prop) : Prop := post (9 : Int32)
set_option maxHeartbeats 8000000 in
set_option maxRecDepth 100000 in
theorem c_T_sort (l : Launch) (D : va_G) (A : Nat → Prop) (cA : ClassId) (x hs : Nat) (K : KT) (b : Nat) (post : Int32 → Prop) (hq : w_T_sort K b post) : Met l y_T_sort (kw y_T_sort b_T_sort 1 (Option.some Jvm.ClassFile.FieldType.int)) ({ frames := 0, cells := 0, slots := 0, locals := 0 }) (kP D (tysC cA) A [va_rf (some b)] (CW D A x hs cA K)) (va_Qi (fun r (_ : Unit) => post r) (fun _ t => CW D A x hs cA K t.heap) A) 0 0 A := by
  refine kmet_i (BB := (fun (_ : Unit) H => CW D A x hs cA K H)) (lv := [(0, va_rf (some b))]) (by decide +kernel) rfl (Nat.le_of_ble_eq_true rfl) ?_
  intro p e s m args below meth c Q ls X hin hC hl hE
  have hx := X.x
  have hb := X.b
  have hS : va_S A s.heap s.heap [] := va_S.rf
  unfold w_T_sort at hq
  refine lv_bipush (v := (9 : Int32)) hx hb d_T_sort_0 (by decide) ?_
  exact hE (9 : Int32) () _ _ _ _ _ ls hq hC hS (Nat.le_of_ble_eq_true rfl) (Nat.le_of_ble_eq_true rfl) d_T_sort_2
def w_v_sort (K : KT) (r : Option Nat)  (post : Int32 → Prop) : Prop := ∃ b : Nat, r = some b ∧ b ∈ kL K ∧ (((kO K b).1 = 0 ∧ w_B_sort K b  post) ∨ ((kO K b).1 = 1 ∧ w_I_sort K b  post) ∨ ((kO K b).1 = 2 ∧ w_P_sort K b  post) ∨ ((kO K b).1 = 3 ∧ w_S_sort K b  post) ∨ ((kO K b).1 = 4 ∧ w_T_sort K b  post))
set_option maxHeartbeats 4000000 in
theorem kv_sort_C169 {p : Program} {l : Launch} {e : Env} {R : Room} {s : State} {m : MethodId} {args : Array Value} {below : List Frame} {meth : Method} {c : Code} {H : Heap} {locs : List Loc} {cells slots : Nat} {Q : State → Prop} {cc : ByteArray} {pc : Nat} {ls : Array Slot} {rest : List Value} {D : va_G} {A : Nat → Prop} {nL : Nat} {x hs : Nat} {cA : ClassId} {K : KT} {r : Option Nat}  {post : Int32 → Prop} (X : KC "MemberInspection" cc nL D (tysC cA) A p s m args c) (hsz : ls.size = nL) (hS : va_S A s.heap H locs) (hC : CW D A x hs cA K H) (hq : w_v_sort K r  post) (hF : 1 ≤ R.frames) (hL : 20 ≤ R.locals) (hw : (rest.map fun v => v.category).sum ≤ 8) (hdg : decode cc pc = .ok (.invokevirtual 169, 3)) (hf1 : cells + 0 ≤ R.cells) (hf2 : slots + 0 ≤ R.slots) (kk : ∀ (r2 : Int32) (H1 : Heap) (locs1 : List Loc), post r2 → CW D A x hs cA K H1 → va_S A s.heap H1 locs1 → W p l e R s m args below meth c H1 locs1 (cells + 0) (slots + 0) Q (F0 m (pc + 3) ls (.int r2 :: rest))) : W p l e R s m args below meth c H locs cells slots Q (F0 m pc ls (va_rf r :: rest)) := by
  obtain ⟨b, rfl, hb, hq⟩ := hq
  rcases hq with ⟨ht, hq⟩ | ⟨ht, hq⟩ | ⟨ht, hq⟩ | ⟨ht, hq⟩ | ⟨ht, hq⟩
  · exact kci (BB := fun (_ : Unit) H => CW D A x hs cA K H) (krA (b := b) (As := []) (C := "MemberInspection$Box") (x := y_H_sort) X hsz hS hC (c_B_sort l D A cA x hs K b  _ hq) ki_B_sort wd_258 wd_260 (X.N.2.2.2.1 y_H_sort (by decide +kernel)) wd_261 wd_262 (by decide +kernel) (krec X hC hb ht rfl) ⟨rfl, rfl, Nat.le_trans (Nat.le_of_ble_eq_true rfl) hF, Nat.le_trans (Nat.le_of_ble_eq_true rfl) hL⟩ rfl rfl hw hdg ⟨Nat.le_trans (Nat.add_le_add_left (Nat.le_of_ble_eq_true rfl) _) hf1, Nat.le_trans (Nat.add_le_add_left (Nat.le_of_ble_eq_true rfl) _) hf2⟩) hS (fun r2 _u H1 locs1 hp hC1 hS1 => W.widen (Nat.add_le_add_left (Nat.le_of_ble_eq_true rfl) _) (Nat.add_le_add_left (Nat.le_of_ble_eq_true rfl) _) (kk r2 H1 locs1 hp hC1 hS1))
  · exact kci (BB := fun (_ : Unit) H => CW D A x hs cA K H) (krA (b := b) (As := []) (C := "MemberInspection$Item") (x := y_H_sort) X hsz hS hC (c_I_sort l D A cA x hs K b  _ hq) ki_I_sort wd_258 wd_260 (X.N.2.2.2.1 y_H_sort (by decide +kernel)) wd_264 wd_265 (by decide +kernel) (krec X hC hb ht rfl) ⟨rfl, rfl, Nat.le_trans (Nat.le_of_ble_eq_true rfl) hF, Nat.le_trans (Nat.le_of_ble_eq_true rfl) hL⟩ rfl rfl hw hdg ⟨Nat.le_trans (Nat.add_le_add_left (Nat.le_of_ble_eq_true rfl) _) hf1, Nat.le_trans (Nat.add_le_add_left (Nat.le_of_ble_eq_true rfl) _) hf2⟩) hS (fun r2 _u H1 locs1 hp hC1 hS1 => W.widen (Nat.add_le_add_left (Nat.le_of_ble_eq_true rfl) _) (Nat.add_le_add_left (Nat.le_of_ble_eq_true rfl) _) (kk r2 H1 locs1 hp hC1 hS1))
  · exact kci (BB := fun (_ : Unit) H => CW D A x hs cA K H) (krA (b := b) (As := []) (C := "MemberInspection$Plain") (x := y_H_sort) X hsz hS hC (c_P_sort l D A cA x hs K b  _ hq) ki_P_sort wd_258 wd_260 (X.N.2.2.2.1 y_H_sort (by decide +kernel)) wd_267 wd_268 (by decide +kernel) (krec X hC hb ht rfl) ⟨rfl, rfl, Nat.le_trans (Nat.le_of_ble_eq_true rfl) hF, Nat.le_trans (Nat.le_of_ble_eq_true rfl) hL⟩ rfl rfl hw hdg ⟨Nat.le_trans (Nat.add_le_add_left (Nat.le_of_ble_eq_true rfl) _) hf1, Nat.le_trans (Nat.add_le_add_left (Nat.le_of_ble_eq_true rfl) _) hf2⟩) hS (fun r2 _u H1 locs1 hp hC1 hS1 => W.widen (Nat.add_le_add_left (Nat.le_of_ble_eq_true rfl) _) (Nat.add_le_add_left (Nat.le_of_ble_eq_true rfl) _) (kk r2 H1 locs1 hp hC1 hS1))
  · exact kci (BB := fun (_ : Unit) H => CW D A x hs cA K H) (krA (b := b) (As := []) (C := "MemberInspection$Special") (x := y_H_sort) X hsz hS hC (c_S_sort l D A cA x hs K b  _ hq) ki_S_sort wd_258 wd_260 (X.N.2.2.2.1 y_H_sort (by decide +kernel)) wd_270 wd_271 (by decide +kernel) (krec X hC hb ht rfl) ⟨rfl, rfl, Nat.le_trans (Nat.le_of_ble_eq_true rfl) hF, Nat.le_trans (Nat.le_of_ble_eq_true rfl) hL⟩ rfl rfl hw hdg ⟨Nat.le_trans (Nat.add_le_add_left (Nat.le_of_ble_eq_true rfl) _) hf1, Nat.le_trans (Nat.add_le_add_left (Nat.le_of_ble_eq_true rfl) _) hf2⟩) hS (fun r2 _u H1 locs1 hp hC1 hS1 => W.widen (Nat.add_le_add_left (Nat.le_of_ble_eq_true rfl) _) (Nat.add_le_add_left (Nat.le_of_ble_eq_true rfl) _) (kk r2 H1 locs1 hp hC1 hS1))
  · exact kci (BB := fun (_ : Unit) H => CW D A x hs cA K H) (krA (b := b) (As := []) (C := "MemberInspection$Text") (x := y_H_sort) X hsz hS hC (c_T_sort l D A cA x hs K b  _ hq) ki_T_sort wd_258 wd_260 (X.N.2.2.2.1 y_H_sort (by decide +kernel)) wd_273 wd_274 (by decide +kernel) (krec X hC hb ht rfl) ⟨rfl, rfl, Nat.le_trans (Nat.le_of_ble_eq_true rfl) hF, Nat.le_trans (Nat.le_of_ble_eq_true rfl) hL⟩ rfl rfl hw hdg ⟨Nat.le_trans (Nat.add_le_add_left (Nat.le_of_ble_eq_true rfl) _) hf1, Nat.le_trans (Nat.add_le_add_left (Nat.le_of_ble_eq_true rfl) _) hf2⟩) hS (fun r2 _u H1 locs1 hp hC1 hS1 => W.widen (Nat.add_le_add_left (Nat.le_of_ble_eq_true rfl) _) (Nat.add_le_add_left (Nat.le_of_ble_eq_true rfl) _) (kk r2 H1 locs1 hp hC1 hS1))
def w_C_sortOf (K : KT) (a1 : Option Nat) (post : Int32 → Prop) : Prop := ((a1 = none) → (post (0 : Int32))) ∧ (¬ (a1 = none) → (w_v_sort K a1  (fun r9_1 => post r9_1)))
set_option maxHeartbeats 8000000 in
set_option maxRecDepth 100000 in
theorem c_C_sortOf (l : Launch) (D : va_G) (A : Nat → Prop) (cA : ClassId) (x hs : Nat) (K : KT) (a1 : Option Nat) (post : Int32 → Prop) (hq : w_C_sortOf K a1 post) : Met l y_C_sortOf (kw y_C_sortOf b_C_sortOf 1 (Option.some Jvm.ClassFile.FieldType.int)) ({ frames := 1, cells := 0, slots := 0, locals := 20 }) (kP D (tysC cA) A [va_rf a1] (CW D A x hs cA K)) (va_Qi (fun r (_ : Unit) => post r) (fun _ t => CW D A x hs cA K t.heap) A) 0 0 A := by
  refine kmet_i (BB := (fun (_ : Unit) H => CW D A x hs cA K H)) (lv := [(0, va_rf a1)]) (by decide +kernel) (by cases a1 <;> rfl) (by cases a1 <;> exact Nat.le_of_ble_eq_true rfl) ?_
  intro p e s m args below meth c Q ls X hin hC hl hE
  have hx := X.x
  have hb := X.b
  have hS : va_S A s.heap s.heap [] := va_S.rf
  unfold w_C_sortOf at hq
  refine kr_aload_n (r := a1) hx hb d_C_sortOf_0 rfl (lv_at hl 0 rfl) ?_
  refine kr_ifnonnull (r := a1) (tgt := 8) hx hb d_C_sortOf_1 (by decide) (fun c_2 => ?_) (fun c_2 => ?_)
  · have hq := hq.2 c_2
    refine kr_aload_n (r := a1) hx hb d_C_sortOf_8 rfl (lv_at hl 0 rfl) ?_
    refine kv_sort_C169 (r := a1) X hl.1 hS hC hq (Nat.le_of_ble_eq_true rfl) (Nat.le_of_ble_eq_true rfl) (Nat.le_of_ble_eq_true rfl) d_C_sortOf_9 (Nat.le_of_ble_eq_true rfl) (Nat.le_of_ble_eq_true rfl) (fun r9_1 H locs hq hC hS => ?_)
    exact hE r9_1 () _ _ _ _ _ ls hq hC hS (Nat.le_of_ble_eq_true rfl) (Nat.le_of_ble_eq_true rfl) d_C_sortOf_12
  · have hq := hq.1 c_2
    refine lv_iconst (v := (0 : Int32)) hx hb d_C_sortOf_4 (by decide) ?_
    refine lv_goto (tgt := 12) hx hb d_C_sortOf_5 (by decide) ?_
    exact hE (0 : Int32) () _ _ _ _ _ ls hq hC hS (Nat.le_of_ble_eq_true rfl) (Nat.le_of_ble_eq_true rfl) d_C_sortOf_12
def w_C_tagOf (K : KT) (a1 : Option Nat) (a2 : Option Nat) (post : Int32 → KT → Prop) : Prop := (okR K a1) ∧ ((((bI (ktg K a1 == 4)) = (0 : Int32)) → (w_C_fail K (2 : Int32) (fun r36_1 K36_1 => post r36_1 K36_1))) ∧ (¬ ((bI (ktg K a1 == 4)) = (0 : Int32)) → ((isT K a1 4) ∧ ((isT K a1 4) ∧ (w_C_sortOf K a2 (fun r22_2 => w_C_boxOfWhole K (4 : Int32) (((100 : Int32) * (oI (kob K a1))) + r22_2).toInt64 (fun r27_3 K27_3 => w_C_answer K27_3 r27_3 (fun r30_4 K30_4 => post r30_4 K30_4))))))))
set_option maxHeartbeats 8000000 in
set_option maxRecDepth 100000 in
theorem c_C_tagOf (l : Launch) (D : va_G) (A : Nat → Prop) (cA : ClassId) (x hs : Nat) (K : KT) (a1 : Option Nat) (a2 : Option Nat) (post : Int32 → KT → Prop) (hq : w_C_tagOf K a1 a2 post) : Met l y_C_tagOf (kw y_C_tagOf b_C_tagOf 4 (Option.some Jvm.ClassFile.FieldType.int)) ({ frames := 4, cells := 1, slots := 3, locals := 79 }) (kP D (tysC cA) A [.ref x, va_rf a1, va_rf a2] (CW D A x hs cA K)) (va_Qi post (fun u t => CW D A x hs cA u t.heap) A) 1 3 A := by
  refine kmet_i (BB := (fun u H => CW D A x hs cA u H)) (lv := [(0, .ref x), (1, va_rf a1), (2, va_rf a2)]) (by decide +kernel) (by cases a1 <;> cases a2 <;> rfl) (by cases a1 <;> cases a2 <;> exact Nat.le_of_ble_eq_true rfl) ?_
  intro p e s m args below meth c Q ls X hin hC hl hE
  have hx := X.x
  have hb := X.b
  have hS : va_S A s.heap s.heap [] := va_S.rf
  unfold w_C_tagOf at hq
  refine kr_aload_n (r := a1) hx hb d_C_tagOf_0 rfl (lv_at hl 1 rfl) ?_
  have hs_ := hq.1
  have hq := hq.2
  refine ki_inst_T (r := a1) X hC hs_ d_C_tagOf_1 ?_
  refine lv_if_eq (tgt := 34) hx hb d_C_tagOf_4 (by decide) (fun c_5 => ?_) (fun c_5 => ?_)
  · have hq := hq.1 c_5
    refine lv_aload_n hx hb d_C_tagOf_34 rfl (lv_at hl 0 rfl) ?_
    refine lv_iconst (v := (2 : Int32)) hx hb d_C_tagOf_35 (by decide) ?_
    refine kci (BB := fun u H => CW D A x hs cA u H) (krV (b := x) X hl.1 hS hC (c_C_fail l D A cA x hs K (2 : Int32) _ hq) ki_C_fail wd_276 wd_278 ws_C_fail (krecX X hC) ⟨rfl, rfl, Nat.le_of_ble_eq_true rfl, Nat.le_of_ble_eq_true rfl⟩ rfl rfl (Nat.le_of_ble_eq_true rfl) d_C_tagOf_36 ⟨Nat.le_of_ble_eq_true rfl, Nat.le_of_ble_eq_true rfl⟩) hS (fun r36_1 K36_1 H locs hq hC hS => ?_)
    exact hE r36_1 K36_1 _ _ _ _ _ ls hq hC hS (Nat.le_of_ble_eq_true rfl) (Nat.le_of_ble_eq_true rfl) d_C_tagOf_39
  · have hq := hq.2 c_5
    refine kr_aload_n (r := a1) hx hb d_C_tagOf_7 rfl (lv_at hl 1 rfl) ?_
    have hs_ := hq.1
    have hq := hq.2
    refine ki_cast_T (r := a1) X hC hs_ d_C_tagOf_8 ?_
    refine kr_astore_n (r := a1) (lv' := [(3, va_rf a1), (0, .ref x), (1, va_rf a1), (2, va_rf a2)]) hx hb d_C_tagOf_11 rfl hl (by decide) (by cases a1 <;> cases a2 <;> rfl) (fun ls hl => ?_)
    refine lv_aload_n hx hb d_C_tagOf_12 rfl (lv_at hl 1 rfl) ?_
    refine lv_iconst (v := (4 : Int32)) hx hb d_C_tagOf_13 (by decide) ?_
    refine lv_bipush (v := (100 : Int32)) hx hb d_C_tagOf_14 (by decide) ?_
    refine kr_aload_n (r := a1) hx hb d_C_tagOf_16 rfl (lv_at hl 0 rfl) ?_
    have hs_ := hq.1
    have hq := hq.2
    refine kg_number_C208 (r := a1) X hC hs_ d_C_tagOf_17 ?_
    refine lv_imul hx hb d_C_tagOf_20 ?_
    refine kr_aload_n (r := a2) hx hb d_C_tagOf_21 rfl (lv_at hl 3 rfl) ?_
    refine kci (BB := fun (_ : Unit) H => CW D A x hs cA K H) (krS X hl.1 hS hC (c_C_sortOf l D A cA x hs K a2 _ hq) ki_C_sortOf wd_255 wd_256 ⟨rfl, rfl, Nat.le_of_ble_eq_true rfl, Nat.le_of_ble_eq_true rfl⟩ rfl rfl (Nat.le_of_ble_eq_true rfl) d_C_tagOf_22 ⟨Nat.le_of_ble_eq_true rfl, Nat.le_of_ble_eq_true rfl⟩) hS (fun r22_2 _u H locs hq hC hS => ?_)
    refine lv_iadd hx hb d_C_tagOf_25 ?_
    refine lv_i2l hx hb d_C_tagOf_26 rfl ?_
    refine kcq (BB := fun u H => CW D A x hs cA u H) (krS X hl.1 hS hC (c_C_boxOfWhole l D A cA x hs K (4 : Int32) (((100 : Int32) * (oI (kob K a1))) + r22_2).toInt64 _ hq) ki_C_boxOfWhole wd_59 wd_60 ⟨rfl, rfl, Nat.le_of_ble_eq_true rfl, Nat.le_of_ble_eq_true rfl⟩ rfl rfl (Nat.le_of_ble_eq_true rfl) d_C_tagOf_27 ⟨Nat.le_of_ble_eq_true rfl, Nat.le_of_ble_eq_true rfl⟩) hS (fun r27_3 K27_3 H locs hq hC hS => ?_)
    refine kci (BB := fun u H => CW D A x hs cA u H) (krV (b := x) X hl.1 hS hC (c_C_answer l D A cA x hs K27_3 r27_3 _ hq) ki_C_answer wd_157 wd_159 ws_C_answer (krecX X hC) ⟨rfl, rfl, Nat.le_of_ble_eq_true rfl, Nat.le_of_ble_eq_true rfl⟩ rfl rfl (Nat.le_of_ble_eq_true rfl) d_C_tagOf_30 ⟨Nat.le_of_ble_eq_true rfl, Nat.le_of_ble_eq_true rfl⟩) hS (fun r30_4 K30_4 H locs hq hC hS => ?_)
    exact hE r30_4 K30_4 _ _ _ _ _ ls hq hC hS (Nat.le_of_ble_eq_true rfl) (Nat.le_of_ble_eq_true rfl) d_C_tagOf_33
def w_C_quotientOf (K : KT) (a1 : Int32) (a2 : Int32) (post : Int32 → KT → Prop) : Prop := ((a2 = (0 : Int32)) → (w_C_fail K (1 : Int32) (fun r6_3 K6_3 => post r6_3 K6_3))) ∧ (¬ (a2 = (0 : Int32)) → ((¬ a2 = (0 : Int32)) ∧ (w_C_boxOfWhole K (4 : Int32) (a1 / a2).toInt64 (fun r16_1 K16_1 => w_C_answer K16_1 r16_1 (fun r19_2 K19_2 => post r19_2 K19_2)))))
set_option maxHeartbeats 8000000 in
set_option maxRecDepth 100000 in
theorem c_C_quotientOf (l : Launch) (D : va_G) (A : Nat → Prop) (cA : ClassId) (x hs : Nat) (K : KT) (a1 : Int32) (a2 : Int32) (post : Int32 → KT → Prop) (hq : w_C_quotientOf K a1 a2 post) : Met l y_C_quotientOf (kw y_C_quotientOf b_C_quotientOf 3 (Option.some Jvm.ClassFile.FieldType.int)) ({ frames := 4, cells := 1, slots := 3, locals := 79 }) (kP D (tysC cA) A [.ref x, .int a1, .int a2] (CW D A x hs cA K)) (va_Qi post (fun u t => CW D A x hs cA u t.heap) A) 1 3 A := by
  refine kmet_i (BB := (fun u H => CW D A x hs cA u H)) (lv := [(0, .ref x), (1, .int a1), (2, .int a2)]) (by decide +kernel) rfl (Nat.le_of_ble_eq_true rfl) ?_
  intro p e s m args below meth c Q ls X hin hC hl hE
  have hx := X.x
  have hb := X.b
  have hS : va_S A s.heap s.heap [] := va_S.rf
  unfold w_C_quotientOf at hq
  refine lv_iload_n hx hb d_C_quotientOf_0 rfl (lv_at hl 2 rfl) ?_
  refine lv_if_ne (tgt := 10) hx hb d_C_quotientOf_1 (by decide) (fun c_4 => ?_) (fun c_4 => ?_)
  · have hq := hq.2 c_4
    refine lv_aload_n hx hb d_C_quotientOf_10 rfl (lv_at hl 0 rfl) ?_
    refine lv_iconst (v := (4 : Int32)) hx hb d_C_quotientOf_11 (by decide) ?_
    refine lv_iload_n hx hb d_C_quotientOf_12 rfl (lv_at hl 1 rfl) ?_
    refine lv_iload_n hx hb d_C_quotientOf_13 rfl (lv_at hl 2 rfl) ?_
    have hs_ := hq.1
    have hq := hq.2
    refine lv_idiv hx hb d_C_quotientOf_14 hs_ ?_
    refine lv_i2l hx hb d_C_quotientOf_15 rfl ?_
    refine kcq (BB := fun u H => CW D A x hs cA u H) (krS X hl.1 hS hC (c_C_boxOfWhole l D A cA x hs K (4 : Int32) (a1 / a2).toInt64 _ hq) ki_C_boxOfWhole wd_59 wd_60 ⟨rfl, rfl, Nat.le_of_ble_eq_true rfl, Nat.le_of_ble_eq_true rfl⟩ rfl rfl (Nat.le_of_ble_eq_true rfl) d_C_quotientOf_16 ⟨Nat.le_of_ble_eq_true rfl, Nat.le_of_ble_eq_true rfl⟩) hS (fun r16_1 K16_1 H locs hq hC hS => ?_)
    refine kci (BB := fun u H => CW D A x hs cA u H) (krV (b := x) X hl.1 hS hC (c_C_answer l D A cA x hs K16_1 r16_1 _ hq) ki_C_answer wd_157 wd_159 ws_C_answer (krecX X hC) ⟨rfl, rfl, Nat.le_of_ble_eq_true rfl, Nat.le_of_ble_eq_true rfl⟩ rfl rfl (Nat.le_of_ble_eq_true rfl) d_C_quotientOf_19 ⟨Nat.le_of_ble_eq_true rfl, Nat.le_of_ble_eq_true rfl⟩) hS (fun r19_2 K19_2 H locs hq hC hS => ?_)
    exact hE r19_2 K19_2 _ _ _ _ _ ls hq hC hS (Nat.le_of_ble_eq_true rfl) (Nat.le_of_ble_eq_true rfl) d_C_quotientOf_22
  · have hq := hq.1 c_4
    refine lv_aload_n hx hb d_C_quotientOf_4 rfl (lv_at hl 0 rfl) ?_
    refine lv_iconst (v := (1 : Int32)) hx hb d_C_quotientOf_5 (by decide) ?_
    refine kci (BB := fun u H => CW D A x hs cA u H) (krV (b := x) X hl.1 hS hC (c_C_fail l D A cA x hs K (1 : Int32) _ hq) ki_C_fail wd_276 wd_278 ws_C_fail (krecX X hC) ⟨rfl, rfl, Nat.le_of_ble_eq_true rfl, Nat.le_of_ble_eq_true rfl⟩ rfl rfl (Nat.le_of_ble_eq_true rfl) d_C_quotientOf_6 ⟨Nat.le_of_ble_eq_true rfl, Nat.le_of_ble_eq_true rfl⟩) hS (fun r6_3 K6_3 H locs hq hC hS => ?_)
    exact hE r6_3 K6_3 _ _ _ _ _ ls hq hC hS (Nat.le_of_ble_eq_true rfl) (Nat.le_of_ble_eq_true rfl) d_C_quotientOf_9
def w_I_pick (K : KT) (b : Nat) (a1 : Option Nat) (post : Int32 → Prop) : Prop := (isI K (some b)) ∧ ((isI K a1) ∧ (post ((oI (kob K (some b))) - (oI (kob K a1)))))
set_option maxHeartbeats 8000000 in
set_option maxRecDepth 100000 in
theorem c_I_pick (l : Launch) (D : va_G) (A : Nat → Prop) (cA : ClassId) (x hs : Nat) (K : KT) (b : Nat) (a1 : Option Nat) (post : Int32 → Prop) (hq : w_I_pick K b a1 post) : Met l y_I_pick (kw y_I_pick b_I_pick 2 (Option.some Jvm.ClassFile.FieldType.int)) ({ frames := 0, cells := 0, slots := 0, locals := 0 }) (kP D (tysC cA) A [va_rf (some b), va_rf a1] (CW D A x hs cA K)) (va_Qi (fun r (_ : Unit) => post r) (fun _ t => CW D A x hs cA K t.heap) A) 0 0 A := by
  refine kmet_i (BB := (fun (_ : Unit) H => CW D A x hs cA K H)) (lv := [(0, va_rf (some b)), (1, va_rf a1)]) (by decide +kernel) (by cases a1 <;> rfl) (by cases a1 <;> exact Nat.le_of_ble_eq_true rfl) ?_
  intro p e s m args below meth c Q ls X hin hC hl hE
  have hx := X.x
  have hb := X.b
  have hS : va_S A s.heap s.heap [] := va_S.rf
  unfold w_I_pick at hq
  refine kr_aload_n (r := (some b)) hx hb d_I_pick_0 rfl (lv_at hl 0 rfl) ?_
  have hs_ := hq.1
  have hq := hq.2
  refine kg_whole_I9 (r := (some b)) X hC hs_ d_I_pick_1 ?_
  refine kr_aload_n (r := a1) hx hb d_I_pick_4 rfl (lv_at hl 1 rfl) ?_
  have hs_ := hq.1
  have hq := hq.2
  refine kg_whole_I9 (r := a1) X hC hs_ d_I_pick_5 ?_
  refine lv_isub hx hb d_I_pick_8 ?_
  exact hE ((oI (kob K (some b))) - (oI (kob K a1))) () _ _ _ _ _ ls hq hC hS (Nat.le_of_ble_eq_true rfl) (Nat.le_of_ble_eq_true rfl) d_I_pick_9
def w_S_pick (K : KT) (b : Nat) (a1 : Option Nat) (post : Int32 → Prop) : Prop := (isT K (some b) 3) ∧ ((isI K a1) ∧ (post ((oX (kob K (some b))) + (oI (kob K a1)))))
set_option maxHeartbeats 8000000 in
set_option maxRecDepth 100000 in
theorem c_S_pick (l : Launch) (D : va_G) (A : Nat → Prop) (cA : ClassId) (x hs : Nat) (K : KT) (b : Nat) (a1 : Option Nat) (post : Int32 → Prop) (hq : w_S_pick K b a1 post) : Met l y_S_pick (kw y_S_pick b_S_pick 2 (Option.some Jvm.ClassFile.FieldType.int)) ({ frames := 0, cells := 0, slots := 0, locals := 0 }) (kP D (tysC cA) A [va_rf (some b), va_rf a1] (CW D A x hs cA K)) (va_Qi (fun r (_ : Unit) => post r) (fun _ t => CW D A x hs cA K t.heap) A) 0 0 A := by
  refine kmet_i (BB := (fun (_ : Unit) H => CW D A x hs cA K H)) (lv := [(0, va_rf (some b)), (1, va_rf a1)]) (by decide +kernel) (by cases a1 <;> rfl) (by cases a1 <;> exact Nat.le_of_ble_eq_true rfl) ?_
  intro p e s m args below meth c Q ls X hin hC hl hE
  have hx := X.x
  have hb := X.b
  have hS : va_S A s.heap s.heap [] := va_S.rf
  unfold w_S_pick at hq
  refine kr_aload_n (r := (some b)) hx hb d_S_pick_0 rfl (lv_at hl 0 rfl) ?_
  have hs_ := hq.1
  have hq := hq.2
  refine kg_extra_S9 (r := (some b)) X hC hs_ d_S_pick_1 ?_
  refine kr_aload_n (r := a1) hx hb d_S_pick_4 rfl (lv_at hl 1 rfl) ?_
  have hs_ := hq.1
  have hq := hq.2
  refine kg_whole_S15 (r := a1) X hC hs_ d_S_pick_5 ?_
  refine lv_iadd hx hb d_S_pick_8 ?_
  exact hE ((oX (kob K (some b))) + (oI (kob K a1))) () _ _ _ _ _ ls hq hC hS (Nat.le_of_ble_eq_true rfl) (Nat.le_of_ble_eq_true rfl) d_S_pick_9
def w_v_pick (K : KT) (r : Option Nat) (a1 : Option Nat) (post : Int32 → Prop) : Prop := ∃ b : Nat, r = some b ∧ b ∈ kL K ∧ (((kO K b).1 = 1 ∧ w_I_pick K b a1 post) ∨ ((kO K b).1 = 3 ∧ w_S_pick K b a1 post))
set_option maxHeartbeats 4000000 in
theorem kv_pick_C215 {p : Program} {l : Launch} {e : Env} {R : Room} {s : State} {m : MethodId} {args : Array Value} {below : List Frame} {meth : Method} {c : Code} {H : Heap} {locs : List Loc} {cells slots : Nat} {Q : State → Prop} {cc : ByteArray} {pc : Nat} {ls : Array Slot} {rest : List Value} {D : va_G} {A : Nat → Prop} {nL : Nat} {x hs : Nat} {cA : ClassId} {K : KT} {r : Option Nat} {a1 : Option Nat} {post : Int32 → Prop} (X : KC "MemberInspection" cc nL D (tysC cA) A p s m args c) (hsz : ls.size = nL) (hS : va_S A s.heap H locs) (hC : CW D A x hs cA K H) (hq : w_v_pick K r a1 post) (hF : 1 ≤ R.frames) (hL : 21 ≤ R.locals) (hw : (rest.map fun v => v.category).sum ≤ 8) (hdg : decode cc pc = .ok (.invokevirtual 215, 3)) (hf1 : cells + 0 ≤ R.cells) (hf2 : slots + 0 ≤ R.slots) (kk : ∀ (r2 : Int32) (H1 : Heap) (locs1 : List Loc), post r2 → CW D A x hs cA K H1 → va_S A s.heap H1 locs1 → W p l e R s m args below meth c H1 locs1 (cells + 0) (slots + 0) Q (F0 m (pc + 3) ls (.int r2 :: rest))) : W p l e R s m args below meth c H locs cells slots Q (F0 m pc ls (va_rf a1 :: va_rf r :: rest)) := by
  obtain ⟨b, rfl, hb, hq⟩ := hq
  rcases hq with ⟨ht, hq⟩ | ⟨ht, hq⟩
  · exact kci (BB := fun (_ : Unit) H => CW D A x hs cA K H) (krV (b := b) (As := [va_rf a1]) X hsz hS hC (c_I_pick l D A cA x hs K b a1 _ hq) ki_I_pick wd_288 wd_289 wd_290 (krec X hC hb ht rfl) ⟨rfl, rfl, Nat.le_trans (Nat.le_of_ble_eq_true rfl) hF, Nat.le_trans (Nat.le_of_ble_eq_true rfl) hL⟩ rfl rfl hw hdg ⟨Nat.le_trans (Nat.add_le_add_left (Nat.le_of_ble_eq_true rfl) _) hf1, Nat.le_trans (Nat.add_le_add_left (Nat.le_of_ble_eq_true rfl) _) hf2⟩) hS (fun r2 _u H1 locs1 hp hC1 hS1 => W.widen (Nat.add_le_add_left (Nat.le_of_ble_eq_true rfl) _) (Nat.add_le_add_left (Nat.le_of_ble_eq_true rfl) _) (kk r2 H1 locs1 hp hC1 hS1))
  · exact kci (BB := fun (_ : Unit) H => CW D A x hs cA K H) (krO (b := b) (As := [va_rf a1]) (C := "MemberInspection$Special") (x := y_I_pick) X hsz hS hC (c_S_pick l D A cA x hs K b a1 _ hq) ki_S_pick wd_288 wd_291 wd_289 wd_295 wd_292 wd_293 (by decide +kernel) (krec X hC hb ht rfl) ⟨rfl, rfl, Nat.le_trans (Nat.le_of_ble_eq_true rfl) hF, Nat.le_trans (Nat.le_of_ble_eq_true rfl) hL⟩ rfl rfl hw hdg ⟨Nat.le_trans (Nat.add_le_add_left (Nat.le_of_ble_eq_true rfl) _) hf1, Nat.le_trans (Nat.add_le_add_left (Nat.le_of_ble_eq_true rfl) _) hf2⟩) hS (fun r2 _u H1 locs1 hp hC1 hS1 => W.widen (Nat.add_le_add_left (Nat.le_of_ble_eq_true rfl) _) (Nat.add_le_add_left (Nat.le_of_ble_eq_true rfl) _) (kk r2 H1 locs1 hp hC1 hS1))
def w_C_pickOf (K : KT) (a1 : Option Nat) (a2 : Option Nat) (post : Int32 → KT → Prop) : Prop := (okR K a2) ∧ ((((bI (ktg K a2 == 1 || ktg K a2 == 3)) = (0 : Int32)) → (w_C_fail K (2 : Int32) (fun r29_1 K29_1 => post r29_1 K29_1))) ∧ (¬ ((bI (ktg K a2 == 1 || ktg K a2 == 3)) = (0 : Int32)) → ((isI K a2) ∧ (w_v_pick K a1 a2 (fun r16_2 => w_C_boxOfWhole K (4 : Int32) (r16_2).toInt64 (fun r20_3 K20_3 => w_C_answer K20_3 r20_3 (fun r23_4 K23_4 => post r23_4 K23_4)))))))
set_option maxHeartbeats 8000000 in
set_option maxRecDepth 100000 in
theorem c_C_pickOf (l : Launch) (D : va_G) (A : Nat → Prop) (cA : ClassId) (x hs : Nat) (K : KT) (a1 : Option Nat) (a2 : Option Nat) (post : Int32 → KT → Prop) (hq : w_C_pickOf K a1 a2 post) : Met l y_C_pickOf (kw y_C_pickOf b_C_pickOf 4 (Option.some Jvm.ClassFile.FieldType.int)) ({ frames := 4, cells := 1, slots := 3, locals := 79 }) (kP D (tysC cA) A [.ref x, va_rf a1, va_rf a2] (CW D A x hs cA K)) (va_Qi post (fun u t => CW D A x hs cA u t.heap) A) 1 3 A := by
  refine kmet_i (BB := (fun u H => CW D A x hs cA u H)) (lv := [(0, .ref x), (1, va_rf a1), (2, va_rf a2)]) (by decide +kernel) (by cases a1 <;> cases a2 <;> rfl) (by cases a1 <;> cases a2 <;> exact Nat.le_of_ble_eq_true rfl) ?_
  intro p e s m args below meth c Q ls X hin hC hl hE
  have hx := X.x
  have hb := X.b
  have hS : va_S A s.heap s.heap [] := va_S.rf
  unfold w_C_pickOf at hq
  refine kr_aload_n (r := a2) hx hb d_C_pickOf_0 rfl (lv_at hl 2 rfl) ?_
  have hs_ := hq.1
  have hq := hq.2
  refine ki_inst_I (r := a2) X hC hs_ d_C_pickOf_1 ?_
  refine lv_if_eq (tgt := 27) hx hb d_C_pickOf_4 (by decide) (fun c_5 => ?_) (fun c_5 => ?_)
  · have hq := hq.1 c_5
    refine lv_aload_n hx hb d_C_pickOf_27 rfl (lv_at hl 0 rfl) ?_
    refine lv_iconst (v := (2 : Int32)) hx hb d_C_pickOf_28 (by decide) ?_
    refine kci (BB := fun u H => CW D A x hs cA u H) (krV (b := x) X hl.1 hS hC (c_C_fail l D A cA x hs K (2 : Int32) _ hq) ki_C_fail wd_276 wd_278 ws_C_fail (krecX X hC) ⟨rfl, rfl, Nat.le_of_ble_eq_true rfl, Nat.le_of_ble_eq_true rfl⟩ rfl rfl (Nat.le_of_ble_eq_true rfl) d_C_pickOf_29 ⟨Nat.le_of_ble_eq_true rfl, Nat.le_of_ble_eq_true rfl⟩) hS (fun r29_1 K29_1 H locs hq hC hS => ?_)
    exact hE r29_1 K29_1 _ _ _ _ _ ls hq hC hS (Nat.le_of_ble_eq_true rfl) (Nat.le_of_ble_eq_true rfl) d_C_pickOf_32
  · have hq := hq.2 c_5
    refine kr_aload_n (r := a2) hx hb d_C_pickOf_7 rfl (lv_at hl 2 rfl) ?_
    have hs_ := hq.1
    have hq := hq.2
    refine ki_cast_I (r := a2) X hC hs_ d_C_pickOf_8 ?_
    refine kr_astore_n (r := a2) (lv' := [(3, va_rf a2), (0, .ref x), (1, va_rf a1), (2, va_rf a2)]) hx hb d_C_pickOf_11 rfl hl (by decide) (by cases a1 <;> cases a2 <;> rfl) (fun ls hl => ?_)
    refine lv_aload_n hx hb d_C_pickOf_12 rfl (lv_at hl 1 rfl) ?_
    refine lv_iconst (v := (4 : Int32)) hx hb d_C_pickOf_13 (by decide) ?_
    refine kr_aload_n (r := a1) hx hb d_C_pickOf_14 rfl (lv_at hl 2 rfl) ?_
    refine kr_aload_n (r := a2) hx hb d_C_pickOf_15 rfl (lv_at hl 0 rfl) ?_
    refine kv_pick_C215 (r := a1) X hl.1 hS hC hq (Nat.le_of_ble_eq_true rfl) (Nat.le_of_ble_eq_true rfl) (Nat.le_of_ble_eq_true rfl) d_C_pickOf_16 (Nat.le_of_ble_eq_true rfl) (Nat.le_of_ble_eq_true rfl) (fun r16_2 H locs hq hC hS => ?_)
    refine lv_i2l hx hb d_C_pickOf_19 rfl ?_
    refine kcq (BB := fun u H => CW D A x hs cA u H) (krS X hl.1 hS hC (c_C_boxOfWhole l D A cA x hs K (4 : Int32) (r16_2).toInt64 _ hq) ki_C_boxOfWhole wd_59 wd_60 ⟨rfl, rfl, Nat.le_of_ble_eq_true rfl, Nat.le_of_ble_eq_true rfl⟩ rfl rfl (Nat.le_of_ble_eq_true rfl) d_C_pickOf_20 ⟨Nat.le_of_ble_eq_true rfl, Nat.le_of_ble_eq_true rfl⟩) hS (fun r20_3 K20_3 H locs hq hC hS => ?_)
    refine kci (BB := fun u H => CW D A x hs cA u H) (krV (b := x) X hl.1 hS hC (c_C_answer l D A cA x hs K20_3 r20_3 _ hq) ki_C_answer wd_157 wd_159 ws_C_answer (krecX X hC) ⟨rfl, rfl, Nat.le_of_ble_eq_true rfl, Nat.le_of_ble_eq_true rfl⟩ rfl rfl (Nat.le_of_ble_eq_true rfl) d_C_pickOf_23 ⟨Nat.le_of_ble_eq_true rfl, Nat.le_of_ble_eq_true rfl⟩) hS (fun r23_4 K23_4 H locs hq hC hS => ?_)
    exact hE r23_4 K23_4 _ _ _ _ _ ls hq hC hS (Nat.le_of_ble_eq_true rfl) (Nat.le_of_ble_eq_true rfl) d_C_pickOf_26
def w_C_invokeOn (K : KT) (a1 : Option Nat) (a2 : Int32) (a3 : Option Nat) (a4 : Option Nat) (post : Int32 → KT → Prop) : Prop := ((a2 = (0 : Int32)) → (w_C_wholeOf K a3 (fun r43_2 => w_C_wholeOf K a4 (fun r48_3 => (isI K a1) ∧ (w_C_boxOfWhole K (5 : Int32) ((r43_2 + r48_3) + (oI (kob K a1)).toInt64) (fun r58_4 K58_4 => w_C_answer K58_4 r58_4 (fun r61_5 K61_5 => post r61_5 K61_5))))))) ∧ (¬ (a2 = (0 : Int32)) → (((a2 = (1 : Int32)) → (w_C_tagOf K a3 a4 (fun r69_7 K69_7 => post r69_7 K69_7))) ∧ (¬ (a2 = (1 : Int32)) → (((a2 = (2 : Int32)) → (post (2 : Int32) K)) ∧ (¬ (a2 = (2 : Int32)) → (((a2 = (3 : Int32)) → (w_C_wholeOf K a3 (fun r75_10 => w_C_wholeOf K a4 (fun r81_11 => w_C_quotientOf K (r75_10).toInt32 (r81_11).toInt32 (fun r85_12 K85_12 => post r85_12 K85_12))))) ∧ (¬ (a2 = (3 : Int32)) → (((a2 = (4 : Int32)) → (w_C_pickOf K a1 a3 (fun r92_14 K92_14 => post r92_14 K92_14))) ∧ (¬ (a2 = (4 : Int32)) → (((a2 = (5 : Int32)) → (w_C_wholeOf K a3 (fun r98_16 => (isI K a1) ∧ (w_C_answer (ksR K a1 (osS (kob K a1) (r98_16).toInt32.toInt8.toInt32)) a1 (fun r108_17 K108_17 => post r108_17 K108_17))))) ∧ (¬ (a2 = (5 : Int32)) → (post (2 : Int32) K))))))))))))
set_option maxHeartbeats 8000000 in
set_option maxRecDepth 100000 in
theorem c_C_invokeOn (l : Launch) (D : va_G) (A : Nat → Prop) (cA : ClassId) (x hs : Nat) (K : KT) (a1 : Option Nat) (a2 : Int32) (a3 : Option Nat) (a4 : Option Nat) (post : Int32 → KT → Prop) (hq : w_C_invokeOn K a1 a2 a3 a4 post) : Met l y_C_invokeOn (kw y_C_invokeOn b_C_invokeOn 5 (Option.some Jvm.ClassFile.FieldType.int)) ({ frames := 5, cells := 1, slots := 3, locals := 102 }) (kP D (tysC cA) A [.ref x, va_rf a1, .int a2, va_rf a3, va_rf a4] (CW D A x hs cA K)) (va_Qi post (fun u t => CW D A x hs cA u t.heap) A) 1 3 A := by
  refine kmet_i (BB := (fun u H => CW D A x hs cA u H)) (lv := [(0, .ref x), (1, va_rf a1), (2, .int a2), (3, va_rf a3), (4, va_rf a4)]) (by decide +kernel) (by cases a1 <;> cases a3 <;> cases a4 <;> rfl) (by cases a1 <;> cases a3 <;> cases a4 <;> exact Nat.le_of_ble_eq_true rfl) ?_
  intro p e s m args below meth c Q ls X hin hC hl hE
  have hx := X.x
  have hb := X.b
  have hS : va_S A s.heap s.heap [] := va_S.rf
  unfold w_C_invokeOn at hq
  refine lv_iload_n hx hb d_C_invokeOn_0 rfl (lv_at hl 2 rfl) ?_
  by_cases g_1 : a2 = (0 : Int32)
  · have hq := hq.1 g_1
    refine lv_tableIn (off := 39) (tgt := 40) hx hb d_C_invokeOn_1 (by rw [g_1]; decide) (by rw [g_1]; decide) (by rw [g_1]; rfl) (by decide) ?_
    refine lv_aload_n hx hb d_C_invokeOn_40 rfl (lv_at hl 0 rfl) ?_
    refine lv_iconst (v := (5 : Int32)) hx hb d_C_invokeOn_41 (by decide) ?_
    refine kr_aload_n (r := a3) hx hb d_C_invokeOn_42 rfl (lv_at hl 3 rfl) ?_
    refine kcl_ (BB := fun (_ : Unit) H => CW D A x hs cA K H) (krS X hl.1 hS hC (c_C_wholeOf l D A cA x hs K a3 _ hq) ki_C_wholeOf wd_213 wd_214 ⟨rfl, rfl, Nat.le_of_ble_eq_true rfl, Nat.le_of_ble_eq_true rfl⟩ rfl rfl (Nat.le_of_ble_eq_true rfl) d_C_invokeOn_43 ⟨Nat.le_of_ble_eq_true rfl, Nat.le_of_ble_eq_true rfl⟩) hS (fun r43_2 _u H locs hq hC hS => ?_)
    refine kr_aload (r := a4) hx hb d_C_invokeOn_46 (lv_at hl 4 rfl) ?_
    refine kcl_ (BB := fun (_ : Unit) H => CW D A x hs cA K H) (krS X hl.1 hS hC (c_C_wholeOf l D A cA x hs K a4 _ hq) ki_C_wholeOf wd_213 wd_214 ⟨rfl, rfl, Nat.le_of_ble_eq_true rfl, Nat.le_of_ble_eq_true rfl⟩ rfl rfl (Nat.le_of_ble_eq_true rfl) d_C_invokeOn_48 ⟨Nat.le_of_ble_eq_true rfl, Nat.le_of_ble_eq_true rfl⟩) hS (fun r48_3 _u H locs hq hC hS => ?_)
    refine lv_ladd hx hb d_C_invokeOn_51 ?_
    refine kr_aload_n (r := a1) hx hb d_C_invokeOn_52 rfl (lv_at hl 1 rfl) ?_
    have hs_ := hq.1
    have hq := hq.2
    refine kg_whole_C191 (r := a1) X hC hs_ d_C_invokeOn_53 ?_
    refine lv_i2l hx hb d_C_invokeOn_56 rfl ?_
    refine lv_ladd hx hb d_C_invokeOn_57 ?_
    refine kcq (BB := fun u H => CW D A x hs cA u H) (krS X hl.1 hS hC (c_C_boxOfWhole l D A cA x hs K (5 : Int32) ((r43_2 + r48_3) + (oI (kob K a1)).toInt64) _ hq) ki_C_boxOfWhole wd_59 wd_60 ⟨rfl, rfl, Nat.le_of_ble_eq_true rfl, Nat.le_of_ble_eq_true rfl⟩ rfl rfl (Nat.le_of_ble_eq_true rfl) d_C_invokeOn_58 ⟨Nat.le_of_ble_eq_true rfl, Nat.le_of_ble_eq_true rfl⟩) hS (fun r58_4 K58_4 H locs hq hC hS => ?_)
    refine kci (BB := fun u H => CW D A x hs cA u H) (krV (b := x) X hl.1 hS hC (c_C_answer l D A cA x hs K58_4 r58_4 _ hq) ki_C_answer wd_157 wd_159 ws_C_answer (krecX X hC) ⟨rfl, rfl, Nat.le_of_ble_eq_true rfl, Nat.le_of_ble_eq_true rfl⟩ rfl rfl (Nat.le_of_ble_eq_true rfl) d_C_invokeOn_61 ⟨Nat.le_of_ble_eq_true rfl, Nat.le_of_ble_eq_true rfl⟩) hS (fun r61_5 K61_5 H locs hq hC hS => ?_)
    exact hE r61_5 K61_5 _ _ _ _ _ ls hq hC hS (Nat.le_of_ble_eq_true rfl) (Nat.le_of_ble_eq_true rfl) d_C_invokeOn_64
  · have hq := hq.2 g_1
    by_cases g_6 : a2 = (1 : Int32)
    · have hq := hq.1 g_6
      refine lv_tableIn (off := 64) (tgt := 65) hx hb d_C_invokeOn_1 (by rw [g_6]; decide) (by rw [g_6]; decide) (by rw [g_6]; rfl) (by decide) ?_
      refine lv_aload_n hx hb d_C_invokeOn_65 rfl (lv_at hl 0 rfl) ?_
      refine kr_aload_n (r := a3) hx hb d_C_invokeOn_66 rfl (lv_at hl 3 rfl) ?_
      refine kr_aload (r := a4) hx hb d_C_invokeOn_67 (lv_at hl 4 rfl) ?_
      refine kci (BB := fun u H => CW D A x hs cA u H) (krV (b := x) X hl.1 hS hC (c_C_tagOf l D A cA x hs K a3 a4 _ hq) ki_C_tagOf wd_251 wd_253 ws_C_tagOf (krecX X hC) ⟨rfl, rfl, Nat.le_of_ble_eq_true rfl, Nat.le_of_ble_eq_true rfl⟩ rfl rfl (Nat.le_of_ble_eq_true rfl) d_C_invokeOn_69 ⟨Nat.le_of_ble_eq_true rfl, Nat.le_of_ble_eq_true rfl⟩) hS (fun r69_7 K69_7 H locs hq hC hS => ?_)
      exact hE r69_7 K69_7 _ _ _ _ _ ls hq hC hS (Nat.le_of_ble_eq_true rfl) (Nat.le_of_ble_eq_true rfl) d_C_invokeOn_72
    · have hq := hq.2 g_6
      by_cases g_8 : a2 = (2 : Int32)
      · have hq := hq.1 g_8
        refine lv_tableIn (off := 111) (tgt := 112) hx hb d_C_invokeOn_1 (by rw [g_8]; decide) (by rw [g_8]; decide) (by rw [g_8]; rfl) (by decide) ?_
        refine lv_iconst (v := (2 : Int32)) hx hb d_C_invokeOn_112 (by decide) ?_
        exact hE (2 : Int32) K _ _ _ _ _ ls hq hC hS (Nat.le_of_ble_eq_true rfl) (Nat.le_of_ble_eq_true rfl) d_C_invokeOn_113
      · have hq := hq.2 g_8
        by_cases g_9 : a2 = (3 : Int32)
        · have hq := hq.1 g_9
          refine lv_tableIn (off := 72) (tgt := 73) hx hb d_C_invokeOn_1 (by rw [g_9]; decide) (by rw [g_9]; decide) (by rw [g_9]; rfl) (by decide) ?_
          refine lv_aload_n hx hb d_C_invokeOn_73 rfl (lv_at hl 0 rfl) ?_
          refine kr_aload_n (r := a3) hx hb d_C_invokeOn_74 rfl (lv_at hl 3 rfl) ?_
          refine kcl_ (BB := fun (_ : Unit) H => CW D A x hs cA K H) (krS X hl.1 hS hC (c_C_wholeOf l D A cA x hs K a3 _ hq) ki_C_wholeOf wd_213 wd_214 ⟨rfl, rfl, Nat.le_of_ble_eq_true rfl, Nat.le_of_ble_eq_true rfl⟩ rfl rfl (Nat.le_of_ble_eq_true rfl) d_C_invokeOn_75 ⟨Nat.le_of_ble_eq_true rfl, Nat.le_of_ble_eq_true rfl⟩) hS (fun r75_10 _u H locs hq hC hS => ?_)
          refine lv_l2i hx hb d_C_invokeOn_78 rfl ?_
          refine kr_aload (r := a4) hx hb d_C_invokeOn_79 (lv_at hl 4 rfl) ?_
          refine kcl_ (BB := fun (_ : Unit) H => CW D A x hs cA K H) (krS X hl.1 hS hC (c_C_wholeOf l D A cA x hs K a4 _ hq) ki_C_wholeOf wd_213 wd_214 ⟨rfl, rfl, Nat.le_of_ble_eq_true rfl, Nat.le_of_ble_eq_true rfl⟩ rfl rfl (Nat.le_of_ble_eq_true rfl) d_C_invokeOn_81 ⟨Nat.le_of_ble_eq_true rfl, Nat.le_of_ble_eq_true rfl⟩) hS (fun r81_11 _u H locs hq hC hS => ?_)
          refine lv_l2i hx hb d_C_invokeOn_84 rfl ?_
          refine kci (BB := fun u H => CW D A x hs cA u H) (krV (b := x) X hl.1 hS hC (c_C_quotientOf l D A cA x hs K (r75_10).toInt32 (r81_11).toInt32 _ hq) ki_C_quotientOf wd_280 wd_282 ws_C_quotientOf (krecX X hC) ⟨rfl, rfl, Nat.le_of_ble_eq_true rfl, Nat.le_of_ble_eq_true rfl⟩ rfl rfl (Nat.le_of_ble_eq_true rfl) d_C_invokeOn_85 ⟨Nat.le_of_ble_eq_true rfl, Nat.le_of_ble_eq_true rfl⟩) hS (fun r85_12 K85_12 H locs hq hC hS => ?_)
          exact hE r85_12 K85_12 _ _ _ _ _ ls hq hC hS (Nat.le_of_ble_eq_true rfl) (Nat.le_of_ble_eq_true rfl) d_C_invokeOn_88
        · have hq := hq.2 g_9
          by_cases g_13 : a2 = (4 : Int32)
          · have hq := hq.1 g_13
            refine lv_tableIn (off := 88) (tgt := 89) hx hb d_C_invokeOn_1 (by rw [g_13]; decide) (by rw [g_13]; decide) (by rw [g_13]; rfl) (by decide) ?_
            refine lv_aload_n hx hb d_C_invokeOn_89 rfl (lv_at hl 0 rfl) ?_
            refine kr_aload_n (r := a1) hx hb d_C_invokeOn_90 rfl (lv_at hl 1 rfl) ?_
            refine kr_aload_n (r := a3) hx hb d_C_invokeOn_91 rfl (lv_at hl 3 rfl) ?_
            refine kci (BB := fun u H => CW D A x hs cA u H) (krV (b := x) X hl.1 hS hC (c_C_pickOf l D A cA x hs K a1 a3 _ hq) ki_C_pickOf wd_284 wd_286 ws_C_pickOf (krecX X hC) ⟨rfl, rfl, Nat.le_of_ble_eq_true rfl, Nat.le_of_ble_eq_true rfl⟩ rfl rfl (Nat.le_of_ble_eq_true rfl) d_C_invokeOn_92 ⟨Nat.le_of_ble_eq_true rfl, Nat.le_of_ble_eq_true rfl⟩) hS (fun r92_14 K92_14 H locs hq hC hS => ?_)
            exact hE r92_14 K92_14 _ _ _ _ _ ls hq hC hS (Nat.le_of_ble_eq_true rfl) (Nat.le_of_ble_eq_true rfl) d_C_invokeOn_95
          · have hq := hq.2 g_13
            by_cases g_15 : a2 = (5 : Int32)
            · have hq := hq.1 g_15
              refine lv_tableIn (off := 95) (tgt := 96) hx hb d_C_invokeOn_1 (by rw [g_15]; decide) (by rw [g_15]; decide) (by rw [g_15]; rfl) (by decide) ?_
              refine kr_aload_n (r := a1) hx hb d_C_invokeOn_96 rfl (lv_at hl 1 rfl) ?_
              refine kr_aload_n (r := a3) hx hb d_C_invokeOn_97 rfl (lv_at hl 3 rfl) ?_
              refine kcl_ (BB := fun (_ : Unit) H => CW D A x hs cA K H) (krS X hl.1 hS hC (c_C_wholeOf l D A cA x hs K a3 _ hq) ki_C_wholeOf wd_213 wd_214 ⟨rfl, rfl, Nat.le_of_ble_eq_true rfl, Nat.le_of_ble_eq_true rfl⟩ rfl rfl (by cases a1 <;> exact Nat.le_of_ble_eq_true rfl) d_C_invokeOn_98 ⟨Nat.le_of_ble_eq_true rfl, Nat.le_of_ble_eq_true rfl⟩) hS (fun r98_16 _u H locs hq hC hS => ?_)
              refine lv_l2i hx hb d_C_invokeOn_101 rfl ?_
              refine lv_i2b hx hb d_C_invokeOn_102 rfl ?_
              have hs_ := hq.1
              have hq := hq.2
              refine kp_small_C204 (r := a1) (v := (r98_16).toInt32) X hC hS hs_ d_C_invokeOn_103 (fun H locs hC hS => ?_)
              refine lv_aload_n hx hb d_C_invokeOn_106 rfl (lv_at hl 0 rfl) ?_
              refine kr_aload_n (r := a1) hx hb d_C_invokeOn_107 rfl (lv_at hl 1 rfl) ?_
              refine kci (BB := fun u H => CW D A x hs cA u H) (krV (b := x) X hl.1 hS hC (c_C_answer l D A cA x hs (ksR K a1 (osS (kob K a1) (r98_16).toInt32.toInt8.toInt32)) a1 _ hq) ki_C_answer wd_157 wd_159 ws_C_answer (krecX X hC) ⟨rfl, rfl, Nat.le_of_ble_eq_true rfl, Nat.le_of_ble_eq_true rfl⟩ rfl rfl (Nat.le_of_ble_eq_true rfl) d_C_invokeOn_108 ⟨Nat.le_of_ble_eq_true rfl, Nat.le_of_ble_eq_true rfl⟩) hS (fun r108_17 K108_17 H locs hq hC hS => ?_)
              exact hE r108_17 K108_17 _ _ _ _ _ ls hq hC hS (Nat.le_of_ble_eq_true rfl) (Nat.le_of_ble_eq_true rfl) d_C_invokeOn_111
            · have hq := hq.2 g_15
              refine lv_tableOut (tgt := 112) hx hb d_C_invokeOn_1 (by have z0 := lv_neT (a := 0) g_1 rfl; have z1 := lv_neT (a := 1) g_6 rfl; have z2 := lv_neT (a := 2) g_8 rfl; have z3 := lv_neT (a := 3) g_9 rfl; have z4 := lv_neT (a := 4) g_13 rfl; have z5 := lv_neT (a := 5) g_15 rfl; omega) (by decide) ?_
              refine lv_iconst (v := (2 : Int32)) hx hb d_C_invokeOn_112 (by decide) ?_
              exact hE (2 : Int32) K _ _ _ _ _ ls hq hC hS (Nat.le_of_ble_eq_true rfl) (Nat.le_of_ble_eq_true rfl) d_C_invokeOn_113
def w_C_invoke (K : KT) (a1 : Int32) (a2 : Int32) (a3 : Int32) (a4 : Int32) (post : Int32 → KT → Prop) : Prop := w_C_isBelow a1 (9 : Int32) (fun r3_1 => ((r3_1 = (0 : Int32)) → (post (-1 : Int32) K)) ∧ (¬ (r3_1 = (0 : Int32)) → (w_C_isBelow a2 (6 : Int32) (fun r12_2 => ((r12_2 = (0 : Int32)) → (post (-1 : Int32) K)) ∧ (¬ (r12_2 = (0 : Int32)) → (w_C_isBelow a3 (3 : Int32) (fun r20_3 => ((r20_3 = (0 : Int32)) → (post (-1 : Int32) K)) ∧ (¬ (r20_3 = (0 : Int32)) → (w_C_isBelow a4 (81 : Int32) (fun r30_4 => ((r30_4 = (0 : Int32)) → (post (-1 : Int32) K)) ∧ (¬ (r30_4 = (0 : Int32)) → ((vp_in a1 9) ∧ (∀ r48_5 : Option Nat, r48_5 = (kH (ksLa K (0 : Int64)) (a1).toNatClampNeg) → (((a2 = (2 : Int32)) → ((vp_in a2 sf_ARGUMENT_COUNTS.length) ∧ (((a3 = (sf_ARGUMENT_COUNTS.getD (a2).toNatClampNeg 0)) → ((¬ (9 : Int32) = (0 : Int32)) ∧ ((vp_in (a4 / (9 : Int32)) 9) ∧ (∀ r95_26 : Option Nat, r95_26 = (kH (ksLa K (0 : Int64)) ((a4 / (9 : Int32))).toNatClampNeg) → ((¬ (9 : Int32) = (0 : Int32)) ∧ ((vp_in (a4 - a4 / (9 : Int32) * (9 : Int32)) 9) ∧ (∀ r107_27 : Option Nat, r107_27 = (kH (ksLa K (0 : Int64)) ((a4 - a4 / (9 : Int32) * (9 : Int32))).toNatClampNeg) → ((vp_in a2 sf_FIRST_WANTS.length) ∧ (w_C_converts (ksLa K (0 : Int64)) r95_26 (sf_FIRST_WANTS.getD (a2).toNatClampNeg 0) (fun r117_29 => ((r117_29 = (0 : Int32)) → (post (2 : Int32) (ksLa K (0 : Int64)))) ∧ (¬ (r117_29 = (0 : Int32)) → ((vp_in a2 sf_SECOND_WANTS.length) ∧ (w_C_converts (ksLa K (0 : Int64)) r107_27 (sf_SECOND_WANTS.getD (a2).toNatClampNeg 0) (fun r130_31 => ((r130_31 = (0 : Int32)) → (post (2 : Int32) (ksLa K (0 : Int64)))) ∧ (¬ (r130_31 = (0 : Int32)) → (((a2 = (2 : Int32)) → (w_C_realOf (ksLa K (0 : Int64)) r95_26 (fun r148_34 => w_C_realOf (ksLa K (0 : Int64)) r95_26 (fun r153_35 => (vf_n64 (FP.dadd r148_34 r153_35)) ∧ (w_C_boxOfReal (ksLa K (0 : Int64)) (7 : Int32) (FP.dadd r148_34 r153_35) (fun r157_36 K157_36 => w_C_answer K157_36 r157_36 (fun r160_37 K160_37 => post r160_37 K160_37))))))) ∧ (¬ (a2 = (2 : Int32)) → ((okR (ksLa K (0 : Int64)) r48_5) ∧ ((((bI (ktg (ksLa K (0 : Int64)) r48_5 == 1 || ktg (ksLa K (0 : Int64)) r48_5 == 3)) = (0 : Int32)) → (post (2 : Int32) (ksLa K (0 : Int64)))) ∧ (¬ ((bI (ktg (ksLa K (0 : Int64)) r48_5 == 1 || ktg (ksLa K (0 : Int64)) r48_5 == 3)) = (0 : Int32)) → ((isI (ksLa K (0 : Int64)) r48_5) ∧ (w_C_invokeOn (ksLa K (0 : Int64)) r48_5 a2 r95_26 r107_27 (fun r187_32 K187_32 => post r187_32 K187_32))))))))))))))))))))))) ∧ (¬ (a3 = (sf_ARGUMENT_COUNTS.getD (a2).toNatClampNeg 0)) → (post (2 : Int32) (ksLa K (0 : Int64))))))) ∧ (¬ (a2 = (2 : Int32)) → (w_C_itemRefusal (ksLa K (0 : Int64)) r48_5 (fun r62_6 => ((r62_6 = (0 : Int32)) → ((vp_in a2 sf_ARGUMENT_COUNTS.length) ∧ (((a3 = (sf_ARGUMENT_COUNTS.getD (a2).toNatClampNeg 0)) → ((¬ (9 : Int32) = (0 : Int32)) ∧ ((vp_in (a4 / (9 : Int32)) 9) ∧ (∀ r95_8 : Option Nat, r95_8 = (kH (ksLa K (0 : Int64)) ((a4 / (9 : Int32))).toNatClampNeg) → ((¬ (9 : Int32) = (0 : Int32)) ∧ ((vp_in (a4 - a4 / (9 : Int32) * (9 : Int32)) 9) ∧ (∀ r107_9 : Option Nat, r107_9 = (kH (ksLa K (0 : Int64)) ((a4 - a4 / (9 : Int32) * (9 : Int32))).toNatClampNeg) → ((vp_in a2 sf_FIRST_WANTS.length) ∧ (w_C_converts (ksLa K (0 : Int64)) r95_8 (sf_FIRST_WANTS.getD (a2).toNatClampNeg 0) (fun r117_11 => ((r117_11 = (0 : Int32)) → (post (2 : Int32) (ksLa K (0 : Int64)))) ∧ (¬ (r117_11 = (0 : Int32)) → ((vp_in a2 sf_SECOND_WANTS.length) ∧ (w_C_converts (ksLa K (0 : Int64)) r107_9 (sf_SECOND_WANTS.getD (a2).toNatClampNeg 0) (fun r130_13 => ((r130_13 = (0 : Int32)) → (post (2 : Int32) (ksLa K (0 : Int64)))) ∧ (¬ (r130_13 = (0 : Int32)) → (((a2 = (2 : Int32)) → (w_C_realOf (ksLa K (0 : Int64)) r95_8 (fun r148_16 => w_C_realOf (ksLa K (0 : Int64)) r95_8 (fun r153_17 => (vf_n64 (FP.dadd r148_16 r153_17)) ∧ (w_C_boxOfReal (ksLa K (0 : Int64)) (7 : Int32) (FP.dadd r148_16 r153_17) (fun r157_18 K157_18 => w_C_answer K157_18 r157_18 (fun r160_19 K160_19 => post r160_19 K160_19))))))) ∧ (¬ (a2 = (2 : Int32)) → ((okR (ksLa K (0 : Int64)) r48_5) ∧ ((((bI (ktg (ksLa K (0 : Int64)) r48_5 == 1 || ktg (ksLa K (0 : Int64)) r48_5 == 3)) = (0 : Int32)) → (post (2 : Int32) (ksLa K (0 : Int64)))) ∧ (¬ ((bI (ktg (ksLa K (0 : Int64)) r48_5 == 1 || ktg (ksLa K (0 : Int64)) r48_5 == 3)) = (0 : Int32)) → ((isI (ksLa K (0 : Int64)) r48_5) ∧ (w_C_invokeOn (ksLa K (0 : Int64)) r48_5 a2 r95_8 r107_9 (fun r187_14 K187_14 => post r187_14 K187_14))))))))))))))))))))))) ∧ (¬ (a3 = (sf_ARGUMENT_COUNTS.getD (a2).toNatClampNeg 0)) → (post (2 : Int32) (ksLa K (0 : Int64))))))) ∧ (¬ (r62_6 = (0 : Int32)) → (post r62_6 (ksLa K (0 : Int64)))))))))))))))))))))
set_option maxHeartbeats 8000000 in
set_option maxRecDepth 100000 in
theorem c_C_invoke (l : Launch) (D : va_G) (A : Nat → Prop) (cA : ClassId) (x hs : Nat) (K : KT) (a1 : Int32) (a2 : Int32) (a3 : Int32) (a4 : Int32) (post : Int32 → KT → Prop) (hq : w_C_invoke K a1 a2 a3 a4 post) : Met l y_C_invoke (kw y_C_invoke b_C_invoke 10 (Option.some Jvm.ClassFile.FieldType.int)) ({ frames := 6, cells := 1, slots := 3, locals := 126 }) (kP D (tysC cA) A [.ref x, .int a1, .int a2, .int a3, .int a4] (CW D A x hs cA K)) (va_Qi post (fun u t => CW D A x hs cA u t.heap) A) 1 3 A := by
  refine kmet_i (BB := (fun u H => CW D A x hs cA u H)) (lv := [(0, .ref x), (1, .int a1), (2, .int a2), (3, .int a3), (4, .int a4)]) (by decide +kernel) rfl (Nat.le_of_ble_eq_true rfl) ?_
  intro p e s m args below meth c Q ls X hin hC hl hE
  have hx := X.x
  have hb := X.b
  have hS : va_S A s.heap s.heap [] := va_S.rf
  unfold w_C_invoke at hq
  refine lv_iload_n hx hb d_C_invoke_0 rfl (lv_at hl 1 rfl) ?_
  refine lv_bipush (v := (9 : Int32)) hx hb d_C_invoke_1 (by decide) ?_
  refine kci (BB := fun (_ : Unit) H => CW D A x hs cA K H) (krS X hl.1 hS hC (c_C_isBelow l D (tysC cA) A _ a1 (9 : Int32) _ hq) ki_C_isBelow wd_35 wd_36 ⟨rfl, rfl, Nat.le_of_ble_eq_true rfl, Nat.le_of_ble_eq_true rfl⟩ rfl rfl (Nat.le_of_ble_eq_true rfl) d_C_invoke_3 ⟨Nat.le_of_ble_eq_true rfl, Nat.le_of_ble_eq_true rfl⟩) hS (fun r3_1 _u H locs hq hC hS => ?_)
  refine lv_if_eq (tgt := 36) hx hb d_C_invoke_6 (by decide) (fun c_46 => ?_) (fun c_46 => ?_)
  · have hq := hq.1 c_46
    refine lv_iconst (v := (-1 : Int32)) hx hb d_C_invoke_36 (by decide) ?_
    exact hE (-1 : Int32) K _ _ _ _ _ ls hq hC hS (Nat.le_of_ble_eq_true rfl) (Nat.le_of_ble_eq_true rfl) d_C_invoke_37
  · have hq := hq.2 c_46
    refine lv_iload_n hx hb d_C_invoke_9 rfl (lv_at hl 2 rfl) ?_
    refine lv_bipush (v := (6 : Int32)) hx hb d_C_invoke_10 (by decide) ?_
    refine kci (BB := fun (_ : Unit) H => CW D A x hs cA K H) (krS X hl.1 hS hC (c_C_isBelow l D (tysC cA) A _ a2 (6 : Int32) _ hq) ki_C_isBelow wd_35 wd_36 ⟨rfl, rfl, Nat.le_of_ble_eq_true rfl, Nat.le_of_ble_eq_true rfl⟩ rfl rfl (Nat.le_of_ble_eq_true rfl) d_C_invoke_12 ⟨Nat.le_of_ble_eq_true rfl, Nat.le_of_ble_eq_true rfl⟩) hS (fun r12_2 _u H locs hq hC hS => ?_)
    refine lv_if_eq (tgt := 36) hx hb d_C_invoke_15 (by decide) (fun c_45 => ?_) (fun c_45 => ?_)
    · have hq := hq.1 c_45
      refine lv_iconst (v := (-1 : Int32)) hx hb d_C_invoke_36 (by decide) ?_
      exact hE (-1 : Int32) K _ _ _ _ _ ls hq hC hS (Nat.le_of_ble_eq_true rfl) (Nat.le_of_ble_eq_true rfl) d_C_invoke_37
    · have hq := hq.2 c_45
      refine lv_iload_n hx hb d_C_invoke_18 rfl (lv_at hl 3 rfl) ?_
      refine lv_iconst (v := (3 : Int32)) hx hb d_C_invoke_19 (by decide) ?_
      refine kci (BB := fun (_ : Unit) H => CW D A x hs cA K H) (krS X hl.1 hS hC (c_C_isBelow l D (tysC cA) A _ a3 (3 : Int32) _ hq) ki_C_isBelow wd_35 wd_36 ⟨rfl, rfl, Nat.le_of_ble_eq_true rfl, Nat.le_of_ble_eq_true rfl⟩ rfl rfl (Nat.le_of_ble_eq_true rfl) d_C_invoke_20 ⟨Nat.le_of_ble_eq_true rfl, Nat.le_of_ble_eq_true rfl⟩) hS (fun r20_3 _u H locs hq hC hS => ?_)
      refine lv_if_eq (tgt := 36) hx hb d_C_invoke_23 (by decide) (fun c_44 => ?_) (fun c_44 => ?_)
      · have hq := hq.1 c_44
        refine lv_iconst (v := (-1 : Int32)) hx hb d_C_invoke_36 (by decide) ?_
        exact hE (-1 : Int32) K _ _ _ _ _ ls hq hC hS (Nat.le_of_ble_eq_true rfl) (Nat.le_of_ble_eq_true rfl) d_C_invoke_37
      · have hq := hq.2 c_44
        refine lv_iload hx hb d_C_invoke_26 (lv_at hl 4 rfl) ?_
        refine lv_bipush (v := (81 : Int32)) hx hb d_C_invoke_28 (by decide) ?_
        refine kci (BB := fun (_ : Unit) H => CW D A x hs cA K H) (krS X hl.1 hS hC (c_C_isBelow l D (tysC cA) A _ a4 (81 : Int32) _ hq) ki_C_isBelow wd_35 wd_36 ⟨rfl, rfl, Nat.le_of_ble_eq_true rfl, Nat.le_of_ble_eq_true rfl⟩ rfl rfl (Nat.le_of_ble_eq_true rfl) d_C_invoke_30 ⟨Nat.le_of_ble_eq_true rfl, Nat.le_of_ble_eq_true rfl⟩) hS (fun r30_4 _u H locs hq hC hS => ?_)
        refine lv_if_ne (tgt := 38) hx hb d_C_invoke_33 (by decide) (fun c_43 => ?_) (fun c_43 => ?_)
        · have hq := hq.2 c_43
          refine lv_aload_n hx hb d_C_invoke_38 rfl (lv_at hl 0 rfl) ?_
          refine lv_lconst (v := (0 : Int64)) hx hb d_C_invoke_39 (by decide) ?_
          refine kp_lastTold X hC hS d_C_invoke_40 (fun H locs hC hS => ?_)
          refine lv_aload_n hx hb d_C_invoke_43 rfl (lv_at hl 0 rfl) ?_
          refine kg_handles X hC d_C_invoke_44 ?_
          refine lv_iload_n hx hb d_C_invoke_47 rfl (lv_at hl 1 rfl) ?_
          have hs_ := hq.1
          have hq := hq.2
          refine kg_h X hC hs_ d_C_invoke_48 (fun r48_5 e_r48_5 => ?_)
          have hq := hq r48_5 e_r48_5
          refine kr_astore (r := r48_5) (lv' := [(5, va_rf r48_5), (0, .ref x), (1, .int a1), (2, .int a2), (3, .int a3), (4, .int a4)]) hx hb d_C_invoke_49 hl (by decide) (by cases r48_5 <;> rfl) (fun ls hl => ?_)
          refine lv_iload_n hx hb d_C_invoke_51 rfl (lv_at hl 3 rfl) ?_
          refine lv_iconst (v := (2 : Int32)) hx hb d_C_invoke_52 (by decide) ?_
          refine lv_icmp_ne (tgt := 60) hx hb d_C_invoke_53 (by decide) (fun c_42 => ?_) (fun c_42 => ?_)
          · have hq := hq.2 c_42
            refine kr_aload (r := r48_5) hx hb d_C_invoke_60 (lv_at hl 0 rfl) ?_
            refine kci (BB := fun (_ : Unit) H => CW D A x hs cA (ksLa K (0 : Int64)) H) (krS X hl.1 hS hC (c_C_itemRefusal l D A cA x hs (ksLa K (0 : Int64)) r48_5 _ hq) ki_C_itemRefusal wd_168 wd_169 ⟨rfl, rfl, Nat.le_of_ble_eq_true rfl, Nat.le_of_ble_eq_true rfl⟩ rfl rfl (Nat.le_of_ble_eq_true rfl) d_C_invoke_62 ⟨Nat.le_of_ble_eq_true rfl, Nat.le_of_ble_eq_true rfl⟩) hS (fun r62_6 _u H locs hq hC hS => ?_)
            refine lv_istore (lv' := [(6, .int r62_6), (5, va_rf r48_5), (0, .ref x), (1, .int a1), (2, .int a2), (3, .int a3), (4, .int a4)]) hx hb d_C_invoke_65 hl (by decide) (by cases r48_5 <;> rfl) (fun ls hl => ?_)
            refine lv_iload hx hb d_C_invoke_67 (lv_at hl 0 rfl) ?_
            refine lv_if_eq (tgt := 75) hx hb d_C_invoke_69 (by decide) (fun c_24 => ?_) (fun c_24 => ?_)
            · have hq := hq.1 c_24
              refine lv_iload_n hx hb d_C_invoke_75 rfl (lv_at hl 5 rfl) ?_
              refine kgs X hS (nm := "ARGUMENT_COUNTS") (lst := sf_ARGUMENT_COUNTS) (by decide +kernel) wd_240 d_C_invoke_76 (fun t76_7 hT76_7 => ?_)
              refine lv_iload_n hx hb d_C_invoke_79 rfl (lv_at hl 4 rfl) ?_
              have hs_ := hq.1
              have hq := hq.2
              refine ksl X hS hT76_7 hs_ d_C_invoke_80 ?_
              refine lv_icmp_eq (tgt := 86) hx hb d_C_invoke_81 (by decide) (fun c_23 => ?_) (fun c_23 => ?_)
              · have hq := hq.1 c_23
                refine lv_aload_n hx hb d_C_invoke_86 rfl (lv_at hl 2 rfl) ?_
                refine kg_handles X hC d_C_invoke_87 ?_
                refine lv_iload hx hb d_C_invoke_90 (lv_at hl 6 rfl) ?_
                refine lv_bipush (v := (9 : Int32)) hx hb d_C_invoke_92 (by decide) ?_
                have hs_ := hq.1
                have hq := hq.2
                refine lv_idiv hx hb d_C_invoke_94 hs_ ?_
                have hs_ := hq.1
                have hq := hq.2
                refine kg_h X hC hs_ d_C_invoke_95 (fun r95_8 e_r95_8 => ?_)
                have hq := hq r95_8 e_r95_8
                refine kr_astore (r := r95_8) (lv' := [(7, va_rf r95_8), (6, .int r62_6), (5, va_rf r48_5), (0, .ref x), (1, .int a1), (2, .int a2), (3, .int a3), (4, .int a4)]) hx hb d_C_invoke_96 hl (by decide) (by cases r48_5 <;> cases r95_8 <;> rfl) (fun ls hl => ?_)
                refine lv_aload_n hx hb d_C_invoke_98 rfl (lv_at hl 3 rfl) ?_
                refine kg_handles X hC d_C_invoke_99 ?_
                refine lv_iload hx hb d_C_invoke_102 (lv_at hl 7 rfl) ?_
                refine lv_bipush (v := (9 : Int32)) hx hb d_C_invoke_104 (by decide) ?_
                have hs_ := hq.1
                have hq := hq.2
                refine lv_irem hx hb d_C_invoke_106 hs_ ?_
                have hs_ := hq.1
                have hq := hq.2
                refine kg_h X hC hs_ d_C_invoke_107 (fun r107_9 e_r107_9 => ?_)
                have hq := hq r107_9 e_r107_9
                refine kr_astore (r := r107_9) (lv' := [(8, va_rf r107_9), (7, va_rf r95_8), (6, .int r62_6), (5, va_rf r48_5), (0, .ref x), (1, .int a1), (2, .int a2), (3, .int a3), (4, .int a4)]) hx hb d_C_invoke_108 hl (by decide) (by cases r107_9 <;> cases r48_5 <;> cases r95_8 <;> rfl) (fun ls hl => ?_)
                refine kr_aload (r := r95_8) hx hb d_C_invoke_110 (lv_at hl 1 rfl) ?_
                refine kgs X hS (nm := "FIRST_WANTS") (lst := sf_FIRST_WANTS) (by decide +kernel) wd_242 d_C_invoke_112 (fun t112_10 hT112_10 => ?_)
                refine lv_iload_n hx hb d_C_invoke_115 rfl (lv_at hl 6 rfl) ?_
                have hs_ := hq.1
                have hq := hq.2
                refine ksl X hS hT112_10 hs_ d_C_invoke_116 ?_
                refine kci (BB := fun (_ : Unit) H => CW D A x hs cA (ksLa K (0 : Int64)) H) (krS X hl.1 hS hC (c_C_converts l D A cA x hs (ksLa K (0 : Int64)) r95_8 (sf_FIRST_WANTS.getD (a2).toNatClampNeg 0) _ hq) ki_C_converts wd_206 wd_207 ⟨rfl, rfl, Nat.le_of_ble_eq_true rfl, Nat.le_of_ble_eq_true rfl⟩ rfl rfl (Nat.le_of_ble_eq_true rfl) d_C_invoke_117 ⟨Nat.le_of_ble_eq_true rfl, Nat.le_of_ble_eq_true rfl⟩) hS (fun r117_11 _u H locs hq hC hS => ?_)
                refine lv_if_eq (tgt := 136) hx hb d_C_invoke_120 (by decide) (fun c_22 => ?_) (fun c_22 => ?_)
                · have hq := hq.1 c_22
                  refine lv_iconst (v := (2 : Int32)) hx hb d_C_invoke_136 (by decide) ?_
                  exact hE (2 : Int32) (ksLa K (0 : Int64)) _ _ _ _ _ ls hq hC hS (Nat.le_of_ble_eq_true rfl) (Nat.le_of_ble_eq_true rfl) d_C_invoke_137
                · have hq := hq.2 c_22
                  refine kr_aload (r := r107_9) hx hb d_C_invoke_123 (lv_at hl 0 rfl) ?_
                  refine kgs X hS (nm := "SECOND_WANTS") (lst := sf_SECOND_WANTS) (by decide +kernel) wd_244 d_C_invoke_125 (fun t125_12 hT125_12 => ?_)
                  refine lv_iload_n hx hb d_C_invoke_128 rfl (lv_at hl 6 rfl) ?_
                  have hs_ := hq.1
                  have hq := hq.2
                  refine ksl X hS hT125_12 hs_ d_C_invoke_129 ?_
                  refine kci (BB := fun (_ : Unit) H => CW D A x hs cA (ksLa K (0 : Int64)) H) (krS X hl.1 hS hC (c_C_converts l D A cA x hs (ksLa K (0 : Int64)) r107_9 (sf_SECOND_WANTS.getD (a2).toNatClampNeg 0) _ hq) ki_C_converts wd_206 wd_207 ⟨rfl, rfl, Nat.le_of_ble_eq_true rfl, Nat.le_of_ble_eq_true rfl⟩ rfl rfl (Nat.le_of_ble_eq_true rfl) d_C_invoke_130 ⟨Nat.le_of_ble_eq_true rfl, Nat.le_of_ble_eq_true rfl⟩) hS (fun r130_13 _u H locs hq hC hS => ?_)
                  refine lv_if_ne (tgt := 138) hx hb d_C_invoke_133 (by decide) (fun c_21 => ?_) (fun c_21 => ?_)
                  · have hq := hq.2 c_21
                    refine lv_iload_n hx hb d_C_invoke_138 rfl (lv_at hl 6 rfl) ?_
                    refine lv_iconst (v := (2 : Int32)) hx hb d_C_invoke_139 (by decide) ?_
                    refine lv_icmp_ne (tgt := 164) hx hb d_C_invoke_140 (by decide) (fun c_20 => ?_) (fun c_20 => ?_)
                    · have hq := hq.2 c_20
                      refine kr_aload (r := r48_5) hx hb d_C_invoke_164 (lv_at hl 3 rfl) ?_
                      have hs_ := hq.1
                      have hq := hq.2
                      refine ki_inst_I (r := r48_5) X hC hs_ d_C_invoke_166 ?_
                      refine lv_if_eq (tgt := 191) hx hb d_C_invoke_169 (by decide) (fun c_15 => ?_) (fun c_15 => ?_)
                      · have hq := hq.1 c_15
                        refine lv_iconst (v := (2 : Int32)) hx hb d_C_invoke_191 (by decide) ?_
                        exact hE (2 : Int32) (ksLa K (0 : Int64)) _ _ _ _ _ ls hq hC hS (Nat.le_of_ble_eq_true rfl) (Nat.le_of_ble_eq_true rfl) d_C_invoke_192
                      · have hq := hq.2 c_15
                        refine kr_aload (r := r48_5) hx hb d_C_invoke_172 (lv_at hl 3 rfl) ?_
                        have hs_ := hq.1
                        have hq := hq.2
                        refine ki_cast_I (r := r48_5) X hC hs_ d_C_invoke_174 ?_
                        refine kr_astore (r := r48_5) (lv' := [(9, va_rf r48_5), (8, va_rf r107_9), (7, va_rf r95_8), (6, .int r62_6), (5, va_rf r48_5), (0, .ref x), (1, .int a1), (2, .int a2), (3, .int a3), (4, .int a4)]) hx hb d_C_invoke_177 hl (by decide) (by cases r107_9 <;> cases r48_5 <;> cases r95_8 <;> rfl) (fun ls hl => ?_)
                        refine lv_aload_n hx hb d_C_invoke_179 rfl (lv_at hl 5 rfl) ?_
                        refine kr_aload (r := r48_5) hx hb d_C_invoke_180 (lv_at hl 0 rfl) ?_
                        refine lv_iload_n hx hb d_C_invoke_182 rfl (lv_at hl 7 rfl) ?_
                        refine kr_aload (r := r95_8) hx hb d_C_invoke_183 (lv_at hl 2 rfl) ?_
                        refine kr_aload (r := r107_9) hx hb d_C_invoke_185 (lv_at hl 1 rfl) ?_
                        refine kci (BB := fun u H => CW D A x hs cA u H) (krV (b := x) X hl.1 hS hC (c_C_invokeOn l D A cA x hs (ksLa K (0 : Int64)) r48_5 a2 r95_8 r107_9 _ hq) ki_C_invokeOn wd_247 wd_249 ws_C_invokeOn (krecX X hC) ⟨rfl, rfl, Nat.le_of_ble_eq_true rfl, Nat.le_of_ble_eq_true rfl⟩ rfl rfl (Nat.le_of_ble_eq_true rfl) d_C_invoke_187 ⟨Nat.le_of_ble_eq_true rfl, Nat.le_of_ble_eq_true rfl⟩) hS (fun r187_14 K187_14 H locs hq hC hS => ?_)
                        exact hE r187_14 K187_14 _ _ _ _ _ ls hq hC hS (Nat.le_of_ble_eq_true rfl) (Nat.le_of_ble_eq_true rfl) d_C_invoke_190
                    · have hq := hq.1 c_20
                      refine lv_aload_n hx hb d_C_invoke_143 rfl (lv_at hl 4 rfl) ?_
                      refine lv_bipush (v := (7 : Int32)) hx hb d_C_invoke_144 (by decide) ?_
                      refine kr_aload (r := r95_8) hx hb d_C_invoke_146 (lv_at hl 1 rfl) ?_
                      refine kcd (BB := fun (_ : Unit) H => CW D A x hs cA (ksLa K (0 : Int64)) H) (krS X hl.1 hS hC (c_C_realOf l D A cA x hs (ksLa K (0 : Int64)) r95_8 _ hq) ki_C_realOf wd_246 wd_228 ⟨rfl, rfl, Nat.le_of_ble_eq_true rfl, Nat.le_of_ble_eq_true rfl⟩ rfl rfl (Nat.le_of_ble_eq_true rfl) d_C_invoke_148 ⟨Nat.le_of_ble_eq_true rfl, Nat.le_of_ble_eq_true rfl⟩) hS (fun r148_16 _u H locs hq hC hS => ?_)
                      refine kr_aload (r := r95_8) hx hb d_C_invoke_151 (lv_at hl 1 rfl) ?_
                      refine kcd (BB := fun (_ : Unit) H => CW D A x hs cA (ksLa K (0 : Int64)) H) (krS X hl.1 hS hC (c_C_realOf l D A cA x hs (ksLa K (0 : Int64)) r95_8 _ hq) ki_C_realOf wd_246 wd_228 ⟨rfl, rfl, Nat.le_of_ble_eq_true rfl, Nat.le_of_ble_eq_true rfl⟩ rfl rfl (Nat.le_of_ble_eq_true rfl) d_C_invoke_153 ⟨Nat.le_of_ble_eq_true rfl, Nat.le_of_ble_eq_true rfl⟩) hS (fun r153_17 _u H locs hq hC hS => ?_)
                      have hs_ := hq.1
                      have hq := hq.2
                      refine lv_dadd hx hb d_C_invoke_156 hs_ ?_
                      refine kcq (BB := fun u H => CW D A x hs cA u H) (krS X hl.1 hS hC (c_C_boxOfReal l D A cA x hs (ksLa K (0 : Int64)) (7 : Int32) (FP.dadd r148_16 r153_17) _ hq) ki_C_boxOfReal wd_83 wd_84 ⟨rfl, rfl, Nat.le_of_ble_eq_true rfl, Nat.le_of_ble_eq_true rfl⟩ rfl rfl (Nat.le_of_ble_eq_true rfl) d_C_invoke_157 ⟨Nat.le_of_ble_eq_true rfl, Nat.le_of_ble_eq_true rfl⟩) hS (fun r157_18 K157_18 H locs hq hC hS => ?_)
                      refine kci (BB := fun u H => CW D A x hs cA u H) (krV (b := x) X hl.1 hS hC (c_C_answer l D A cA x hs K157_18 r157_18 _ hq) ki_C_answer wd_157 wd_159 ws_C_answer (krecX X hC) ⟨rfl, rfl, Nat.le_of_ble_eq_true rfl, Nat.le_of_ble_eq_true rfl⟩ rfl rfl (Nat.le_of_ble_eq_true rfl) d_C_invoke_160 ⟨Nat.le_of_ble_eq_true rfl, Nat.le_of_ble_eq_true rfl⟩) hS (fun r160_19 K160_19 H locs hq hC hS => ?_)
                      exact hE r160_19 K160_19 _ _ _ _ _ ls hq hC hS (Nat.le_of_ble_eq_true rfl) (Nat.le_of_ble_eq_true rfl) d_C_invoke_163
                  · have hq := hq.1 c_21
                    refine lv_iconst (v := (2 : Int32)) hx hb d_C_invoke_136 (by decide) ?_
                    exact hE (2 : Int32) (ksLa K (0 : Int64)) _ _ _ _ _ ls hq hC hS (Nat.le_of_ble_eq_true rfl) (Nat.le_of_ble_eq_true rfl) d_C_invoke_137
              · have hq := hq.2 c_23
                refine lv_iconst (v := (2 : Int32)) hx hb d_C_invoke_84 (by decide) ?_
                exact hE (2 : Int32) (ksLa K (0 : Int64)) _ _ _ _ _ ls hq hC hS (Nat.le_of_ble_eq_true rfl) (Nat.le_of_ble_eq_true rfl) d_C_invoke_85
            · have hq := hq.2 c_24
              refine lv_iload hx hb d_C_invoke_72 (lv_at hl 0 rfl) ?_
              exact hE r62_6 (ksLa K (0 : Int64)) _ _ _ _ _ ls hq hC hS (Nat.le_of_ble_eq_true rfl) (Nat.le_of_ble_eq_true rfl) d_C_invoke_74
          · have hq := hq.1 c_42
            refine lv_iconst (v := (0 : Int32)) hx hb d_C_invoke_56 (by decide) ?_
            refine lv_goto (tgt := 65) hx hb d_C_invoke_57 (by decide) ?_
            refine lv_istore (lv' := [(6, .int (0 : Int32)), (5, va_rf r48_5), (0, .ref x), (1, .int a1), (2, .int a2), (3, .int a3), (4, .int a4)]) hx hb d_C_invoke_65 hl (by decide) (by cases r48_5 <;> rfl) (fun ls hl => ?_)
            refine lv_iload hx hb d_C_invoke_67 (lv_at hl 0 rfl) ?_
            refine lv_if_eq (tgt := 75) hx hb d_C_invoke_69 (by decide) (fun _ => ?_) (fun c_ => absurd (by decide) c_)
            refine lv_iload_n hx hb d_C_invoke_75 rfl (lv_at hl 5 rfl) ?_
            refine kgs X hS (nm := "ARGUMENT_COUNTS") (lst := sf_ARGUMENT_COUNTS) (by decide +kernel) wd_240 d_C_invoke_76 (fun t76_25 hT76_25 => ?_)
            refine lv_iload_n hx hb d_C_invoke_79 rfl (lv_at hl 4 rfl) ?_
            have hs_ := hq.1
            have hq := hq.2
            refine ksl X hS hT76_25 hs_ d_C_invoke_80 ?_
            refine lv_icmp_eq (tgt := 86) hx hb d_C_invoke_81 (by decide) (fun c_41 => ?_) (fun c_41 => ?_)
            · have hq := hq.1 c_41
              refine lv_aload_n hx hb d_C_invoke_86 rfl (lv_at hl 2 rfl) ?_
              refine kg_handles X hC d_C_invoke_87 ?_
              refine lv_iload hx hb d_C_invoke_90 (lv_at hl 6 rfl) ?_
              refine lv_bipush (v := (9 : Int32)) hx hb d_C_invoke_92 (by decide) ?_
              have hs_ := hq.1
              have hq := hq.2
              refine lv_idiv hx hb d_C_invoke_94 hs_ ?_
              have hs_ := hq.1
              have hq := hq.2
              refine kg_h X hC hs_ d_C_invoke_95 (fun r95_26 e_r95_26 => ?_)
              have hq := hq r95_26 e_r95_26
              refine kr_astore (r := r95_26) (lv' := [(7, va_rf r95_26), (6, .int (0 : Int32)), (5, va_rf r48_5), (0, .ref x), (1, .int a1), (2, .int a2), (3, .int a3), (4, .int a4)]) hx hb d_C_invoke_96 hl (by decide) (by cases r48_5 <;> cases r95_26 <;> rfl) (fun ls hl => ?_)
              refine lv_aload_n hx hb d_C_invoke_98 rfl (lv_at hl 3 rfl) ?_
              refine kg_handles X hC d_C_invoke_99 ?_
              refine lv_iload hx hb d_C_invoke_102 (lv_at hl 7 rfl) ?_
              refine lv_bipush (v := (9 : Int32)) hx hb d_C_invoke_104 (by decide) ?_
              have hs_ := hq.1
              have hq := hq.2
              refine lv_irem hx hb d_C_invoke_106 hs_ ?_
              have hs_ := hq.1
              have hq := hq.2
              refine kg_h X hC hs_ d_C_invoke_107 (fun r107_27 e_r107_27 => ?_)
              have hq := hq r107_27 e_r107_27
              refine kr_astore (r := r107_27) (lv' := [(8, va_rf r107_27), (7, va_rf r95_26), (6, .int (0 : Int32)), (5, va_rf r48_5), (0, .ref x), (1, .int a1), (2, .int a2), (3, .int a3), (4, .int a4)]) hx hb d_C_invoke_108 hl (by decide) (by cases r107_27 <;> cases r48_5 <;> cases r95_26 <;> rfl) (fun ls hl => ?_)
              refine kr_aload (r := r95_26) hx hb d_C_invoke_110 (lv_at hl 1 rfl) ?_
              refine kgs X hS (nm := "FIRST_WANTS") (lst := sf_FIRST_WANTS) (by decide +kernel) wd_242 d_C_invoke_112 (fun t112_28 hT112_28 => ?_)
              refine lv_iload_n hx hb d_C_invoke_115 rfl (lv_at hl 6 rfl) ?_
              have hs_ := hq.1
              have hq := hq.2
              refine ksl X hS hT112_28 hs_ d_C_invoke_116 ?_
              refine kci (BB := fun (_ : Unit) H => CW D A x hs cA (ksLa K (0 : Int64)) H) (krS X hl.1 hS hC (c_C_converts l D A cA x hs (ksLa K (0 : Int64)) r95_26 (sf_FIRST_WANTS.getD (a2).toNatClampNeg 0) _ hq) ki_C_converts wd_206 wd_207 ⟨rfl, rfl, Nat.le_of_ble_eq_true rfl, Nat.le_of_ble_eq_true rfl⟩ rfl rfl (Nat.le_of_ble_eq_true rfl) d_C_invoke_117 ⟨Nat.le_of_ble_eq_true rfl, Nat.le_of_ble_eq_true rfl⟩) hS (fun r117_29 _u H locs hq hC hS => ?_)
              refine lv_if_eq (tgt := 136) hx hb d_C_invoke_120 (by decide) (fun c_40 => ?_) (fun c_40 => ?_)
              · have hq := hq.1 c_40
                refine lv_iconst (v := (2 : Int32)) hx hb d_C_invoke_136 (by decide) ?_
                exact hE (2 : Int32) (ksLa K (0 : Int64)) _ _ _ _ _ ls hq hC hS (Nat.le_of_ble_eq_true rfl) (Nat.le_of_ble_eq_true rfl) d_C_invoke_137
              · have hq := hq.2 c_40
                refine kr_aload (r := r107_27) hx hb d_C_invoke_123 (lv_at hl 0 rfl) ?_
                refine kgs X hS (nm := "SECOND_WANTS") (lst := sf_SECOND_WANTS) (by decide +kernel) wd_244 d_C_invoke_125 (fun t125_30 hT125_30 => ?_)
                refine lv_iload_n hx hb d_C_invoke_128 rfl (lv_at hl 6 rfl) ?_
                have hs_ := hq.1
                have hq := hq.2
                refine ksl X hS hT125_30 hs_ d_C_invoke_129 ?_
                refine kci (BB := fun (_ : Unit) H => CW D A x hs cA (ksLa K (0 : Int64)) H) (krS X hl.1 hS hC (c_C_converts l D A cA x hs (ksLa K (0 : Int64)) r107_27 (sf_SECOND_WANTS.getD (a2).toNatClampNeg 0) _ hq) ki_C_converts wd_206 wd_207 ⟨rfl, rfl, Nat.le_of_ble_eq_true rfl, Nat.le_of_ble_eq_true rfl⟩ rfl rfl (Nat.le_of_ble_eq_true rfl) d_C_invoke_130 ⟨Nat.le_of_ble_eq_true rfl, Nat.le_of_ble_eq_true rfl⟩) hS (fun r130_31 _u H locs hq hC hS => ?_)
                refine lv_if_ne (tgt := 138) hx hb d_C_invoke_133 (by decide) (fun c_39 => ?_) (fun c_39 => ?_)
                · have hq := hq.2 c_39
                  refine lv_iload_n hx hb d_C_invoke_138 rfl (lv_at hl 6 rfl) ?_
                  refine lv_iconst (v := (2 : Int32)) hx hb d_C_invoke_139 (by decide) ?_
                  refine lv_icmp_ne (tgt := 164) hx hb d_C_invoke_140 (by decide) (fun c_38 => ?_) (fun c_38 => ?_)
                  · have hq := hq.2 c_38
                    refine kr_aload (r := r48_5) hx hb d_C_invoke_164 (lv_at hl 3 rfl) ?_
                    have hs_ := hq.1
                    have hq := hq.2
                    refine ki_inst_I (r := r48_5) X hC hs_ d_C_invoke_166 ?_
                    refine lv_if_eq (tgt := 191) hx hb d_C_invoke_169 (by decide) (fun c_33 => ?_) (fun c_33 => ?_)
                    · have hq := hq.1 c_33
                      refine lv_iconst (v := (2 : Int32)) hx hb d_C_invoke_191 (by decide) ?_
                      exact hE (2 : Int32) (ksLa K (0 : Int64)) _ _ _ _ _ ls hq hC hS (Nat.le_of_ble_eq_true rfl) (Nat.le_of_ble_eq_true rfl) d_C_invoke_192
                    · have hq := hq.2 c_33
                      refine kr_aload (r := r48_5) hx hb d_C_invoke_172 (lv_at hl 3 rfl) ?_
                      have hs_ := hq.1
                      have hq := hq.2
                      refine ki_cast_I (r := r48_5) X hC hs_ d_C_invoke_174 ?_
                      refine kr_astore (r := r48_5) (lv' := [(9, va_rf r48_5), (8, va_rf r107_27), (7, va_rf r95_26), (6, .int (0 : Int32)), (5, va_rf r48_5), (0, .ref x), (1, .int a1), (2, .int a2), (3, .int a3), (4, .int a4)]) hx hb d_C_invoke_177 hl (by decide) (by cases r107_27 <;> cases r48_5 <;> cases r95_26 <;> rfl) (fun ls hl => ?_)
                      refine lv_aload_n hx hb d_C_invoke_179 rfl (lv_at hl 5 rfl) ?_
                      refine kr_aload (r := r48_5) hx hb d_C_invoke_180 (lv_at hl 0 rfl) ?_
                      refine lv_iload_n hx hb d_C_invoke_182 rfl (lv_at hl 7 rfl) ?_
                      refine kr_aload (r := r95_26) hx hb d_C_invoke_183 (lv_at hl 2 rfl) ?_
                      refine kr_aload (r := r107_27) hx hb d_C_invoke_185 (lv_at hl 1 rfl) ?_
                      refine kci (BB := fun u H => CW D A x hs cA u H) (krV (b := x) X hl.1 hS hC (c_C_invokeOn l D A cA x hs (ksLa K (0 : Int64)) r48_5 a2 r95_26 r107_27 _ hq) ki_C_invokeOn wd_247 wd_249 ws_C_invokeOn (krecX X hC) ⟨rfl, rfl, Nat.le_of_ble_eq_true rfl, Nat.le_of_ble_eq_true rfl⟩ rfl rfl (Nat.le_of_ble_eq_true rfl) d_C_invoke_187 ⟨Nat.le_of_ble_eq_true rfl, Nat.le_of_ble_eq_true rfl⟩) hS (fun r187_32 K187_32 H locs hq hC hS => ?_)
                      exact hE r187_32 K187_32 _ _ _ _ _ ls hq hC hS (Nat.le_of_ble_eq_true rfl) (Nat.le_of_ble_eq_true rfl) d_C_invoke_190
                  · have hq := hq.1 c_38
                    refine lv_aload_n hx hb d_C_invoke_143 rfl (lv_at hl 4 rfl) ?_
                    refine lv_bipush (v := (7 : Int32)) hx hb d_C_invoke_144 (by decide) ?_
                    refine kr_aload (r := r95_26) hx hb d_C_invoke_146 (lv_at hl 1 rfl) ?_
                    refine kcd (BB := fun (_ : Unit) H => CW D A x hs cA (ksLa K (0 : Int64)) H) (krS X hl.1 hS hC (c_C_realOf l D A cA x hs (ksLa K (0 : Int64)) r95_26 _ hq) ki_C_realOf wd_246 wd_228 ⟨rfl, rfl, Nat.le_of_ble_eq_true rfl, Nat.le_of_ble_eq_true rfl⟩ rfl rfl (Nat.le_of_ble_eq_true rfl) d_C_invoke_148 ⟨Nat.le_of_ble_eq_true rfl, Nat.le_of_ble_eq_true rfl⟩) hS (fun r148_34 _u H locs hq hC hS => ?_)
                    refine kr_aload (r := r95_26) hx hb d_C_invoke_151 (lv_at hl 1 rfl) ?_
                    refine kcd (BB := fun (_ : Unit) H => CW D A x hs cA (ksLa K (0 : Int64)) H) (krS X hl.1 hS hC (c_C_realOf l D A cA x hs (ksLa K (0 : Int64)) r95_26 _ hq) ki_C_realOf wd_246 wd_228 ⟨rfl, rfl, Nat.le_of_ble_eq_true rfl, Nat.le_of_ble_eq_true rfl⟩ rfl rfl (Nat.le_of_ble_eq_true rfl) d_C_invoke_153 ⟨Nat.le_of_ble_eq_true rfl, Nat.le_of_ble_eq_true rfl⟩) hS (fun r153_35 _u H locs hq hC hS => ?_)
                    have hs_ := hq.1
                    have hq := hq.2
                    refine lv_dadd hx hb d_C_invoke_156 hs_ ?_
                    refine kcq (BB := fun u H => CW D A x hs cA u H) (krS X hl.1 hS hC (c_C_boxOfReal l D A cA x hs (ksLa K (0 : Int64)) (7 : Int32) (FP.dadd r148_34 r153_35) _ hq) ki_C_boxOfReal wd_83 wd_84 ⟨rfl, rfl, Nat.le_of_ble_eq_true rfl, Nat.le_of_ble_eq_true rfl⟩ rfl rfl (Nat.le_of_ble_eq_true rfl) d_C_invoke_157 ⟨Nat.le_of_ble_eq_true rfl, Nat.le_of_ble_eq_true rfl⟩) hS (fun r157_36 K157_36 H locs hq hC hS => ?_)
                    refine kci (BB := fun u H => CW D A x hs cA u H) (krV (b := x) X hl.1 hS hC (c_C_answer l D A cA x hs K157_36 r157_36 _ hq) ki_C_answer wd_157 wd_159 ws_C_answer (krecX X hC) ⟨rfl, rfl, Nat.le_of_ble_eq_true rfl, Nat.le_of_ble_eq_true rfl⟩ rfl rfl (Nat.le_of_ble_eq_true rfl) d_C_invoke_160 ⟨Nat.le_of_ble_eq_true rfl, Nat.le_of_ble_eq_true rfl⟩) hS (fun r160_37 K160_37 H locs hq hC hS => ?_)
                    exact hE r160_37 K160_37 _ _ _ _ _ ls hq hC hS (Nat.le_of_ble_eq_true rfl) (Nat.le_of_ble_eq_true rfl) d_C_invoke_163
                · have hq := hq.1 c_39
                  refine lv_iconst (v := (2 : Int32)) hx hb d_C_invoke_136 (by decide) ?_
                  exact hE (2 : Int32) (ksLa K (0 : Int64)) _ _ _ _ _ ls hq hC hS (Nat.le_of_ble_eq_true rfl) (Nat.le_of_ble_eq_true rfl) d_C_invoke_137
            · have hq := hq.2 c_41
              refine lv_iconst (v := (2 : Int32)) hx hb d_C_invoke_84 (by decide) ?_
              exact hE (2 : Int32) (ksLa K (0 : Int64)) _ _ _ _ _ ls hq hC hS (Nat.le_of_ble_eq_true rfl) (Nat.le_of_ble_eq_true rfl) d_C_invoke_85
        · have hq := hq.1 c_43
          refine lv_iconst (v := (-1 : Int32)) hx hb d_C_invoke_36 (by decide) ?_
          exact hE (-1 : Int32) K _ _ _ _ _ ls hq hC hS (Nat.le_of_ble_eq_true rfl) (Nat.le_of_ble_eq_true rfl) d_C_invoke_37
def w_B_type (K : KT) (b : Nat) (post : Int32 → Prop) : Prop := (isT K (some b) 0) ∧ ((vp_in (oI (kob K (some b))) sf_BOX_TYPES.length) ∧ (post (sf_BOX_TYPES.getD ((oI (kob K (some b)))).toNatClampNeg 0)))
set_option maxHeartbeats 8000000 in
set_option maxRecDepth 100000 in
theorem c_B_type (l : Launch) (D : va_G) (A : Nat → Prop) (cA : ClassId) (x hs : Nat) (K : KT) (b : Nat) (post : Int32 → Prop) (hq : w_B_type K b post) : Met l y_B_type (kw y_B_type b_B_type 1 (Option.some Jvm.ClassFile.FieldType.int)) ({ frames := 0, cells := 0, slots := 0, locals := 0 }) (kP D (tysC cA) A [va_rf (some b)] (CW D A x hs cA K)) (va_Qi (fun r (_ : Unit) => post r) (fun _ t => CW D A x hs cA K t.heap) A) 0 0 A := by
  refine kmet_i (BB := (fun (_ : Unit) H => CW D A x hs cA K H)) (lv := [(0, va_rf (some b))]) (by decide +kernel) rfl (Nat.le_of_ble_eq_true rfl) ?_
  intro p e s m args below meth c Q ls X hin hC hl hE
  have hx := X.x
  have hb := X.b
  have hS : va_S A s.heap s.heap [] := va_S.rf
  unfold w_B_type at hq
  refine kgsN X hS (nm := "BOX_TYPES") (lst := sf_BOX_TYPES) (by decide +kernel) (by decide +kernel) d_B_type_0 (fun t0_1 hT0_1 => ?_)
  refine kr_aload_n (r := (some b)) hx hb d_B_type_3 rfl (lv_at hl 0 rfl) ?_
  have hs_ := hq.1
  have hq := hq.2
  refine kg_kind_B9 (r := (some b)) X hC hs_ d_B_type_4 ?_
  have hs_ := hq.1
  have hq := hq.2
  refine ksl X hS hT0_1 hs_ d_B_type_7 ?_
  exact hE (sf_BOX_TYPES.getD ((oI (kob K (some b)))).toNatClampNeg 0) () _ _ _ _ _ ls hq hC hS (Nat.le_of_ble_eq_true rfl) (Nat.le_of_ble_eq_true rfl) d_B_type_8
def w_I_type (K : KT) (b : Nat) (post : Int32 → Prop) : Prop := post (5 : Int32)
set_option maxHeartbeats 8000000 in
set_option maxRecDepth 100000 in
theorem c_I_type (l : Launch) (D : va_G) (A : Nat → Prop) (cA : ClassId) (x hs : Nat) (K : KT) (b : Nat) (post : Int32 → Prop) (hq : w_I_type K b post) : Met l y_I_type (kw y_I_type b_I_type 1 (Option.some Jvm.ClassFile.FieldType.int)) ({ frames := 0, cells := 0, slots := 0, locals := 0 }) (kP D (tysC cA) A [va_rf (some b)] (CW D A x hs cA K)) (va_Qi (fun r (_ : Unit) => post r) (fun _ t => CW D A x hs cA K t.heap) A) 0 0 A := by
  refine kmet_i (BB := (fun (_ : Unit) H => CW D A x hs cA K H)) (lv := [(0, va_rf (some b))]) (by decide +kernel) rfl (Nat.le_of_ble_eq_true rfl) ?_
  intro p e s m args below meth c Q ls X hin hC hl hE
  have hx := X.x
  have hb := X.b
  have hS : va_S A s.heap s.heap [] := va_S.rf
  unfold w_I_type at hq
  refine lv_iconst (v := (5 : Int32)) hx hb d_I_type_0 (by decide) ?_
  exact hE (5 : Int32) () _ _ _ _ _ ls hq hC hS (Nat.le_of_ble_eq_true rfl) (Nat.le_of_ble_eq_true rfl) d_I_type_1
def w_P_type (K : KT) (b : Nat) (post : Int32 → Prop) : Prop := post (0 : Int32)
set_option maxHeartbeats 8000000 in
set_option maxRecDepth 100000 in
theorem c_P_type (l : Launch) (D : va_G) (A : Nat → Prop) (cA : ClassId) (x hs : Nat) (K : KT) (b : Nat) (post : Int32 → Prop) (hq : w_P_type K b post) : Met l y_P_type (kw y_P_type b_P_type 1 (Option.some Jvm.ClassFile.FieldType.int)) ({ frames := 0, cells := 0, slots := 0, locals := 0 }) (kP D (tysC cA) A [va_rf (some b)] (CW D A x hs cA K)) (va_Qi (fun r (_ : Unit) => post r) (fun _ t => CW D A x hs cA K t.heap) A) 0 0 A := by
  refine kmet_i (BB := (fun (_ : Unit) H => CW D A x hs cA K H)) (lv := [(0, va_rf (some b))]) (by decide +kernel) rfl (Nat.le_of_ble_eq_true rfl) ?_
  intro p e s m args below meth c Q ls X hin hC hl hE
  have hx := X.x
  have hb := X.b
  have hS : va_S A s.heap s.heap [] := va_S.rf
  unfold w_P_type at hq
  refine lv_iconst (v := (0 : Int32)) hx hb d_P_type_0 (by decide) ?_
  exact hE (0 : Int32) () _ _ _ _ _ ls hq hC hS (Nat.le_of_ble_eq_true rfl) (Nat.le_of_ble_eq_true rfl) d_P_type_1
def w_S_type (K : KT) (b : Nat) (post : Int32 → Prop) : Prop := post (6 : Int32)
set_option maxHeartbeats 8000000 in
set_option maxRecDepth 100000 in
theorem c_S_type (l : Launch) (D : va_G) (A : Nat → Prop) (cA : ClassId) (x hs : Nat) (K : KT) (b : Nat) (post : Int32 → Prop) (hq : w_S_type K b post) : Met l y_S_type (kw y_S_type b_S_type 1 (Option.some Jvm.ClassFile.FieldType.int)) ({ frames := 0, cells := 0, slots := 0, locals := 0 }) (kP D (tysC cA) A [va_rf (some b)] (CW D A x hs cA K)) (va_Qi (fun r (_ : Unit) => post r) (fun _ t => CW D A x hs cA K t.heap) A) 0 0 A := by
  refine kmet_i (BB := (fun (_ : Unit) H => CW D A x hs cA K H)) (lv := [(0, va_rf (some b))]) (by decide +kernel) rfl (Nat.le_of_ble_eq_true rfl) ?_
  intro p e s m args below meth c Q ls X hin hC hl hE
  have hx := X.x
  have hb := X.b
  have hS : va_S A s.heap s.heap [] := va_S.rf
  unfold w_S_type at hq
  refine lv_bipush (v := (6 : Int32)) hx hb d_S_type_0 (by decide) ?_
  exact hE (6 : Int32) () _ _ _ _ _ ls hq hC hS (Nat.le_of_ble_eq_true rfl) (Nat.le_of_ble_eq_true rfl) d_S_type_2
def w_T_type (K : KT) (b : Nat) (post : Int32 → Prop) : Prop := post (3 : Int32)
set_option maxHeartbeats 8000000 in
set_option maxRecDepth 100000 in
theorem c_T_type (l : Launch) (D : va_G) (A : Nat → Prop) (cA : ClassId) (x hs : Nat) (K : KT) (b : Nat) (post : Int32 → Prop) (hq : w_T_type K b post) : Met l y_T_type (kw y_T_type b_T_type 1 (Option.some Jvm.ClassFile.FieldType.int)) ({ frames := 0, cells := 0, slots := 0, locals := 0 }) (kP D (tysC cA) A [va_rf (some b)] (CW D A x hs cA K)) (va_Qi (fun r (_ : Unit) => post r) (fun _ t => CW D A x hs cA K t.heap) A) 0 0 A := by
  refine kmet_i (BB := (fun (_ : Unit) H => CW D A x hs cA K H)) (lv := [(0, va_rf (some b))]) (by decide +kernel) rfl (Nat.le_of_ble_eq_true rfl) ?_
  intro p e s m args below meth c Q ls X hin hC hl hE
  have hx := X.x
  have hb := X.b
  have hS : va_S A s.heap s.heap [] := va_S.rf
  unfold w_T_type at hq
  refine lv_iconst (v := (3 : Int32)) hx hb d_T_type_0 (by decide) ?_
  exact hE (3 : Int32) () _ _ _ _ _ ls hq hC hS (Nat.le_of_ble_eq_true rfl) (Nat.le_of_ble_eq_true rfl) d_T_type_1
def w_v_type (K : KT) (r : Option Nat)  (post : Int32 → Prop) : Prop := ∃ b : Nat, r = some b ∧ b ∈ kL K ∧ (((kO K b).1 = 0 ∧ w_B_type K b  post) ∨ ((kO K b).1 = 1 ∧ w_I_type K b  post) ∨ ((kO K b).1 = 2 ∧ w_P_type K b  post) ∨ ((kO K b).1 = 3 ∧ w_S_type K b  post) ∨ ((kO K b).1 = 4 ∧ w_T_type K b  post))
set_option maxHeartbeats 4000000 in
theorem kv_type_C118 {p : Program} {l : Launch} {e : Env} {R : Room} {s : State} {m : MethodId} {args : Array Value} {below : List Frame} {meth : Method} {c : Code} {H : Heap} {locs : List Loc} {cells slots : Nat} {Q : State → Prop} {cc : ByteArray} {pc : Nat} {ls : Array Slot} {rest : List Value} {D : va_G} {A : Nat → Prop} {nL : Nat} {x hs : Nat} {cA : ClassId} {K : KT} {r : Option Nat}  {post : Int32 → Prop} (X : KC "MemberInspection" cc nL D (tysC cA) A p s m args c) (hsz : ls.size = nL) (hS : va_S A s.heap H locs) (hC : CW D A x hs cA K H) (hq : w_v_type K r  post) (hF : 1 ≤ R.frames) (hL : 20 ≤ R.locals) (hw : (rest.map fun v => v.category).sum ≤ 8) (hdg : decode cc pc = .ok (.invokevirtual 118, 3)) (hf1 : cells + 0 ≤ R.cells) (hf2 : slots + 0 ≤ R.slots) (kk : ∀ (r2 : Int32) (H1 : Heap) (locs1 : List Loc), post r2 → CW D A x hs cA K H1 → va_S A s.heap H1 locs1 → W p l e R s m args below meth c H1 locs1 (cells + 0) (slots + 0) Q (F0 m (pc + 3) ls (.int r2 :: rest))) : W p l e R s m args below meth c H locs cells slots Q (F0 m pc ls (va_rf r :: rest)) := by
  obtain ⟨b, rfl, hb, hq⟩ := hq
  rcases hq with ⟨ht, hq⟩ | ⟨ht, hq⟩ | ⟨ht, hq⟩ | ⟨ht, hq⟩ | ⟨ht, hq⟩
  · exact kci (BB := fun (_ : Unit) H => CW D A x hs cA K H) (krA (b := b) (As := []) (C := "MemberInspection$Box") (x := y_H_type) X hsz hS hC (c_B_type l D A cA x hs K b  _ hq) ki_B_type wd_300 wd_302 (X.N.2.2.2.1 y_H_type (by decide +kernel)) wd_303 wd_304 (by decide +kernel) (krec X hC hb ht rfl) ⟨rfl, rfl, Nat.le_trans (Nat.le_of_ble_eq_true rfl) hF, Nat.le_trans (Nat.le_of_ble_eq_true rfl) hL⟩ rfl rfl hw hdg ⟨Nat.le_trans (Nat.add_le_add_left (Nat.le_of_ble_eq_true rfl) _) hf1, Nat.le_trans (Nat.add_le_add_left (Nat.le_of_ble_eq_true rfl) _) hf2⟩) hS (fun r2 _u H1 locs1 hp hC1 hS1 => W.widen (Nat.add_le_add_left (Nat.le_of_ble_eq_true rfl) _) (Nat.add_le_add_left (Nat.le_of_ble_eq_true rfl) _) (kk r2 H1 locs1 hp hC1 hS1))
  · exact kci (BB := fun (_ : Unit) H => CW D A x hs cA K H) (krA (b := b) (As := []) (C := "MemberInspection$Item") (x := y_H_type) X hsz hS hC (c_I_type l D A cA x hs K b  _ hq) ki_I_type wd_300 wd_302 (X.N.2.2.2.1 y_H_type (by decide +kernel)) wd_308 wd_309 (by decide +kernel) (krec X hC hb ht rfl) ⟨rfl, rfl, Nat.le_trans (Nat.le_of_ble_eq_true rfl) hF, Nat.le_trans (Nat.le_of_ble_eq_true rfl) hL⟩ rfl rfl hw hdg ⟨Nat.le_trans (Nat.add_le_add_left (Nat.le_of_ble_eq_true rfl) _) hf1, Nat.le_trans (Nat.add_le_add_left (Nat.le_of_ble_eq_true rfl) _) hf2⟩) hS (fun r2 _u H1 locs1 hp hC1 hS1 => W.widen (Nat.add_le_add_left (Nat.le_of_ble_eq_true rfl) _) (Nat.add_le_add_left (Nat.le_of_ble_eq_true rfl) _) (kk r2 H1 locs1 hp hC1 hS1))
  · exact kci (BB := fun (_ : Unit) H => CW D A x hs cA K H) (krA (b := b) (As := []) (C := "MemberInspection$Plain") (x := y_H_type) X hsz hS hC (c_P_type l D A cA x hs K b  _ hq) ki_P_type wd_300 wd_302 (X.N.2.2.2.1 y_H_type (by decide +kernel)) wd_311 wd_312 (by decide +kernel) (krec X hC hb ht rfl) ⟨rfl, rfl, Nat.le_trans (Nat.le_of_ble_eq_true rfl) hF, Nat.le_trans (Nat.le_of_ble_eq_true rfl) hL⟩ rfl rfl hw hdg ⟨Nat.le_trans (Nat.add_le_add_left (Nat.le_of_ble_eq_true rfl) _) hf1, Nat.le_trans (Nat.add_le_add_left (Nat.le_of_ble_eq_true rfl) _) hf2⟩) hS (fun r2 _u H1 locs1 hp hC1 hS1 => W.widen (Nat.add_le_add_left (Nat.le_of_ble_eq_true rfl) _) (Nat.add_le_add_left (Nat.le_of_ble_eq_true rfl) _) (kk r2 H1 locs1 hp hC1 hS1))
  · exact kci (BB := fun (_ : Unit) H => CW D A x hs cA K H) (krA (b := b) (As := []) (C := "MemberInspection$Special") (x := y_H_type) X hsz hS hC (c_S_type l D A cA x hs K b  _ hq) ki_S_type wd_300 wd_302 (X.N.2.2.2.1 y_H_type (by decide +kernel)) wd_314 wd_315 (by decide +kernel) (krec X hC hb ht rfl) ⟨rfl, rfl, Nat.le_trans (Nat.le_of_ble_eq_true rfl) hF, Nat.le_trans (Nat.le_of_ble_eq_true rfl) hL⟩ rfl rfl hw hdg ⟨Nat.le_trans (Nat.add_le_add_left (Nat.le_of_ble_eq_true rfl) _) hf1, Nat.le_trans (Nat.add_le_add_left (Nat.le_of_ble_eq_true rfl) _) hf2⟩) hS (fun r2 _u H1 locs1 hp hC1 hS1 => W.widen (Nat.add_le_add_left (Nat.le_of_ble_eq_true rfl) _) (Nat.add_le_add_left (Nat.le_of_ble_eq_true rfl) _) (kk r2 H1 locs1 hp hC1 hS1))
  · exact kci (BB := fun (_ : Unit) H => CW D A x hs cA K H) (krA (b := b) (As := []) (C := "MemberInspection$Text") (x := y_H_type) X hsz hS hC (c_T_type l D A cA x hs K b  _ hq) ki_T_type wd_300 wd_302 (X.N.2.2.2.1 y_H_type (by decide +kernel)) wd_317 wd_318 (by decide +kernel) (krec X hC hb ht rfl) ⟨rfl, rfl, Nat.le_trans (Nat.le_of_ble_eq_true rfl) hF, Nat.le_trans (Nat.le_of_ble_eq_true rfl) hL⟩ rfl rfl hw hdg ⟨Nat.le_trans (Nat.add_le_add_left (Nat.le_of_ble_eq_true rfl) _) hf1, Nat.le_trans (Nat.add_le_add_left (Nat.le_of_ble_eq_true rfl) _) hf2⟩) hS (fun r2 _u H1 locs1 hp hC1 hS1 => W.widen (Nat.add_le_add_left (Nat.le_of_ble_eq_true rfl) _) (Nat.add_le_add_left (Nat.le_of_ble_eq_true rfl) _) (kk r2 H1 locs1 hp hC1 hS1))
def w_C_takes (a1 : Int32) (a2 : Int32) (post : Int32 → Prop) : Prop := ((a1 = a2) → (z01 (1 : Int32) ∧ post (1 : Int32))) ∧ (¬ (a1 = a2) → (((a1 = (0 : Int32)) → (((a2 = (8 : Int32)) → (z01 (0 : Int32) ∧ post (0 : Int32))) ∧ (¬ (a2 = (8 : Int32)) → (z01 (1 : Int32) ∧ post (1 : Int32))))) ∧ (¬ (a1 = (0 : Int32)) → (((a1 = (4 : Int32)) → (((a2 = (6 : Int32)) → (z01 (1 : Int32) ∧ post (1 : Int32))) ∧ (¬ (a2 = (6 : Int32)) → (((a2 = (7 : Int32)) → (z01 (1 : Int32) ∧ post (1 : Int32))) ∧ (¬ (a2 = (7 : Int32)) → (z01 (0 : Int32) ∧ post (0 : Int32))))))) ∧ (¬ (a1 = (4 : Int32)) → (((a1 = (10 : Int32)) → (((a2 = (11 : Int32)) → (z01 (1 : Int32) ∧ post (1 : Int32))) ∧ (¬ (a2 = (11 : Int32)) → (((a2 = (12 : Int32)) → (z01 (1 : Int32) ∧ post (1 : Int32))) ∧ (¬ (a2 = (12 : Int32)) → (z01 (0 : Int32) ∧ post (0 : Int32))))))) ∧ (¬ (a1 = (10 : Int32)) → (((a1 = (11 : Int32)) → (((a2 = (12 : Int32)) → (z01 (1 : Int32) ∧ post (1 : Int32))) ∧ (¬ (a2 = (12 : Int32)) → (z01 (0 : Int32) ∧ post (0 : Int32))))) ∧ (¬ (a1 = (11 : Int32)) → ((vp_in a2 sf_TYPES_ABOVE.length) ∧ ((((sf_TYPES_ABOVE.getD (a2).toNatClampNeg 0) = a1) → (z01 (1 : Int32) ∧ post (1 : Int32))) ∧ (¬ ((sf_TYPES_ABOVE.getD (a2).toNatClampNeg 0) = a1) → (z01 (0 : Int32) ∧ post (0 : Int32))))))))))))))
set_option maxHeartbeats 8000000 in
set_option maxRecDepth 100000 in
theorem c_C_takes (l : Launch) (D : va_G) (tys : List (ClassId × FieldType)) (A : Nat → Prop) (B : Heap → Prop) (a1 : Int32) (a2 : Int32) (post : Int32 → Prop) (hq : w_C_takes a1 a2 post) : Met l y_C_takes (kw y_C_takes b_C_takes 2 (Option.some Jvm.ClassFile.FieldType.boolean)) ({ frames := 0, cells := 0, slots := 0, locals := 0 }) (kP D tys A [.int a1, .int a2] B) (va_Qi (fun r (_ : Unit) => post r) (fun _ t => B t.heap) A) 0 0 A := by
  refine kmet_z (BB := (fun (_ : Unit) H => B H)) (lv := [(0, .int a1), (1, .int a2)]) (by decide +kernel) rfl (Nat.le_of_ble_eq_true rfl) ?_
  intro p e s m args below meth c Q ls X hin hC hl hE
  have hx := X.x
  have hb := X.b
  have hS : va_S A s.heap s.heap [] := va_S.rf
  unfold w_C_takes at hq
  refine lv_iload_n hx hb d_C_takes_0 rfl (lv_at hl 0 rfl) ?_
  refine lv_iload_n hx hb d_C_takes_1 rfl (lv_at hl 1 rfl) ?_
  refine lv_icmp_ne (tgt := 7) hx hb d_C_takes_2 (by decide) (fun c_13 => ?_) (fun c_13 => ?_)
  · have hq := hq.2 c_13
    refine lv_iload_n hx hb d_C_takes_7 rfl (lv_at hl 0 rfl) ?_
    by_cases g_1 : a1 = (0 : Int32)
    · have hq := hq.1 g_1
      refine lv_lookup (off := 44) (tgt := 52) hx hb d_C_takes_8 (by decide) (by show Op.lookupswitch.offset [(0, 44), (4, 56), (10, 74), (11, 92)] 104 _ = _; rw [g_1]; rfl) (by decide) ?_
      refine lv_iload_n hx hb d_C_takes_52 rfl (lv_at hl 1 rfl) ?_
      refine lv_bipush (v := (8 : Int32)) hx hb d_C_takes_53 (by decide) ?_
      refine lv_icmp_eq (tgt := 62) hx hb d_C_takes_55 (by decide) (fun c_2 => ?_) (fun c_2 => ?_)
      · have hq := hq.1 c_2
        refine lv_iconst (v := (0 : Int32)) hx hb d_C_takes_62 (by decide) ?_
        exact hE (0 : Int32) () _ _ _ _ _ ls hq hC hS (Nat.le_of_ble_eq_true rfl) (Nat.le_of_ble_eq_true rfl) d_C_takes_63
      · have hq := hq.2 c_2
        refine lv_iconst (v := (1 : Int32)) hx hb d_C_takes_58 (by decide) ?_
        refine lv_goto (tgt := 63) hx hb d_C_takes_59 (by decide) ?_
        exact hE (1 : Int32) () _ _ _ _ _ ls hq hC hS (Nat.le_of_ble_eq_true rfl) (Nat.le_of_ble_eq_true rfl) d_C_takes_63
    · have hq := hq.2 g_1
      by_cases g_3 : a1 = (4 : Int32)
      · have hq := hq.1 g_3
        refine lv_lookup (off := 56) (tgt := 64) hx hb d_C_takes_8 (by decide) (by show Op.lookupswitch.offset [(0, 44), (4, 56), (10, 74), (11, 92)] 104 _ = _; rw [g_3]; rfl) (by decide) ?_
        refine lv_iload_n hx hb d_C_takes_64 rfl (lv_at hl 1 rfl) ?_
        refine lv_bipush (v := (6 : Int32)) hx hb d_C_takes_65 (by decide) ?_
        refine lv_icmp_eq (tgt := 76) hx hb d_C_takes_67 (by decide) (fun c_5 => ?_) (fun c_5 => ?_)
        · have hq := hq.1 c_5
          refine lv_iconst (v := (1 : Int32)) hx hb d_C_takes_76 (by decide) ?_
          refine lv_goto (tgt := 81) hx hb d_C_takes_77 (by decide) ?_
          exact hE (1 : Int32) () _ _ _ _ _ ls hq hC hS (Nat.le_of_ble_eq_true rfl) (Nat.le_of_ble_eq_true rfl) d_C_takes_81
        · have hq := hq.2 c_5
          refine lv_iload_n hx hb d_C_takes_70 rfl (lv_at hl 1 rfl) ?_
          refine lv_bipush (v := (7 : Int32)) hx hb d_C_takes_71 (by decide) ?_
          refine lv_icmp_ne (tgt := 80) hx hb d_C_takes_73 (by decide) (fun c_4 => ?_) (fun c_4 => ?_)
          · have hq := hq.2 c_4
            refine lv_iconst (v := (0 : Int32)) hx hb d_C_takes_80 (by decide) ?_
            exact hE (0 : Int32) () _ _ _ _ _ ls hq hC hS (Nat.le_of_ble_eq_true rfl) (Nat.le_of_ble_eq_true rfl) d_C_takes_81
          · have hq := hq.1 c_4
            refine lv_iconst (v := (1 : Int32)) hx hb d_C_takes_76 (by decide) ?_
            refine lv_goto (tgt := 81) hx hb d_C_takes_77 (by decide) ?_
            exact hE (1 : Int32) () _ _ _ _ _ ls hq hC hS (Nat.le_of_ble_eq_true rfl) (Nat.le_of_ble_eq_true rfl) d_C_takes_81
      · have hq := hq.2 g_3
        by_cases g_6 : a1 = (10 : Int32)
        · have hq := hq.1 g_6
          refine lv_lookup (off := 74) (tgt := 82) hx hb d_C_takes_8 (by decide) (by show Op.lookupswitch.offset [(0, 44), (4, 56), (10, 74), (11, 92)] 104 _ = _; rw [g_6]; rfl) (by decide) ?_
          refine lv_iload_n hx hb d_C_takes_82 rfl (lv_at hl 1 rfl) ?_
          refine lv_bipush (v := (11 : Int32)) hx hb d_C_takes_83 (by decide) ?_
          refine lv_icmp_eq (tgt := 94) hx hb d_C_takes_85 (by decide) (fun c_8 => ?_) (fun c_8 => ?_)
          · have hq := hq.1 c_8
            refine lv_iconst (v := (1 : Int32)) hx hb d_C_takes_94 (by decide) ?_
            refine lv_goto (tgt := 99) hx hb d_C_takes_95 (by decide) ?_
            exact hE (1 : Int32) () _ _ _ _ _ ls hq hC hS (Nat.le_of_ble_eq_true rfl) (Nat.le_of_ble_eq_true rfl) d_C_takes_99
          · have hq := hq.2 c_8
            refine lv_iload_n hx hb d_C_takes_88 rfl (lv_at hl 1 rfl) ?_
            refine lv_bipush (v := (12 : Int32)) hx hb d_C_takes_89 (by decide) ?_
            refine lv_icmp_ne (tgt := 98) hx hb d_C_takes_91 (by decide) (fun c_7 => ?_) (fun c_7 => ?_)
            · have hq := hq.2 c_7
              refine lv_iconst (v := (0 : Int32)) hx hb d_C_takes_98 (by decide) ?_
              exact hE (0 : Int32) () _ _ _ _ _ ls hq hC hS (Nat.le_of_ble_eq_true rfl) (Nat.le_of_ble_eq_true rfl) d_C_takes_99
            · have hq := hq.1 c_7
              refine lv_iconst (v := (1 : Int32)) hx hb d_C_takes_94 (by decide) ?_
              refine lv_goto (tgt := 99) hx hb d_C_takes_95 (by decide) ?_
              exact hE (1 : Int32) () _ _ _ _ _ ls hq hC hS (Nat.le_of_ble_eq_true rfl) (Nat.le_of_ble_eq_true rfl) d_C_takes_99
        · have hq := hq.2 g_6
          by_cases g_9 : a1 = (11 : Int32)
          · have hq := hq.1 g_9
            refine lv_lookup (off := 92) (tgt := 100) hx hb d_C_takes_8 (by decide) (by show Op.lookupswitch.offset [(0, 44), (4, 56), (10, 74), (11, 92)] 104 _ = _; rw [g_9]; rfl) (by decide) ?_
            refine lv_iload_n hx hb d_C_takes_100 rfl (lv_at hl 1 rfl) ?_
            refine lv_bipush (v := (12 : Int32)) hx hb d_C_takes_101 (by decide) ?_
            refine lv_icmp_ne (tgt := 110) hx hb d_C_takes_103 (by decide) (fun c_10 => ?_) (fun c_10 => ?_)
            · have hq := hq.2 c_10
              refine lv_iconst (v := (0 : Int32)) hx hb d_C_takes_110 (by decide) ?_
              exact hE (0 : Int32) () _ _ _ _ _ ls hq hC hS (Nat.le_of_ble_eq_true rfl) (Nat.le_of_ble_eq_true rfl) d_C_takes_111
            · have hq := hq.1 c_10
              refine lv_iconst (v := (1 : Int32)) hx hb d_C_takes_106 (by decide) ?_
              refine lv_goto (tgt := 111) hx hb d_C_takes_107 (by decide) ?_
              exact hE (1 : Int32) () _ _ _ _ _ ls hq hC hS (Nat.le_of_ble_eq_true rfl) (Nat.le_of_ble_eq_true rfl) d_C_takes_111
          · have hq := hq.2 g_9
            refine lv_lookup (off := 104) (tgt := 112) hx hb d_C_takes_8 (by decide) (by show Op.lookupswitch.offset [(0, 44), (4, 56), (10, 74), (11, 92)] 104 _ = _; rw [lv_osw (a := 0) g_1 rfl, lv_osw (a := 4) g_3 rfl, lv_osw (a := 10) g_6 rfl, lv_osw (a := 11) g_9 rfl]; rfl) (by decide) ?_
            refine kgs X hS (nm := "TYPES_ABOVE") (lst := sf_TYPES_ABOVE) (by decide +kernel) wd_323 d_C_takes_112 (fun t112_11 hT112_11 => ?_)
            refine lv_iload_n hx hb d_C_takes_115 rfl (lv_at hl 1 rfl) ?_
            have hs_ := hq.1
            have hq := hq.2
            refine ksl X hS hT112_11 hs_ d_C_takes_116 ?_
            refine lv_iload_n hx hb d_C_takes_117 rfl (lv_at hl 0 rfl) ?_
            refine lv_icmp_ne (tgt := 125) hx hb d_C_takes_118 (by decide) (fun c_12 => ?_) (fun c_12 => ?_)
            · have hq := hq.2 c_12
              refine lv_iconst (v := (0 : Int32)) hx hb d_C_takes_125 (by decide) ?_
              exact hE (0 : Int32) () _ _ _ _ _ ls hq hC hS (Nat.le_of_ble_eq_true rfl) (Nat.le_of_ble_eq_true rfl) d_C_takes_126
            · have hq := hq.1 c_12
              refine lv_iconst (v := (1 : Int32)) hx hb d_C_takes_121 (by decide) ?_
              refine lv_goto (tgt := 126) hx hb d_C_takes_122 (by decide) ?_
              exact hE (1 : Int32) () _ _ _ _ _ ls hq hC hS (Nat.le_of_ble_eq_true rfl) (Nat.le_of_ble_eq_true rfl) d_C_takes_126
  · have hq := hq.1 c_13
    refine lv_iconst (v := (1 : Int32)) hx hb d_C_takes_5 (by decide) ?_
    exact hE (1 : Int32) () _ _ _ _ _ ls hq hC hS (Nat.le_of_ble_eq_true rfl) (Nat.le_of_ble_eq_true rfl) d_C_takes_6
def w_C_cast (K : KT) (a1 : Int32) (a2 : Int32) (post : Int32 → KT → Prop) : Prop := w_C_isBelow a1 (9 : Int32) (fun r3_1 => ((r3_1 = (0 : Int32)) → (post (-1 : Int32) K)) ∧ (¬ (r3_1 = (0 : Int32)) → (w_C_isBelow a2 (8 : Int32) (fun r12_2 => ((r12_2 = (0 : Int32)) → (post (-1 : Int32) K)) ∧ (¬ (r12_2 = (0 : Int32)) → ((vp_in a1 9) ∧ (∀ r30_3 : Option Nat, r30_3 = (kH (ksLa K (0 : Int64)) (a1).toNatClampNeg) → (((r30_3 = none) → (w_C_answer (ksLa K (0 : Int64)) r30_3 (fun r52_4 K52_4 => post r52_4 K52_4))) ∧ (¬ (r30_3 = none) → (w_v_type (ksLa K (0 : Int64)) r30_3  (fun r38_5 => w_C_takes a2 r38_5 (fun r41_6 => ((r41_6 = (0 : Int32)) → (post (7 : Int32) (ksLa K (0 : Int64)))) ∧ (¬ (r41_6 = (0 : Int32)) → (w_C_answer (ksLa K (0 : Int64)) r30_3 (fun r52_7 K52_7 => post r52_7 K52_7)))))))))))))))
set_option maxHeartbeats 8000000 in
set_option maxRecDepth 100000 in
theorem c_C_cast (l : Launch) (D : va_G) (A : Nat → Prop) (cA : ClassId) (x hs : Nat) (K : KT) (a1 : Int32) (a2 : Int32) (post : Int32 → KT → Prop) (hq : w_C_cast K a1 a2 post) : Met l y_C_cast (kw y_C_cast b_C_cast 4 (Option.some Jvm.ClassFile.FieldType.int)) ({ frames := 1, cells := 0, slots := 0, locals := 21 }) (kP D (tysC cA) A [.ref x, .int a1, .int a2] (CW D A x hs cA K)) (va_Qi post (fun u t => CW D A x hs cA u t.heap) A) 0 0 A := by
  refine kmet_i (BB := (fun u H => CW D A x hs cA u H)) (lv := [(0, .ref x), (1, .int a1), (2, .int a2)]) (by decide +kernel) rfl (Nat.le_of_ble_eq_true rfl) ?_
  intro p e s m args below meth c Q ls X hin hC hl hE
  have hx := X.x
  have hb := X.b
  have hS : va_S A s.heap s.heap [] := va_S.rf
  unfold w_C_cast at hq
  refine lv_iload_n hx hb d_C_cast_0 rfl (lv_at hl 1 rfl) ?_
  refine lv_bipush (v := (9 : Int32)) hx hb d_C_cast_1 (by decide) ?_
  refine kci (BB := fun (_ : Unit) H => CW D A x hs cA K H) (krS X hl.1 hS hC (c_C_isBelow l D (tysC cA) A _ a1 (9 : Int32) _ hq) ki_C_isBelow wd_35 wd_36 ⟨rfl, rfl, Nat.le_of_ble_eq_true rfl, Nat.le_of_ble_eq_true rfl⟩ rfl rfl (Nat.le_of_ble_eq_true rfl) d_C_cast_3 ⟨Nat.le_of_ble_eq_true rfl, Nat.le_of_ble_eq_true rfl⟩) hS (fun r3_1 _u H locs hq hC hS => ?_)
  refine lv_if_eq (tgt := 18) hx hb d_C_cast_6 (by decide) (fun c_11 => ?_) (fun c_11 => ?_)
  · have hq := hq.1 c_11
    refine lv_iconst (v := (-1 : Int32)) hx hb d_C_cast_18 (by decide) ?_
    exact hE (-1 : Int32) K _ _ _ _ _ ls hq hC hS (Nat.le_of_ble_eq_true rfl) (Nat.le_of_ble_eq_true rfl) d_C_cast_19
  · have hq := hq.2 c_11
    refine lv_iload_n hx hb d_C_cast_9 rfl (lv_at hl 2 rfl) ?_
    refine lv_bipush (v := (8 : Int32)) hx hb d_C_cast_10 (by decide) ?_
    refine kci (BB := fun (_ : Unit) H => CW D A x hs cA K H) (krS X hl.1 hS hC (c_C_isBelow l D (tysC cA) A _ a2 (8 : Int32) _ hq) ki_C_isBelow wd_35 wd_36 ⟨rfl, rfl, Nat.le_of_ble_eq_true rfl, Nat.le_of_ble_eq_true rfl⟩ rfl rfl (Nat.le_of_ble_eq_true rfl) d_C_cast_12 ⟨Nat.le_of_ble_eq_true rfl, Nat.le_of_ble_eq_true rfl⟩) hS (fun r12_2 _u H locs hq hC hS => ?_)
    refine lv_if_ne (tgt := 20) hx hb d_C_cast_15 (by decide) (fun c_10 => ?_) (fun c_10 => ?_)
    · have hq := hq.2 c_10
      refine lv_aload_n hx hb d_C_cast_20 rfl (lv_at hl 0 rfl) ?_
      refine lv_lconst (v := (0 : Int64)) hx hb d_C_cast_21 (by decide) ?_
      refine kp_lastTold X hC hS d_C_cast_22 (fun H locs hC hS => ?_)
      refine lv_aload_n hx hb d_C_cast_25 rfl (lv_at hl 0 rfl) ?_
      refine kg_handles X hC d_C_cast_26 ?_
      refine lv_iload_n hx hb d_C_cast_29 rfl (lv_at hl 1 rfl) ?_
      have hs_ := hq.1
      have hq := hq.2
      refine kg_h X hC hs_ d_C_cast_30 (fun r30_3 e_r30_3 => ?_)
      have hq := hq r30_3 e_r30_3
      refine kr_astore_n (r := r30_3) (lv' := [(3, va_rf r30_3), (0, .ref x), (1, .int a1), (2, .int a2)]) hx hb d_C_cast_31 rfl hl (by decide) (by cases r30_3 <;> rfl) (fun ls hl => ?_)
      refine kr_aload_n (r := r30_3) hx hb d_C_cast_32 rfl (lv_at hl 0 rfl) ?_
      refine kr_ifnull (r := r30_3) (tgt := 50) hx hb d_C_cast_33 (by decide) (fun c_9 => ?_) (fun c_9 => ?_)
      · have hq := hq.1 c_9
        refine lv_aload_n hx hb d_C_cast_50 rfl (lv_at hl 1 rfl) ?_
        refine kr_aload_n (r := r30_3) hx hb d_C_cast_51 rfl (lv_at hl 0 rfl) ?_
        refine kci (BB := fun u H => CW D A x hs cA u H) (krV (b := x) X hl.1 hS hC (c_C_answer l D A cA x hs (ksLa K (0 : Int64)) r30_3 _ hq) ki_C_answer wd_157 wd_159 ws_C_answer (krecX X hC) ⟨rfl, rfl, Nat.le_of_ble_eq_true rfl, Nat.le_of_ble_eq_true rfl⟩ rfl rfl (Nat.le_of_ble_eq_true rfl) d_C_cast_52 ⟨Nat.le_of_ble_eq_true rfl, Nat.le_of_ble_eq_true rfl⟩) hS (fun r52_4 K52_4 H locs hq hC hS => ?_)
        exact hE r52_4 K52_4 _ _ _ _ _ ls hq hC hS (Nat.le_of_ble_eq_true rfl) (Nat.le_of_ble_eq_true rfl) d_C_cast_55
      · have hq := hq.2 c_9
        refine lv_iload_n hx hb d_C_cast_36 rfl (lv_at hl 3 rfl) ?_
        refine kr_aload_n (r := r30_3) hx hb d_C_cast_37 rfl (lv_at hl 0 rfl) ?_
        refine kv_type_C118 (r := r30_3) X hl.1 hS hC hq (Nat.le_of_ble_eq_true rfl) (Nat.le_of_ble_eq_true rfl) (Nat.le_of_ble_eq_true rfl) d_C_cast_38 (Nat.le_of_ble_eq_true rfl) (Nat.le_of_ble_eq_true rfl) (fun r38_5 H locs hq hC hS => ?_)
        refine kci (BB := fun (_ : Unit) H => CW D A x hs cA (ksLa K (0 : Int64)) H) (krS X hl.1 hS hC (c_C_takes l D (tysC cA) A _ a2 r38_5 _ hq) ki_C_takes wd_320 wd_321 ⟨rfl, rfl, Nat.le_of_ble_eq_true rfl, Nat.le_of_ble_eq_true rfl⟩ rfl rfl (Nat.le_of_ble_eq_true rfl) d_C_cast_41 ⟨Nat.le_of_ble_eq_true rfl, Nat.le_of_ble_eq_true rfl⟩) hS (fun r41_6 _u H locs hq hC hS => ?_)
        refine lv_if_ne (tgt := 50) hx hb d_C_cast_44 (by decide) (fun c_8 => ?_) (fun c_8 => ?_)
        · have hq := hq.2 c_8
          refine lv_aload_n hx hb d_C_cast_50 rfl (lv_at hl 1 rfl) ?_
          refine kr_aload_n (r := r30_3) hx hb d_C_cast_51 rfl (lv_at hl 0 rfl) ?_
          refine kci (BB := fun u H => CW D A x hs cA u H) (krV (b := x) X hl.1 hS hC (c_C_answer l D A cA x hs (ksLa K (0 : Int64)) r30_3 _ hq) ki_C_answer wd_157 wd_159 ws_C_answer (krecX X hC) ⟨rfl, rfl, Nat.le_of_ble_eq_true rfl, Nat.le_of_ble_eq_true rfl⟩ rfl rfl (Nat.le_of_ble_eq_true rfl) d_C_cast_52 ⟨Nat.le_of_ble_eq_true rfl, Nat.le_of_ble_eq_true rfl⟩) hS (fun r52_7 K52_7 H locs hq hC hS => ?_)
          exact hE r52_7 K52_7 _ _ _ _ _ ls hq hC hS (Nat.le_of_ble_eq_true rfl) (Nat.le_of_ble_eq_true rfl) d_C_cast_55
        · have hq := hq.1 c_8
          refine lv_bipush (v := (7 : Int32)) hx hb d_C_cast_47 (by decide) ?_
          exact hE (7 : Int32) (ksLa K (0 : Int64)) _ _ _ _ _ ls hq hC hS (Nat.le_of_ble_eq_true rfl) (Nat.le_of_ble_eq_true rfl) d_C_cast_49
    · have hq := hq.1 c_10
      refine lv_iconst (v := (-1 : Int32)) hx hb d_C_cast_18 (by decide) ?_
      exact hE (-1 : Int32) K _ _ _ _ _ ls hq hC hS (Nat.le_of_ble_eq_true rfl) (Nat.le_of_ble_eq_true rfl) d_C_cast_19
def w_C_last (K : KT)  (post : Int64 → Prop) : Prop := post (kLa K)
set_option maxHeartbeats 8000000 in
set_option maxRecDepth 100000 in
theorem c_C_last (l : Launch) (D : va_G) (A : Nat → Prop) (cA : ClassId) (x hs : Nat) (K : KT)  (post : Int64 → Prop) (hq : w_C_last K post) : Met l y_C_last (kw y_C_last b_C_last 1 (Option.some Jvm.ClassFile.FieldType.long)) ({ frames := 0, cells := 0, slots := 0, locals := 0 }) (kP D (tysC cA) A [.ref x] (CW D A x hs cA K)) (va_Ql (fun r (_ : Unit) => post r) (fun _ t => CW D A x hs cA K t.heap) A) 0 0 A := by
  refine kmet_l (BB := (fun (_ : Unit) H => CW D A x hs cA K H)) (lv := [(0, .ref x)]) (by decide +kernel) rfl (Nat.le_of_ble_eq_true rfl) ?_
  intro p e s m args below meth c Q ls X hin hC hl hE
  have hx := X.x
  have hb := X.b
  have hS : va_S A s.heap s.heap [] := va_S.rf
  unfold w_C_last at hq
  refine lv_aload_n hx hb d_C_last_0 rfl (lv_at hl 0 rfl) ?_
  refine kg_lastTold X hC d_C_last_1 ?_
  exact hE (kLa K) () _ _ _ _ _ ls hq hC hS (Nat.le_of_ble_eq_true rfl) (Nat.le_of_ble_eq_true rfl) d_C_last_4
def w_C_leastHandleOf (K : KT) (a1 : Option Nat) (post : Int32 → Prop) : Prop := (okR K a1) ∧ ((((bI (ktg K a1 == 1 || ktg K a1 == 3)) = (0 : Int32)) → ((okR K a1) ∧ ((((bI (ktg K a1 == 2)) = (0 : Int32)) → (post (-2 : Int32))) ∧ (¬ ((bI (ktg K a1 == 2)) = (0 : Int32)) → (∀ r27_17 : Option Nat, r27_17 = (kH K 0) → (((r27_17 = a1) → (post (0 : Int32))) ∧ (¬ (r27_17 = a1) → (∀ r27_18 : Option Nat, r27_18 = (kH K 1) → (((r27_18 = a1) → (post (1 : Int32))) ∧ (¬ (r27_18 = a1) → (∀ r27_19 : Option Nat, r27_19 = (kH K 2) → (((r27_19 = a1) → (post (2 : Int32))) ∧ (¬ (r27_19 = a1) → (∀ r27_20 : Option Nat, r27_20 = (kH K 3) → (((r27_20 = a1) → (post (3 : Int32))) ∧ (¬ (r27_20 = a1) → (∀ r27_21 : Option Nat, r27_21 = (kH K 4) → (((r27_21 = a1) → (post (4 : Int32))) ∧ (¬ (r27_21 = a1) → (∀ r27_22 : Option Nat, r27_22 = (kH K 5) → (((r27_22 = a1) → (post (5 : Int32))) ∧ (¬ (r27_22 = a1) → (∀ r27_23 : Option Nat, r27_23 = (kH K 6) → (((r27_23 = a1) → (post (6 : Int32))) ∧ (¬ (r27_23 = a1) → (∀ r27_24 : Option Nat, r27_24 = (kH K 7) → (((r27_24 = a1) → (post (7 : Int32))) ∧ (¬ (r27_24 = a1) → (post (-2 : Int32)))))))))))))))))))))))))))))) ∧ (¬ ((bI (ktg K a1 == 1 || ktg K a1 == 3)) = (0 : Int32)) → (∀ r27_1 : Option Nat, r27_1 = (kH K 0) → (((r27_1 = a1) → (post (0 : Int32))) ∧ (¬ (r27_1 = a1) → (∀ r27_2 : Option Nat, r27_2 = (kH K 1) → (((r27_2 = a1) → (post (1 : Int32))) ∧ (¬ (r27_2 = a1) → (∀ r27_3 : Option Nat, r27_3 = (kH K 2) → (((r27_3 = a1) → (post (2 : Int32))) ∧ (¬ (r27_3 = a1) → (∀ r27_4 : Option Nat, r27_4 = (kH K 3) → (((r27_4 = a1) → (post (3 : Int32))) ∧ (¬ (r27_4 = a1) → (∀ r27_5 : Option Nat, r27_5 = (kH K 4) → (((r27_5 = a1) → (post (4 : Int32))) ∧ (¬ (r27_5 = a1) → (∀ r27_6 : Option Nat, r27_6 = (kH K 5) → (((r27_6 = a1) → (post (5 : Int32))) ∧ (¬ (r27_6 = a1) → (∀ r27_7 : Option Nat, r27_7 = (kH K 6) → (((r27_7 = a1) → (post (6 : Int32))) ∧ (¬ (r27_7 = a1) → (∀ r27_8 : Option Nat, r27_8 = (kH K 7) → (((r27_8 = a1) → (post (7 : Int32))) ∧ (¬ (r27_8 = a1) → (post (-2 : Int32))))))))))))))))))))))))))))
set_option maxHeartbeats 8000000 in
set_option maxRecDepth 100000 in
theorem c_C_leastHandleOf (l : Launch) (D : va_G) (A : Nat → Prop) (cA : ClassId) (x hs : Nat) (K : KT) (a1 : Option Nat) (post : Int32 → Prop) (hq : w_C_leastHandleOf K a1 post) : Met l y_C_leastHandleOf (kw y_C_leastHandleOf b_C_leastHandleOf 3 (Option.some Jvm.ClassFile.FieldType.int)) ({ frames := 0, cells := 0, slots := 0, locals := 0 }) (kP D (tysC cA) A [.ref x, va_rf a1] (CW D A x hs cA K)) (va_Qi (fun r (_ : Unit) => post r) (fun _ t => CW D A x hs cA K t.heap) A) 0 0 A := by
  refine kmet_i (BB := (fun (_ : Unit) H => CW D A x hs cA K H)) (lv := [(0, .ref x), (1, va_rf a1)]) (by decide +kernel) (by cases a1 <;> rfl) (by cases a1 <;> exact Nat.le_of_ble_eq_true rfl) ?_
  intro p e s m args below meth c Q ls X hin hC hl hE
  have hx := X.x
  have hb := X.b
  have hS : va_S A s.heap s.heap [] := va_S.rf
  unfold w_C_leastHandleOf at hq
  refine kr_aload_n (r := a1) hx hb d_C_leastHandleOf_0 rfl (lv_at hl 1 rfl) ?_
  have hs_ := hq.1
  have hq := hq.2
  refine ki_inst_I (r := a1) X hC hs_ d_C_leastHandleOf_1 ?_
  refine lv_if_ne (tgt := 14) hx hb d_C_leastHandleOf_4 (by decide) (fun c_34 => ?_) (fun c_34 => ?_)
  · have hq := hq.2 c_34
    refine lv_iconst (v := (0 : Int32)) hx hb d_C_leastHandleOf_14 (by decide) ?_
    refine lv_istore_n (lv' := [(2, .int (0 : Int32)), (0, .ref x), (1, va_rf a1)]) hx hb d_C_leastHandleOf_15 rfl hl (by decide) (by cases a1 <;> rfl) (fun ls hl => ?_)
    refine lv_iload_n hx hb d_C_leastHandleOf_16 rfl (lv_at hl 0 rfl) ?_
    refine lv_bipush (v := (8 : Int32)) hx hb d_C_leastHandleOf_17 (by decide) ?_
    refine lv_icmp_ge (tgt := 40) hx hb d_C_leastHandleOf_19 (by decide) (fun c_ => absurd c_ (by decide)) (fun _ => ?_)
    refine lv_aload_n hx hb d_C_leastHandleOf_22 rfl (lv_at hl 1 rfl) ?_
    refine kg_handles X hC d_C_leastHandleOf_23 ?_
    refine lv_iload_n hx hb d_C_leastHandleOf_26 rfl (lv_at hl 0 rfl) ?_
    refine kg_h X hC (by unfold vp_in; decide) d_C_leastHandleOf_27 (fun r27_1 e_r27_1 => ?_)
    have hq := hq r27_1 e_r27_1
    refine kr_aload_n (r := a1) hx hb d_C_leastHandleOf_28 rfl (lv_at hl 2 rfl) ?_
    refine lv_acmp_ne (rx := r27_1) (ry := a1) (tgt := 34) hx hb d_C_leastHandleOf_29 (by decide) (fun c_16 => ?_) (fun c_16 => ?_)
    · have hq := hq.2 c_16
      refine lv_iinc (v := (1 : Int32)) (lv' := [(2, .int (1 : Int32)), (0, .ref x), (1, va_rf a1)]) hx hb d_C_leastHandleOf_34 hl (k := 0) rfl (by decide) (by decide) (by cases a1 <;> rfl) (fun ls hl => ?_)
      refine lv_goto (tgt := 16) hx hb d_C_leastHandleOf_37 (by decide) ?_
      refine lv_iload_n hx hb d_C_leastHandleOf_16 rfl (lv_at hl 0 rfl) ?_
      refine lv_bipush (v := (8 : Int32)) hx hb d_C_leastHandleOf_17 (by decide) ?_
      refine lv_icmp_ge (tgt := 40) hx hb d_C_leastHandleOf_19 (by decide) (fun c_ => absurd c_ (by decide)) (fun _ => ?_)
      refine lv_aload_n hx hb d_C_leastHandleOf_22 rfl (lv_at hl 1 rfl) ?_
      refine kg_handles X hC d_C_leastHandleOf_23 ?_
      refine lv_iload_n hx hb d_C_leastHandleOf_26 rfl (lv_at hl 0 rfl) ?_
      refine kg_h X hC (by unfold vp_in; decide) d_C_leastHandleOf_27 (fun r27_2 e_r27_2 => ?_)
      have hq := hq r27_2 e_r27_2
      refine kr_aload_n (r := a1) hx hb d_C_leastHandleOf_28 rfl (lv_at hl 2 rfl) ?_
      refine lv_acmp_ne (rx := r27_2) (ry := a1) (tgt := 34) hx hb d_C_leastHandleOf_29 (by decide) (fun c_15 => ?_) (fun c_15 => ?_)
      · have hq := hq.2 c_15
        refine lv_iinc (v := (2 : Int32)) (lv' := [(2, .int (2 : Int32)), (0, .ref x), (1, va_rf a1)]) hx hb d_C_leastHandleOf_34 hl (k := 0) rfl (by decide) (by decide) (by cases a1 <;> rfl) (fun ls hl => ?_)
        refine lv_goto (tgt := 16) hx hb d_C_leastHandleOf_37 (by decide) ?_
        refine lv_iload_n hx hb d_C_leastHandleOf_16 rfl (lv_at hl 0 rfl) ?_
        refine lv_bipush (v := (8 : Int32)) hx hb d_C_leastHandleOf_17 (by decide) ?_
        refine lv_icmp_ge (tgt := 40) hx hb d_C_leastHandleOf_19 (by decide) (fun c_ => absurd c_ (by decide)) (fun _ => ?_)
        refine lv_aload_n hx hb d_C_leastHandleOf_22 rfl (lv_at hl 1 rfl) ?_
        refine kg_handles X hC d_C_leastHandleOf_23 ?_
        refine lv_iload_n hx hb d_C_leastHandleOf_26 rfl (lv_at hl 0 rfl) ?_
        refine kg_h X hC (by unfold vp_in; decide) d_C_leastHandleOf_27 (fun r27_3 e_r27_3 => ?_)
        have hq := hq r27_3 e_r27_3
        refine kr_aload_n (r := a1) hx hb d_C_leastHandleOf_28 rfl (lv_at hl 2 rfl) ?_
        refine lv_acmp_ne (rx := r27_3) (ry := a1) (tgt := 34) hx hb d_C_leastHandleOf_29 (by decide) (fun c_14 => ?_) (fun c_14 => ?_)
        · have hq := hq.2 c_14
          refine lv_iinc (v := (3 : Int32)) (lv' := [(2, .int (3 : Int32)), (0, .ref x), (1, va_rf a1)]) hx hb d_C_leastHandleOf_34 hl (k := 0) rfl (by decide) (by decide) (by cases a1 <;> rfl) (fun ls hl => ?_)
          refine lv_goto (tgt := 16) hx hb d_C_leastHandleOf_37 (by decide) ?_
          refine lv_iload_n hx hb d_C_leastHandleOf_16 rfl (lv_at hl 0 rfl) ?_
          refine lv_bipush (v := (8 : Int32)) hx hb d_C_leastHandleOf_17 (by decide) ?_
          refine lv_icmp_ge (tgt := 40) hx hb d_C_leastHandleOf_19 (by decide) (fun c_ => absurd c_ (by decide)) (fun _ => ?_)
          refine lv_aload_n hx hb d_C_leastHandleOf_22 rfl (lv_at hl 1 rfl) ?_
          refine kg_handles X hC d_C_leastHandleOf_23 ?_
          refine lv_iload_n hx hb d_C_leastHandleOf_26 rfl (lv_at hl 0 rfl) ?_
          refine kg_h X hC (by unfold vp_in; decide) d_C_leastHandleOf_27 (fun r27_4 e_r27_4 => ?_)
          have hq := hq r27_4 e_r27_4
          refine kr_aload_n (r := a1) hx hb d_C_leastHandleOf_28 rfl (lv_at hl 2 rfl) ?_
          refine lv_acmp_ne (rx := r27_4) (ry := a1) (tgt := 34) hx hb d_C_leastHandleOf_29 (by decide) (fun c_13 => ?_) (fun c_13 => ?_)
          · have hq := hq.2 c_13
            refine lv_iinc (v := (4 : Int32)) (lv' := [(2, .int (4 : Int32)), (0, .ref x), (1, va_rf a1)]) hx hb d_C_leastHandleOf_34 hl (k := 0) rfl (by decide) (by decide) (by cases a1 <;> rfl) (fun ls hl => ?_)
            refine lv_goto (tgt := 16) hx hb d_C_leastHandleOf_37 (by decide) ?_
            refine lv_iload_n hx hb d_C_leastHandleOf_16 rfl (lv_at hl 0 rfl) ?_
            refine lv_bipush (v := (8 : Int32)) hx hb d_C_leastHandleOf_17 (by decide) ?_
            refine lv_icmp_ge (tgt := 40) hx hb d_C_leastHandleOf_19 (by decide) (fun c_ => absurd c_ (by decide)) (fun _ => ?_)
            refine lv_aload_n hx hb d_C_leastHandleOf_22 rfl (lv_at hl 1 rfl) ?_
            refine kg_handles X hC d_C_leastHandleOf_23 ?_
            refine lv_iload_n hx hb d_C_leastHandleOf_26 rfl (lv_at hl 0 rfl) ?_
            refine kg_h X hC (by unfold vp_in; decide) d_C_leastHandleOf_27 (fun r27_5 e_r27_5 => ?_)
            have hq := hq r27_5 e_r27_5
            refine kr_aload_n (r := a1) hx hb d_C_leastHandleOf_28 rfl (lv_at hl 2 rfl) ?_
            refine lv_acmp_ne (rx := r27_5) (ry := a1) (tgt := 34) hx hb d_C_leastHandleOf_29 (by decide) (fun c_12 => ?_) (fun c_12 => ?_)
            · have hq := hq.2 c_12
              refine lv_iinc (v := (5 : Int32)) (lv' := [(2, .int (5 : Int32)), (0, .ref x), (1, va_rf a1)]) hx hb d_C_leastHandleOf_34 hl (k := 0) rfl (by decide) (by decide) (by cases a1 <;> rfl) (fun ls hl => ?_)
              refine lv_goto (tgt := 16) hx hb d_C_leastHandleOf_37 (by decide) ?_
              refine lv_iload_n hx hb d_C_leastHandleOf_16 rfl (lv_at hl 0 rfl) ?_
              refine lv_bipush (v := (8 : Int32)) hx hb d_C_leastHandleOf_17 (by decide) ?_
              refine lv_icmp_ge (tgt := 40) hx hb d_C_leastHandleOf_19 (by decide) (fun c_ => absurd c_ (by decide)) (fun _ => ?_)
              refine lv_aload_n hx hb d_C_leastHandleOf_22 rfl (lv_at hl 1 rfl) ?_
              refine kg_handles X hC d_C_leastHandleOf_23 ?_
              refine lv_iload_n hx hb d_C_leastHandleOf_26 rfl (lv_at hl 0 rfl) ?_
              refine kg_h X hC (by unfold vp_in; decide) d_C_leastHandleOf_27 (fun r27_6 e_r27_6 => ?_)
              have hq := hq r27_6 e_r27_6
              refine kr_aload_n (r := a1) hx hb d_C_leastHandleOf_28 rfl (lv_at hl 2 rfl) ?_
              refine lv_acmp_ne (rx := r27_6) (ry := a1) (tgt := 34) hx hb d_C_leastHandleOf_29 (by decide) (fun c_11 => ?_) (fun c_11 => ?_)
              · have hq := hq.2 c_11
                refine lv_iinc (v := (6 : Int32)) (lv' := [(2, .int (6 : Int32)), (0, .ref x), (1, va_rf a1)]) hx hb d_C_leastHandleOf_34 hl (k := 0) rfl (by decide) (by decide) (by cases a1 <;> rfl) (fun ls hl => ?_)
                refine lv_goto (tgt := 16) hx hb d_C_leastHandleOf_37 (by decide) ?_
                refine lv_iload_n hx hb d_C_leastHandleOf_16 rfl (lv_at hl 0 rfl) ?_
                refine lv_bipush (v := (8 : Int32)) hx hb d_C_leastHandleOf_17 (by decide) ?_
                refine lv_icmp_ge (tgt := 40) hx hb d_C_leastHandleOf_19 (by decide) (fun c_ => absurd c_ (by decide)) (fun _ => ?_)
                refine lv_aload_n hx hb d_C_leastHandleOf_22 rfl (lv_at hl 1 rfl) ?_
                refine kg_handles X hC d_C_leastHandleOf_23 ?_
                refine lv_iload_n hx hb d_C_leastHandleOf_26 rfl (lv_at hl 0 rfl) ?_
                refine kg_h X hC (by unfold vp_in; decide) d_C_leastHandleOf_27 (fun r27_7 e_r27_7 => ?_)
                have hq := hq r27_7 e_r27_7
                refine kr_aload_n (r := a1) hx hb d_C_leastHandleOf_28 rfl (lv_at hl 2 rfl) ?_
                refine lv_acmp_ne (rx := r27_7) (ry := a1) (tgt := 34) hx hb d_C_leastHandleOf_29 (by decide) (fun c_10 => ?_) (fun c_10 => ?_)
                · have hq := hq.2 c_10
                  refine lv_iinc (v := (7 : Int32)) (lv' := [(2, .int (7 : Int32)), (0, .ref x), (1, va_rf a1)]) hx hb d_C_leastHandleOf_34 hl (k := 0) rfl (by decide) (by decide) (by cases a1 <;> rfl) (fun ls hl => ?_)
                  refine lv_goto (tgt := 16) hx hb d_C_leastHandleOf_37 (by decide) ?_
                  refine lv_iload_n hx hb d_C_leastHandleOf_16 rfl (lv_at hl 0 rfl) ?_
                  refine lv_bipush (v := (8 : Int32)) hx hb d_C_leastHandleOf_17 (by decide) ?_
                  refine lv_icmp_ge (tgt := 40) hx hb d_C_leastHandleOf_19 (by decide) (fun c_ => absurd c_ (by decide)) (fun _ => ?_)
                  refine lv_aload_n hx hb d_C_leastHandleOf_22 rfl (lv_at hl 1 rfl) ?_
                  refine kg_handles X hC d_C_leastHandleOf_23 ?_
                  refine lv_iload_n hx hb d_C_leastHandleOf_26 rfl (lv_at hl 0 rfl) ?_
                  refine kg_h X hC (by unfold vp_in; decide) d_C_leastHandleOf_27 (fun r27_8 e_r27_8 => ?_)
                  have hq := hq r27_8 e_r27_8
                  refine kr_aload_n (r := a1) hx hb d_C_leastHandleOf_28 rfl (lv_at hl 2 rfl) ?_
                  refine lv_acmp_ne (rx := r27_8) (ry := a1) (tgt := 34) hx hb d_C_leastHandleOf_29 (by decide) (fun c_9 => ?_) (fun c_9 => ?_)
                  · have hq := hq.2 c_9
                    refine lv_iinc (v := (8 : Int32)) (lv' := [(2, .int (8 : Int32)), (0, .ref x), (1, va_rf a1)]) hx hb d_C_leastHandleOf_34 hl (k := 0) rfl (by decide) (by decide) (by cases a1 <;> rfl) (fun ls hl => ?_)
                    refine lv_goto (tgt := 16) hx hb d_C_leastHandleOf_37 (by decide) ?_
                    refine lv_iload_n hx hb d_C_leastHandleOf_16 rfl (lv_at hl 0 rfl) ?_
                    refine lv_bipush (v := (8 : Int32)) hx hb d_C_leastHandleOf_17 (by decide) ?_
                    refine lv_icmp_ge (tgt := 40) hx hb d_C_leastHandleOf_19 (by decide) (fun _ => ?_) (fun c_ => absurd (by decide) c_)
                    refine lv_bipush (v := (-2 : Int32)) hx hb d_C_leastHandleOf_40 (by decide) ?_
                    exact hE (-2 : Int32) () _ _ _ _ _ ls hq hC hS (Nat.le_of_ble_eq_true rfl) (Nat.le_of_ble_eq_true rfl) d_C_leastHandleOf_42
                  · have hq := hq.1 c_9
                    refine lv_iload_n hx hb d_C_leastHandleOf_32 rfl (lv_at hl 0 rfl) ?_
                    exact hE (7 : Int32) () _ _ _ _ _ ls hq hC hS (Nat.le_of_ble_eq_true rfl) (Nat.le_of_ble_eq_true rfl) d_C_leastHandleOf_33
                · have hq := hq.1 c_10
                  refine lv_iload_n hx hb d_C_leastHandleOf_32 rfl (lv_at hl 0 rfl) ?_
                  exact hE (6 : Int32) () _ _ _ _ _ ls hq hC hS (Nat.le_of_ble_eq_true rfl) (Nat.le_of_ble_eq_true rfl) d_C_leastHandleOf_33
              · have hq := hq.1 c_11
                refine lv_iload_n hx hb d_C_leastHandleOf_32 rfl (lv_at hl 0 rfl) ?_
                exact hE (5 : Int32) () _ _ _ _ _ ls hq hC hS (Nat.le_of_ble_eq_true rfl) (Nat.le_of_ble_eq_true rfl) d_C_leastHandleOf_33
            · have hq := hq.1 c_12
              refine lv_iload_n hx hb d_C_leastHandleOf_32 rfl (lv_at hl 0 rfl) ?_
              exact hE (4 : Int32) () _ _ _ _ _ ls hq hC hS (Nat.le_of_ble_eq_true rfl) (Nat.le_of_ble_eq_true rfl) d_C_leastHandleOf_33
          · have hq := hq.1 c_13
            refine lv_iload_n hx hb d_C_leastHandleOf_32 rfl (lv_at hl 0 rfl) ?_
            exact hE (3 : Int32) () _ _ _ _ _ ls hq hC hS (Nat.le_of_ble_eq_true rfl) (Nat.le_of_ble_eq_true rfl) d_C_leastHandleOf_33
        · have hq := hq.1 c_14
          refine lv_iload_n hx hb d_C_leastHandleOf_32 rfl (lv_at hl 0 rfl) ?_
          exact hE (2 : Int32) () _ _ _ _ _ ls hq hC hS (Nat.le_of_ble_eq_true rfl) (Nat.le_of_ble_eq_true rfl) d_C_leastHandleOf_33
      · have hq := hq.1 c_15
        refine lv_iload_n hx hb d_C_leastHandleOf_32 rfl (lv_at hl 0 rfl) ?_
        exact hE (1 : Int32) () _ _ _ _ _ ls hq hC hS (Nat.le_of_ble_eq_true rfl) (Nat.le_of_ble_eq_true rfl) d_C_leastHandleOf_33
    · have hq := hq.1 c_16
      refine lv_iload_n hx hb d_C_leastHandleOf_32 rfl (lv_at hl 0 rfl) ?_
      exact hE (0 : Int32) () _ _ _ _ _ ls hq hC hS (Nat.le_of_ble_eq_true rfl) (Nat.le_of_ble_eq_true rfl) d_C_leastHandleOf_33
  · have hq := hq.1 c_34
    refine kr_aload_n (r := a1) hx hb d_C_leastHandleOf_7 rfl (lv_at hl 1 rfl) ?_
    have hs_ := hq.1
    have hq := hq.2
    refine ki_inst_P (r := a1) X hC hs_ d_C_leastHandleOf_8 ?_
    refine lv_if_eq (tgt := 40) hx hb d_C_leastHandleOf_11 (by decide) (fun c_33 => ?_) (fun c_33 => ?_)
    · have hq := hq.1 c_33
      refine lv_bipush (v := (-2 : Int32)) hx hb d_C_leastHandleOf_40 (by decide) ?_
      exact hE (-2 : Int32) () _ _ _ _ _ ls hq hC hS (Nat.le_of_ble_eq_true rfl) (Nat.le_of_ble_eq_true rfl) d_C_leastHandleOf_42
    · have hq := hq.2 c_33
      refine lv_iconst (v := (0 : Int32)) hx hb d_C_leastHandleOf_14 (by decide) ?_
      refine lv_istore_n (lv' := [(2, .int (0 : Int32)), (0, .ref x), (1, va_rf a1)]) hx hb d_C_leastHandleOf_15 rfl hl (by decide) (by cases a1 <;> rfl) (fun ls hl => ?_)
      refine lv_iload_n hx hb d_C_leastHandleOf_16 rfl (lv_at hl 0 rfl) ?_
      refine lv_bipush (v := (8 : Int32)) hx hb d_C_leastHandleOf_17 (by decide) ?_
      refine lv_icmp_ge (tgt := 40) hx hb d_C_leastHandleOf_19 (by decide) (fun c_ => absurd c_ (by decide)) (fun _ => ?_)
      refine lv_aload_n hx hb d_C_leastHandleOf_22 rfl (lv_at hl 1 rfl) ?_
      refine kg_handles X hC d_C_leastHandleOf_23 ?_
      refine lv_iload_n hx hb d_C_leastHandleOf_26 rfl (lv_at hl 0 rfl) ?_
      refine kg_h X hC (by unfold vp_in; decide) d_C_leastHandleOf_27 (fun r27_17 e_r27_17 => ?_)
      have hq := hq r27_17 e_r27_17
      refine kr_aload_n (r := a1) hx hb d_C_leastHandleOf_28 rfl (lv_at hl 2 rfl) ?_
      refine lv_acmp_ne (rx := r27_17) (ry := a1) (tgt := 34) hx hb d_C_leastHandleOf_29 (by decide) (fun c_32 => ?_) (fun c_32 => ?_)
      · have hq := hq.2 c_32
        refine lv_iinc (v := (1 : Int32)) (lv' := [(2, .int (1 : Int32)), (0, .ref x), (1, va_rf a1)]) hx hb d_C_leastHandleOf_34 hl (k := 0) rfl (by decide) (by decide) (by cases a1 <;> rfl) (fun ls hl => ?_)
        refine lv_goto (tgt := 16) hx hb d_C_leastHandleOf_37 (by decide) ?_
        refine lv_iload_n hx hb d_C_leastHandleOf_16 rfl (lv_at hl 0 rfl) ?_
        refine lv_bipush (v := (8 : Int32)) hx hb d_C_leastHandleOf_17 (by decide) ?_
        refine lv_icmp_ge (tgt := 40) hx hb d_C_leastHandleOf_19 (by decide) (fun c_ => absurd c_ (by decide)) (fun _ => ?_)
        refine lv_aload_n hx hb d_C_leastHandleOf_22 rfl (lv_at hl 1 rfl) ?_
        refine kg_handles X hC d_C_leastHandleOf_23 ?_
        refine lv_iload_n hx hb d_C_leastHandleOf_26 rfl (lv_at hl 0 rfl) ?_
        refine kg_h X hC (by unfold vp_in; decide) d_C_leastHandleOf_27 (fun r27_18 e_r27_18 => ?_)
        have hq := hq r27_18 e_r27_18
        refine kr_aload_n (r := a1) hx hb d_C_leastHandleOf_28 rfl (lv_at hl 2 rfl) ?_
        refine lv_acmp_ne (rx := r27_18) (ry := a1) (tgt := 34) hx hb d_C_leastHandleOf_29 (by decide) (fun c_31 => ?_) (fun c_31 => ?_)
        · have hq := hq.2 c_31
          refine lv_iinc (v := (2 : Int32)) (lv' := [(2, .int (2 : Int32)), (0, .ref x), (1, va_rf a1)]) hx hb d_C_leastHandleOf_34 hl (k := 0) rfl (by decide) (by decide) (by cases a1 <;> rfl) (fun ls hl => ?_)
          refine lv_goto (tgt := 16) hx hb d_C_leastHandleOf_37 (by decide) ?_
          refine lv_iload_n hx hb d_C_leastHandleOf_16 rfl (lv_at hl 0 rfl) ?_
          refine lv_bipush (v := (8 : Int32)) hx hb d_C_leastHandleOf_17 (by decide) ?_
          refine lv_icmp_ge (tgt := 40) hx hb d_C_leastHandleOf_19 (by decide) (fun c_ => absurd c_ (by decide)) (fun _ => ?_)
          refine lv_aload_n hx hb d_C_leastHandleOf_22 rfl (lv_at hl 1 rfl) ?_
          refine kg_handles X hC d_C_leastHandleOf_23 ?_
          refine lv_iload_n hx hb d_C_leastHandleOf_26 rfl (lv_at hl 0 rfl) ?_
          refine kg_h X hC (by unfold vp_in; decide) d_C_leastHandleOf_27 (fun r27_19 e_r27_19 => ?_)
          have hq := hq r27_19 e_r27_19
          refine kr_aload_n (r := a1) hx hb d_C_leastHandleOf_28 rfl (lv_at hl 2 rfl) ?_
          refine lv_acmp_ne (rx := r27_19) (ry := a1) (tgt := 34) hx hb d_C_leastHandleOf_29 (by decide) (fun c_30 => ?_) (fun c_30 => ?_)
          · have hq := hq.2 c_30
            refine lv_iinc (v := (3 : Int32)) (lv' := [(2, .int (3 : Int32)), (0, .ref x), (1, va_rf a1)]) hx hb d_C_leastHandleOf_34 hl (k := 0) rfl (by decide) (by decide) (by cases a1 <;> rfl) (fun ls hl => ?_)
            refine lv_goto (tgt := 16) hx hb d_C_leastHandleOf_37 (by decide) ?_
            refine lv_iload_n hx hb d_C_leastHandleOf_16 rfl (lv_at hl 0 rfl) ?_
            refine lv_bipush (v := (8 : Int32)) hx hb d_C_leastHandleOf_17 (by decide) ?_
            refine lv_icmp_ge (tgt := 40) hx hb d_C_leastHandleOf_19 (by decide) (fun c_ => absurd c_ (by decide)) (fun _ => ?_)
            refine lv_aload_n hx hb d_C_leastHandleOf_22 rfl (lv_at hl 1 rfl) ?_
            refine kg_handles X hC d_C_leastHandleOf_23 ?_
            refine lv_iload_n hx hb d_C_leastHandleOf_26 rfl (lv_at hl 0 rfl) ?_
            refine kg_h X hC (by unfold vp_in; decide) d_C_leastHandleOf_27 (fun r27_20 e_r27_20 => ?_)
            have hq := hq r27_20 e_r27_20
            refine kr_aload_n (r := a1) hx hb d_C_leastHandleOf_28 rfl (lv_at hl 2 rfl) ?_
            refine lv_acmp_ne (rx := r27_20) (ry := a1) (tgt := 34) hx hb d_C_leastHandleOf_29 (by decide) (fun c_29 => ?_) (fun c_29 => ?_)
            · have hq := hq.2 c_29
              refine lv_iinc (v := (4 : Int32)) (lv' := [(2, .int (4 : Int32)), (0, .ref x), (1, va_rf a1)]) hx hb d_C_leastHandleOf_34 hl (k := 0) rfl (by decide) (by decide) (by cases a1 <;> rfl) (fun ls hl => ?_)
              refine lv_goto (tgt := 16) hx hb d_C_leastHandleOf_37 (by decide) ?_
              refine lv_iload_n hx hb d_C_leastHandleOf_16 rfl (lv_at hl 0 rfl) ?_
              refine lv_bipush (v := (8 : Int32)) hx hb d_C_leastHandleOf_17 (by decide) ?_
              refine lv_icmp_ge (tgt := 40) hx hb d_C_leastHandleOf_19 (by decide) (fun c_ => absurd c_ (by decide)) (fun _ => ?_)
              refine lv_aload_n hx hb d_C_leastHandleOf_22 rfl (lv_at hl 1 rfl) ?_
              refine kg_handles X hC d_C_leastHandleOf_23 ?_
              refine lv_iload_n hx hb d_C_leastHandleOf_26 rfl (lv_at hl 0 rfl) ?_
              refine kg_h X hC (by unfold vp_in; decide) d_C_leastHandleOf_27 (fun r27_21 e_r27_21 => ?_)
              have hq := hq r27_21 e_r27_21
              refine kr_aload_n (r := a1) hx hb d_C_leastHandleOf_28 rfl (lv_at hl 2 rfl) ?_
              refine lv_acmp_ne (rx := r27_21) (ry := a1) (tgt := 34) hx hb d_C_leastHandleOf_29 (by decide) (fun c_28 => ?_) (fun c_28 => ?_)
              · have hq := hq.2 c_28
                refine lv_iinc (v := (5 : Int32)) (lv' := [(2, .int (5 : Int32)), (0, .ref x), (1, va_rf a1)]) hx hb d_C_leastHandleOf_34 hl (k := 0) rfl (by decide) (by decide) (by cases a1 <;> rfl) (fun ls hl => ?_)
                refine lv_goto (tgt := 16) hx hb d_C_leastHandleOf_37 (by decide) ?_
                refine lv_iload_n hx hb d_C_leastHandleOf_16 rfl (lv_at hl 0 rfl) ?_
                refine lv_bipush (v := (8 : Int32)) hx hb d_C_leastHandleOf_17 (by decide) ?_
                refine lv_icmp_ge (tgt := 40) hx hb d_C_leastHandleOf_19 (by decide) (fun c_ => absurd c_ (by decide)) (fun _ => ?_)
                refine lv_aload_n hx hb d_C_leastHandleOf_22 rfl (lv_at hl 1 rfl) ?_
                refine kg_handles X hC d_C_leastHandleOf_23 ?_
                refine lv_iload_n hx hb d_C_leastHandleOf_26 rfl (lv_at hl 0 rfl) ?_
                refine kg_h X hC (by unfold vp_in; decide) d_C_leastHandleOf_27 (fun r27_22 e_r27_22 => ?_)
                have hq := hq r27_22 e_r27_22
                refine kr_aload_n (r := a1) hx hb d_C_leastHandleOf_28 rfl (lv_at hl 2 rfl) ?_
                refine lv_acmp_ne (rx := r27_22) (ry := a1) (tgt := 34) hx hb d_C_leastHandleOf_29 (by decide) (fun c_27 => ?_) (fun c_27 => ?_)
                · have hq := hq.2 c_27
                  refine lv_iinc (v := (6 : Int32)) (lv' := [(2, .int (6 : Int32)), (0, .ref x), (1, va_rf a1)]) hx hb d_C_leastHandleOf_34 hl (k := 0) rfl (by decide) (by decide) (by cases a1 <;> rfl) (fun ls hl => ?_)
                  refine lv_goto (tgt := 16) hx hb d_C_leastHandleOf_37 (by decide) ?_
                  refine lv_iload_n hx hb d_C_leastHandleOf_16 rfl (lv_at hl 0 rfl) ?_
                  refine lv_bipush (v := (8 : Int32)) hx hb d_C_leastHandleOf_17 (by decide) ?_
                  refine lv_icmp_ge (tgt := 40) hx hb d_C_leastHandleOf_19 (by decide) (fun c_ => absurd c_ (by decide)) (fun _ => ?_)
                  refine lv_aload_n hx hb d_C_leastHandleOf_22 rfl (lv_at hl 1 rfl) ?_
                  refine kg_handles X hC d_C_leastHandleOf_23 ?_
                  refine lv_iload_n hx hb d_C_leastHandleOf_26 rfl (lv_at hl 0 rfl) ?_
                  refine kg_h X hC (by unfold vp_in; decide) d_C_leastHandleOf_27 (fun r27_23 e_r27_23 => ?_)
                  have hq := hq r27_23 e_r27_23
                  refine kr_aload_n (r := a1) hx hb d_C_leastHandleOf_28 rfl (lv_at hl 2 rfl) ?_
                  refine lv_acmp_ne (rx := r27_23) (ry := a1) (tgt := 34) hx hb d_C_leastHandleOf_29 (by decide) (fun c_26 => ?_) (fun c_26 => ?_)
                  · have hq := hq.2 c_26
                    refine lv_iinc (v := (7 : Int32)) (lv' := [(2, .int (7 : Int32)), (0, .ref x), (1, va_rf a1)]) hx hb d_C_leastHandleOf_34 hl (k := 0) rfl (by decide) (by decide) (by cases a1 <;> rfl) (fun ls hl => ?_)
                    refine lv_goto (tgt := 16) hx hb d_C_leastHandleOf_37 (by decide) ?_
                    refine lv_iload_n hx hb d_C_leastHandleOf_16 rfl (lv_at hl 0 rfl) ?_
                    refine lv_bipush (v := (8 : Int32)) hx hb d_C_leastHandleOf_17 (by decide) ?_
                    refine lv_icmp_ge (tgt := 40) hx hb d_C_leastHandleOf_19 (by decide) (fun c_ => absurd c_ (by decide)) (fun _ => ?_)
                    refine lv_aload_n hx hb d_C_leastHandleOf_22 rfl (lv_at hl 1 rfl) ?_
                    refine kg_handles X hC d_C_leastHandleOf_23 ?_
                    refine lv_iload_n hx hb d_C_leastHandleOf_26 rfl (lv_at hl 0 rfl) ?_
                    refine kg_h X hC (by unfold vp_in; decide) d_C_leastHandleOf_27 (fun r27_24 e_r27_24 => ?_)
                    have hq := hq r27_24 e_r27_24
                    refine kr_aload_n (r := a1) hx hb d_C_leastHandleOf_28 rfl (lv_at hl 2 rfl) ?_
                    refine lv_acmp_ne (rx := r27_24) (ry := a1) (tgt := 34) hx hb d_C_leastHandleOf_29 (by decide) (fun c_25 => ?_) (fun c_25 => ?_)
                    · have hq := hq.2 c_25
                      refine lv_iinc (v := (8 : Int32)) (lv' := [(2, .int (8 : Int32)), (0, .ref x), (1, va_rf a1)]) hx hb d_C_leastHandleOf_34 hl (k := 0) rfl (by decide) (by decide) (by cases a1 <;> rfl) (fun ls hl => ?_)
                      refine lv_goto (tgt := 16) hx hb d_C_leastHandleOf_37 (by decide) ?_
                      refine lv_iload_n hx hb d_C_leastHandleOf_16 rfl (lv_at hl 0 rfl) ?_
                      refine lv_bipush (v := (8 : Int32)) hx hb d_C_leastHandleOf_17 (by decide) ?_
                      refine lv_icmp_ge (tgt := 40) hx hb d_C_leastHandleOf_19 (by decide) (fun _ => ?_) (fun c_ => absurd (by decide) c_)
                      refine lv_bipush (v := (-2 : Int32)) hx hb d_C_leastHandleOf_40 (by decide) ?_
                      exact hE (-2 : Int32) () _ _ _ _ _ ls hq hC hS (Nat.le_of_ble_eq_true rfl) (Nat.le_of_ble_eq_true rfl) d_C_leastHandleOf_42
                    · have hq := hq.1 c_25
                      refine lv_iload_n hx hb d_C_leastHandleOf_32 rfl (lv_at hl 0 rfl) ?_
                      exact hE (7 : Int32) () _ _ _ _ _ ls hq hC hS (Nat.le_of_ble_eq_true rfl) (Nat.le_of_ble_eq_true rfl) d_C_leastHandleOf_33
                  · have hq := hq.1 c_26
                    refine lv_iload_n hx hb d_C_leastHandleOf_32 rfl (lv_at hl 0 rfl) ?_
                    exact hE (6 : Int32) () _ _ _ _ _ ls hq hC hS (Nat.le_of_ble_eq_true rfl) (Nat.le_of_ble_eq_true rfl) d_C_leastHandleOf_33
                · have hq := hq.1 c_27
                  refine lv_iload_n hx hb d_C_leastHandleOf_32 rfl (lv_at hl 0 rfl) ?_
                  exact hE (5 : Int32) () _ _ _ _ _ ls hq hC hS (Nat.le_of_ble_eq_true rfl) (Nat.le_of_ble_eq_true rfl) d_C_leastHandleOf_33
              · have hq := hq.1 c_28
                refine lv_iload_n hx hb d_C_leastHandleOf_32 rfl (lv_at hl 0 rfl) ?_
                exact hE (4 : Int32) () _ _ _ _ _ ls hq hC hS (Nat.le_of_ble_eq_true rfl) (Nat.le_of_ble_eq_true rfl) d_C_leastHandleOf_33
            · have hq := hq.1 c_29
              refine lv_iload_n hx hb d_C_leastHandleOf_32 rfl (lv_at hl 0 rfl) ?_
              exact hE (3 : Int32) () _ _ _ _ _ ls hq hC hS (Nat.le_of_ble_eq_true rfl) (Nat.le_of_ble_eq_true rfl) d_C_leastHandleOf_33
          · have hq := hq.1 c_30
            refine lv_iload_n hx hb d_C_leastHandleOf_32 rfl (lv_at hl 0 rfl) ?_
            exact hE (2 : Int32) () _ _ _ _ _ ls hq hC hS (Nat.le_of_ble_eq_true rfl) (Nat.le_of_ble_eq_true rfl) d_C_leastHandleOf_33
        · have hq := hq.1 c_31
          refine lv_iload_n hx hb d_C_leastHandleOf_32 rfl (lv_at hl 0 rfl) ?_
          exact hE (1 : Int32) () _ _ _ _ _ ls hq hC hS (Nat.le_of_ble_eq_true rfl) (Nat.le_of_ble_eq_true rfl) d_C_leastHandleOf_33
      · have hq := hq.1 c_32
        refine lv_iload_n hx hb d_C_leastHandleOf_32 rfl (lv_at hl 0 rfl) ?_
        exact hE (0 : Int32) () _ _ _ _ _ ls hq hC hS (Nat.le_of_ble_eq_true rfl) (Nat.le_of_ble_eq_true rfl) d_C_leastHandleOf_33
def w_C_look (K : KT) (a1 : Int32) (a2 : Int32) (post : Int32 → Prop) : Prop := w_C_isBelow a1 (9 : Int32) (fun r3_1 => ((r3_1 = (0 : Int32)) → (post (-1 : Int32))) ∧ (¬ (r3_1 = (0 : Int32)) → (((a2 = (0 : Int32)) → ((vp_in a1 9) ∧ (∀ r33_2 : Option Nat, r33_2 = (kH K (a1).toNatClampNeg) → (w_C_sortOf K r33_2 (fun r34_3 => post r34_3))))) ∧ (¬ (a2 = (0 : Int32)) → ((vp_in a1 9) ∧ (∀ r21_4 : Option Nat, r21_4 = (kH K (a1).toNatClampNeg) → (w_C_leastHandleOf K r21_4 (fun r22_5 => post r22_5))))))))
set_option maxHeartbeats 8000000 in
set_option maxRecDepth 100000 in
theorem c_C_look (l : Launch) (D : va_G) (A : Nat → Prop) (cA : ClassId) (x hs : Nat) (K : KT) (a1 : Int32) (a2 : Int32) (post : Int32 → Prop) (hq : w_C_look K a1 a2 post) : Met l y_C_look (kw y_C_look b_C_look 3 (Option.some Jvm.ClassFile.FieldType.int)) ({ frames := 2, cells := 0, slots := 0, locals := 40 }) (kP D (tysC cA) A [.ref x, .int a1, .int a2] (CW D A x hs cA K)) (va_Qi (fun r (_ : Unit) => post r) (fun _ t => CW D A x hs cA K t.heap) A) 0 0 A := by
  refine kmet_i (BB := (fun (_ : Unit) H => CW D A x hs cA K H)) (lv := [(0, .ref x), (1, .int a1), (2, .int a2)]) (by decide +kernel) rfl (Nat.le_of_ble_eq_true rfl) ?_
  intro p e s m args below meth c Q ls X hin hC hl hE
  have hx := X.x
  have hb := X.b
  have hS : va_S A s.heap s.heap [] := va_S.rf
  unfold w_C_look at hq
  refine lv_iload_n hx hb d_C_look_0 rfl (lv_at hl 1 rfl) ?_
  refine lv_bipush (v := (9 : Int32)) hx hb d_C_look_1 (by decide) ?_
  refine kci (BB := fun (_ : Unit) H => CW D A x hs cA K H) (krS X hl.1 hS hC (c_C_isBelow l D (tysC cA) A _ a1 (9 : Int32) _ hq) ki_C_isBelow wd_35 wd_36 ⟨rfl, rfl, Nat.le_of_ble_eq_true rfl, Nat.le_of_ble_eq_true rfl⟩ rfl rfl (Nat.le_of_ble_eq_true rfl) d_C_look_3 ⟨Nat.le_of_ble_eq_true rfl, Nat.le_of_ble_eq_true rfl⟩) hS (fun r3_1 _u H locs hq hC hS => ?_)
  refine lv_if_ne (tgt := 11) hx hb d_C_look_6 (by decide) (fun c_7 => ?_) (fun c_7 => ?_)
  · have hq := hq.2 c_7
    refine lv_iload_n hx hb d_C_look_11 rfl (lv_at hl 2 rfl) ?_
    refine lv_if_eq (tgt := 28) hx hb d_C_look_12 (by decide) (fun c_6 => ?_) (fun c_6 => ?_)
    · have hq := hq.1 c_6
      refine lv_aload_n hx hb d_C_look_28 rfl (lv_at hl 0 rfl) ?_
      refine kg_handles X hC d_C_look_29 ?_
      refine lv_iload_n hx hb d_C_look_32 rfl (lv_at hl 1 rfl) ?_
      have hs_ := hq.1
      have hq := hq.2
      refine kg_h X hC hs_ d_C_look_33 (fun r33_2 e_r33_2 => ?_)
      have hq := hq r33_2 e_r33_2
      refine kci (BB := fun (_ : Unit) H => CW D A x hs cA K H) (krS X hl.1 hS hC (c_C_sortOf l D A cA x hs K r33_2 _ hq) ki_C_sortOf wd_255 wd_256 ⟨rfl, rfl, Nat.le_of_ble_eq_true rfl, Nat.le_of_ble_eq_true rfl⟩ rfl rfl (Nat.le_of_ble_eq_true rfl) d_C_look_34 ⟨Nat.le_of_ble_eq_true rfl, Nat.le_of_ble_eq_true rfl⟩) hS (fun r34_3 _u H locs hq hC hS => ?_)
      exact hE r34_3 () _ _ _ _ _ ls hq hC hS (Nat.le_of_ble_eq_true rfl) (Nat.le_of_ble_eq_true rfl) d_C_look_37
    · have hq := hq.2 c_6
      refine lv_aload_n hx hb d_C_look_15 rfl (lv_at hl 0 rfl) ?_
      refine lv_aload_n hx hb d_C_look_16 rfl (lv_at hl 0 rfl) ?_
      refine kg_handles X hC d_C_look_17 ?_
      refine lv_iload_n hx hb d_C_look_20 rfl (lv_at hl 1 rfl) ?_
      have hs_ := hq.1
      have hq := hq.2
      refine kg_h X hC hs_ d_C_look_21 (fun r21_4 e_r21_4 => ?_)
      have hq := hq r21_4 e_r21_4
      refine kci (BB := fun (_ : Unit) H => CW D A x hs cA K H) (krV (b := x) X hl.1 hS hC (c_C_leastHandleOf l D A cA x hs K r21_4 _ hq) ki_C_leastHandleOf wd_333 wd_335 ws_C_leastHandleOf (krecX X hC) ⟨rfl, rfl, Nat.le_of_ble_eq_true rfl, Nat.le_of_ble_eq_true rfl⟩ rfl rfl (Nat.le_of_ble_eq_true rfl) d_C_look_22 ⟨Nat.le_of_ble_eq_true rfl, Nat.le_of_ble_eq_true rfl⟩) hS (fun r22_5 _u H locs hq hC hS => ?_)
      refine lv_goto (tgt := 37) hx hb d_C_look_25 (by decide) ?_
      exact hE r22_5 () _ _ _ _ _ ls hq hC hS (Nat.le_of_ble_eq_true rfl) (Nat.le_of_ble_eq_true rfl) d_C_look_37
  · have hq := hq.1 c_7
    refine lv_iconst (v := (-1 : Int32)) hx hb d_C_look_9 (by decide) ?_
    exact hE (-1 : Int32) () _ _ _ _ _ ls hq hC hS (Nat.le_of_ble_eq_true rfl) (Nat.le_of_ble_eq_true rfl) d_C_look_10
def w_B_told (K : KT) (b : Nat) (post : Int64 → Prop) : Prop := (isT K (some b) 0) ∧ (w_v_toldAs K (some b) (oI (kob K (some b))) (fun r5_1 => post r5_1))
set_option maxHeartbeats 8000000 in
set_option maxRecDepth 100000 in
theorem c_B_told (l : Launch) (D : va_G) (A : Nat → Prop) (cA : ClassId) (x hs : Nat) (K : KT) (b : Nat) (post : Int64 → Prop) (hq : w_B_told K b post) : Met l y_B_told (kw y_B_told b_B_told 1 (Option.some Jvm.ClassFile.FieldType.long)) ({ frames := 1, cells := 0, slots := 0, locals := 21 }) (kP D (tysC cA) A [va_rf (some b)] (CW D A x hs cA K)) (va_Ql (fun r (_ : Unit) => post r) (fun _ t => CW D A x hs cA K t.heap) A) 0 0 A := by
  refine kmet_l (BB := (fun (_ : Unit) H => CW D A x hs cA K H)) (lv := [(0, va_rf (some b))]) (by decide +kernel) rfl (Nat.le_of_ble_eq_true rfl) ?_
  intro p e s m args below meth c Q ls X hin hC hl hE
  have hx := X.x
  have hb := X.b
  have hS : va_S A s.heap s.heap [] := va_S.rf
  unfold w_B_told at hq
  refine kr_aload_n (r := (some b)) hx hb d_B_told_0 rfl (lv_at hl 0 rfl) ?_
  refine kr_aload_n (r := (some b)) hx hb d_B_told_1 rfl (lv_at hl 0 rfl) ?_
  have hs_ := hq.1
  have hq := hq.2
  refine kg_kind_B9 (r := (some b)) X hC hs_ d_B_told_2 ?_
  refine kv_toldAs_B27 (r := (some b)) X hl.1 hS hC hq (Nat.le_of_ble_eq_true rfl) (Nat.le_of_ble_eq_true rfl) (Nat.le_of_ble_eq_true rfl) d_B_told_5 (Nat.le_of_ble_eq_true rfl) (Nat.le_of_ble_eq_true rfl) (fun r5_1 H locs hq hC hS => ?_)
  exact hE r5_1 () _ _ _ _ _ ls hq hC hS (Nat.le_of_ble_eq_true rfl) (Nat.le_of_ble_eq_true rfl) d_B_told_8
def w_H_told (K : KT) (b : Nat) (post : Int64 → Prop) : Prop := post (0 : Int64)
set_option maxHeartbeats 8000000 in
set_option maxRecDepth 100000 in
theorem c_H_told (l : Launch) (D : va_G) (A : Nat → Prop) (cA : ClassId) (x hs : Nat) (K : KT) (b : Nat) (post : Int64 → Prop) (hq : w_H_told K b post) : Met l y_H_told (kw y_H_told b_H_told 1 (Option.some Jvm.ClassFile.FieldType.long)) ({ frames := 0, cells := 0, slots := 0, locals := 0 }) (kP D (tysC cA) A [va_rf (some b)] (CW D A x hs cA K)) (va_Ql (fun r (_ : Unit) => post r) (fun _ t => CW D A x hs cA K t.heap) A) 0 0 A := by
  refine kmet_l (BB := (fun (_ : Unit) H => CW D A x hs cA K H)) (lv := [(0, va_rf (some b))]) (by decide +kernel) rfl (Nat.le_of_ble_eq_true rfl) ?_
  intro p e s m args below meth c Q ls X hin hC hl hE
  have hx := X.x
  have hb := X.b
  have hS : va_S A s.heap s.heap [] := va_S.rf
  unfold w_H_told at hq
  refine lv_lconst (v := (0 : Int64)) hx hb d_H_told_0 (by decide) ?_
  exact hE (0 : Int64) () _ _ _ _ _ ls hq hC hS (Nat.le_of_ble_eq_true rfl) (Nat.le_of_ble_eq_true rfl) d_H_told_1
def w_T_told (K : KT) (b : Nat) (post : Int64 → Prop) : Prop := (isT K (some b) 4) ∧ (post (oI (kob K (some b))).toInt64)
set_option maxHeartbeats 8000000 in
set_option maxRecDepth 100000 in
theorem c_T_told (l : Launch) (D : va_G) (A : Nat → Prop) (cA : ClassId) (x hs : Nat) (K : KT) (b : Nat) (post : Int64 → Prop) (hq : w_T_told K b post) : Met l y_T_told (kw y_T_told b_T_told 1 (Option.some Jvm.ClassFile.FieldType.long)) ({ frames := 0, cells := 0, slots := 0, locals := 0 }) (kP D (tysC cA) A [va_rf (some b)] (CW D A x hs cA K)) (va_Ql (fun r (_ : Unit) => post r) (fun _ t => CW D A x hs cA K t.heap) A) 0 0 A := by
  refine kmet_l (BB := (fun (_ : Unit) H => CW D A x hs cA K H)) (lv := [(0, va_rf (some b))]) (by decide +kernel) rfl (Nat.le_of_ble_eq_true rfl) ?_
  intro p e s m args below meth c Q ls X hin hC hl hE
  have hx := X.x
  have hb := X.b
  have hS : va_S A s.heap s.heap [] := va_S.rf
  unfold w_T_told at hq
  refine kr_aload_n (r := (some b)) hx hb d_T_told_0 rfl (lv_at hl 0 rfl) ?_
  have hs_ := hq.1
  have hq := hq.2
  refine kg_number_T9 (r := (some b)) X hC hs_ d_T_told_1 ?_
  refine lv_i2l hx hb d_T_told_4 rfl ?_
  exact hE (oI (kob K (some b))).toInt64 () _ _ _ _ _ ls hq hC hS (Nat.le_of_ble_eq_true rfl) (Nat.le_of_ble_eq_true rfl) d_T_told_5
def w_v_told (K : KT) (r : Option Nat)  (post : Int64 → Prop) : Prop := ∃ b : Nat, r = some b ∧ b ∈ kL K ∧ (((kO K b).1 = 0 ∧ w_B_told K b  post) ∨ ((kO K b).1 = 1 ∧ w_H_told K b  post) ∨ ((kO K b).1 = 2 ∧ w_H_told K b  post) ∨ ((kO K b).1 = 3 ∧ w_H_told K b  post) ∨ ((kO K b).1 = 4 ∧ w_T_told K b  post))
set_option maxHeartbeats 4000000 in
theorem kv_told_C133 {p : Program} {l : Launch} {e : Env} {R : Room} {s : State} {m : MethodId} {args : Array Value} {below : List Frame} {meth : Method} {c : Code} {H : Heap} {locs : List Loc} {cells slots : Nat} {Q : State → Prop} {cc : ByteArray} {pc : Nat} {ls : Array Slot} {rest : List Value} {D : va_G} {A : Nat → Prop} {nL : Nat} {x hs : Nat} {cA : ClassId} {K : KT} {r : Option Nat}  {post : Int64 → Prop} (X : KC "MemberInspection" cc nL D (tysC cA) A p s m args c) (hsz : ls.size = nL) (hS : va_S A s.heap H locs) (hC : CW D A x hs cA K H) (hq : w_v_told K r  post) (hF : 2 ≤ R.frames) (hL : 41 ≤ R.locals) (hw : (rest.map fun v => v.category).sum ≤ 8) (hdg : decode cc pc = .ok (.invokevirtual 133, 3)) (hf1 : cells + 0 ≤ R.cells) (hf2 : slots + 0 ≤ R.slots) (kk : ∀ (r2 : Int64) (H1 : Heap) (locs1 : List Loc), post r2 → CW D A x hs cA K H1 → va_S A s.heap H1 locs1 → W p l e R s m args below meth c H1 locs1 (cells + 0) (slots + 0) Q (F0 m (pc + 3) ls (.long r2 :: rest))) : W p l e R s m args below meth c H locs cells slots Q (F0 m pc ls (va_rf r :: rest)) := by
  obtain ⟨b, rfl, hb, hq⟩ := hq
  rcases hq with ⟨ht, hq⟩ | ⟨ht, hq⟩ | ⟨ht, hq⟩ | ⟨ht, hq⟩ | ⟨ht, hq⟩
  · exact kcl_ (BB := fun (_ : Unit) H => CW D A x hs cA K H) (krO (b := b) (As := []) (C := "MemberInspection$Box") (x := y_H_told) X hsz hS hC (c_B_told l D A cA x hs K b  _ hq) ki_B_told wd_342 wd_344 wd_343 wd_355 wd_345 wd_346 (by decide +kernel) (krec X hC hb ht rfl) ⟨rfl, rfl, Nat.le_trans (Nat.le_of_ble_eq_true rfl) hF, Nat.le_trans (Nat.le_of_ble_eq_true rfl) hL⟩ rfl rfl hw hdg ⟨Nat.le_trans (Nat.add_le_add_left (Nat.le_of_ble_eq_true rfl) _) hf1, Nat.le_trans (Nat.add_le_add_left (Nat.le_of_ble_eq_true rfl) _) hf2⟩) hS (fun r2 _u H1 locs1 hp hC1 hS1 => W.widen (Nat.add_le_add_left (Nat.le_of_ble_eq_true rfl) _) (Nat.add_le_add_left (Nat.le_of_ble_eq_true rfl) _) (kk r2 H1 locs1 hp hC1 hS1))
  · exact kcl_ (BB := fun (_ : Unit) H => CW D A x hs cA K H) (krJ (b := b) (As := []) (C := "MemberInspection$Item") X hsz hS hC (c_H_told l D A cA x hs K b  _ hq) ki_H_told wd_342 wd_344 wd_349 wd_343 (krec X hC hb ht rfl) ⟨rfl, rfl, Nat.le_trans (Nat.le_of_ble_eq_true rfl) hF, Nat.le_trans (Nat.le_of_ble_eq_true rfl) hL⟩ rfl rfl hw hdg ⟨Nat.le_trans (Nat.add_le_add_left (Nat.le_of_ble_eq_true rfl) _) hf1, Nat.le_trans (Nat.add_le_add_left (Nat.le_of_ble_eq_true rfl) _) hf2⟩) hS (fun r2 _u H1 locs1 hp hC1 hS1 => W.widen (Nat.add_le_add_left (Nat.le_of_ble_eq_true rfl) _) (Nat.add_le_add_left (Nat.le_of_ble_eq_true rfl) _) (kk r2 H1 locs1 hp hC1 hS1))
  · exact kcl_ (BB := fun (_ : Unit) H => CW D A x hs cA K H) (krJ (b := b) (As := []) (C := "MemberInspection$Plain") X hsz hS hC (c_H_told l D A cA x hs K b  _ hq) ki_H_told wd_342 wd_344 wd_350 wd_343 (krec X hC hb ht rfl) ⟨rfl, rfl, Nat.le_trans (Nat.le_of_ble_eq_true rfl) hF, Nat.le_trans (Nat.le_of_ble_eq_true rfl) hL⟩ rfl rfl hw hdg ⟨Nat.le_trans (Nat.add_le_add_left (Nat.le_of_ble_eq_true rfl) _) hf1, Nat.le_trans (Nat.add_le_add_left (Nat.le_of_ble_eq_true rfl) _) hf2⟩) hS (fun r2 _u H1 locs1 hp hC1 hS1 => W.widen (Nat.add_le_add_left (Nat.le_of_ble_eq_true rfl) _) (Nat.add_le_add_left (Nat.le_of_ble_eq_true rfl) _) (kk r2 H1 locs1 hp hC1 hS1))
  · exact kcl_ (BB := fun (_ : Unit) H => CW D A x hs cA K H) (krJ (b := b) (As := []) (C := "MemberInspection$Special") X hsz hS hC (c_H_told l D A cA x hs K b  _ hq) ki_H_told wd_342 wd_344 wd_351 wd_343 (krec X hC hb ht rfl) ⟨rfl, rfl, Nat.le_trans (Nat.le_of_ble_eq_true rfl) hF, Nat.le_trans (Nat.le_of_ble_eq_true rfl) hL⟩ rfl rfl hw hdg ⟨Nat.le_trans (Nat.add_le_add_left (Nat.le_of_ble_eq_true rfl) _) hf1, Nat.le_trans (Nat.add_le_add_left (Nat.le_of_ble_eq_true rfl) _) hf2⟩) hS (fun r2 _u H1 locs1 hp hC1 hS1 => W.widen (Nat.add_le_add_left (Nat.le_of_ble_eq_true rfl) _) (Nat.add_le_add_left (Nat.le_of_ble_eq_true rfl) _) (kk r2 H1 locs1 hp hC1 hS1))
  · exact kcl_ (BB := fun (_ : Unit) H => CW D A x hs cA K H) (krO (b := b) (As := []) (C := "MemberInspection$Text") (x := y_H_told) X hsz hS hC (c_T_told l D A cA x hs K b  _ hq) ki_T_told wd_342 wd_344 wd_343 wd_355 wd_352 wd_353 (by decide +kernel) (krec X hC hb ht rfl) ⟨rfl, rfl, Nat.le_trans (Nat.le_of_ble_eq_true rfl) hF, Nat.le_trans (Nat.le_of_ble_eq_true rfl) hL⟩ rfl rfl hw hdg ⟨Nat.le_trans (Nat.add_le_add_left (Nat.le_of_ble_eq_true rfl) _) hf1, Nat.le_trans (Nat.add_le_add_left (Nat.le_of_ble_eq_true rfl) _) hf2⟩) hS (fun r2 _u H1 locs1 hp hC1 hS1 => W.widen (Nat.add_le_add_left (Nat.le_of_ble_eq_true rfl) _) (Nat.add_le_add_left (Nat.le_of_ble_eq_true rfl) _) (kk r2 H1 locs1 hp hC1 hS1))
def w_C_value (K : KT) (a1 : Int32) (post : Int64 → Prop) : Prop := w_C_isBelow a1 (9 : Int32) (fun r3_1 => ((r3_1 = (0 : Int32)) → (post (-1 : Int64))) ∧ (¬ (r3_1 = (0 : Int32)) → ((vp_in a1 9) ∧ (∀ r18_2 : Option Nat, r18_2 = (kH K (a1).toNatClampNeg) → (((r18_2 = none) → (post (0 : Int64))) ∧ (¬ (r18_2 = none) → (w_v_told K r18_2  (fun r29_3 => post r29_3))))))))
set_option maxHeartbeats 8000000 in
set_option maxRecDepth 100000 in
theorem c_C_value (l : Launch) (D : va_G) (A : Nat → Prop) (cA : ClassId) (x hs : Nat) (K : KT) (a1 : Int32) (post : Int64 → Prop) (hq : w_C_value K a1 post) : Met l y_C_value (kw y_C_value b_C_value 3 (Option.some Jvm.ClassFile.FieldType.long)) ({ frames := 2, cells := 0, slots := 0, locals := 41 }) (kP D (tysC cA) A [.ref x, .int a1] (CW D A x hs cA K)) (va_Ql (fun r (_ : Unit) => post r) (fun _ t => CW D A x hs cA K t.heap) A) 0 0 A := by
  refine kmet_l (BB := (fun (_ : Unit) H => CW D A x hs cA K H)) (lv := [(0, .ref x), (1, .int a1)]) (by decide +kernel) rfl (Nat.le_of_ble_eq_true rfl) ?_
  intro p e s m args below meth c Q ls X hin hC hl hE
  have hx := X.x
  have hb := X.b
  have hS : va_S A s.heap s.heap [] := va_S.rf
  unfold w_C_value at hq
  refine lv_iload_n hx hb d_C_value_0 rfl (lv_at hl 1 rfl) ?_
  refine lv_bipush (v := (9 : Int32)) hx hb d_C_value_1 (by decide) ?_
  refine kci (BB := fun (_ : Unit) H => CW D A x hs cA K H) (krS X hl.1 hS hC (c_C_isBelow l D (tysC cA) A _ a1 (9 : Int32) _ hq) ki_C_isBelow wd_35 wd_36 ⟨rfl, rfl, Nat.le_of_ble_eq_true rfl, Nat.le_of_ble_eq_true rfl⟩ rfl rfl (Nat.le_of_ble_eq_true rfl) d_C_value_3 ⟨Nat.le_of_ble_eq_true rfl, Nat.le_of_ble_eq_true rfl⟩) hS (fun r3_1 _u H locs hq hC hS => ?_)
  refine lv_if_ne (tgt := 13) hx hb d_C_value_6 (by decide) (fun c_5 => ?_) (fun c_5 => ?_)
  · have hq := hq.2 c_5
    refine lv_aload_n hx hb d_C_value_13 rfl (lv_at hl 0 rfl) ?_
    refine kg_handles X hC d_C_value_14 ?_
    refine lv_iload_n hx hb d_C_value_17 rfl (lv_at hl 1 rfl) ?_
    have hs_ := hq.1
    have hq := hq.2
    refine kg_h X hC hs_ d_C_value_18 (fun r18_2 e_r18_2 => ?_)
    have hq := hq r18_2 e_r18_2
    refine kr_astore_n (r := r18_2) (lv' := [(2, va_rf r18_2), (0, .ref x), (1, .int a1)]) hx hb d_C_value_19 rfl hl (by decide) (by cases r18_2 <;> rfl) (fun ls hl => ?_)
    refine kr_aload_n (r := r18_2) hx hb d_C_value_20 rfl (lv_at hl 0 rfl) ?_
    refine kr_ifnonnull (r := r18_2) (tgt := 28) hx hb d_C_value_21 (by decide) (fun c_4 => ?_) (fun c_4 => ?_)
    · have hq := hq.2 c_4
      refine kr_aload_n (r := r18_2) hx hb d_C_value_28 rfl (lv_at hl 0 rfl) ?_
      refine kv_told_C133 (r := r18_2) X hl.1 hS hC hq (Nat.le_of_ble_eq_true rfl) (Nat.le_of_ble_eq_true rfl) (Nat.le_of_ble_eq_true rfl) d_C_value_29 (Nat.le_of_ble_eq_true rfl) (Nat.le_of_ble_eq_true rfl) (fun r29_3 H locs hq hC hS => ?_)
      exact hE r29_3 () _ _ _ _ _ ls hq hC hS (Nat.le_of_ble_eq_true rfl) (Nat.le_of_ble_eq_true rfl) d_C_value_32
    · have hq := hq.1 c_4
      refine lv_lconst (v := (0 : Int64)) hx hb d_C_value_24 (by decide) ?_
      refine lv_goto (tgt := 32) hx hb d_C_value_25 (by decide) ?_
      exact hE (0 : Int64) () _ _ _ _ _ ls hq hC hS (Nat.le_of_ble_eq_true rfl) (Nat.le_of_ble_eq_true rfl) d_C_value_32
  · have hq := hq.1 c_5
    refine lv_ldc2 hx hb X.o (X.t _ wd_341) d_C_value_9 ?_
    exact hE (-1 : Int64) () _ _ _ _ _ ls hq hC hS (Nat.le_of_ble_eq_true rfl) (Nat.le_of_ble_eq_true rfl) d_C_value_12
def w_C_typedTakes (a1 : Int32) (a2 : Int32) (post : Int32 → Prop) : Prop := w_C_isBelow a2 (13 : Int32) (fun r3_1 => ((r3_1 = (0 : Int32)) → (post (-1 : Int32))) ∧ (¬ (r3_1 = (0 : Int32)) → (w_C_takes a1 a2 (fun r13_2 => ((r13_2 = (0 : Int32)) → (post (0 : Int32))) ∧ (¬ (r13_2 = (0 : Int32)) → (post (1 : Int32)))))))
set_option maxHeartbeats 8000000 in
set_option maxRecDepth 100000 in
theorem c_C_typedTakes (l : Launch) (D : va_G) (tys : List (ClassId × FieldType)) (A : Nat → Prop) (B : Heap → Prop) (a1 : Int32) (a2 : Int32) (post : Int32 → Prop) (hq : w_C_typedTakes a1 a2 post) : Met l y_C_typedTakes (kw y_C_typedTakes b_C_typedTakes 2 (Option.some Jvm.ClassFile.FieldType.int)) ({ frames := 1, cells := 0, slots := 0, locals := 21 }) (kP D tys A [.int a1, .int a2] B) (va_Qi (fun r (_ : Unit) => post r) (fun _ t => B t.heap) A) 0 0 A := by
  refine kmet_i (BB := (fun (_ : Unit) H => B H)) (lv := [(0, .int a1), (1, .int a2)]) (by decide +kernel) rfl (Nat.le_of_ble_eq_true rfl) ?_
  intro p e s m args below meth c Q ls X hin hC hl hE
  have hx := X.x
  have hb := X.b
  have hS : va_S A s.heap s.heap [] := va_S.rf
  unfold w_C_typedTakes at hq
  refine lv_iload_n hx hb d_C_typedTakes_0 rfl (lv_at hl 1 rfl) ?_
  refine lv_bipush (v := (13 : Int32)) hx hb d_C_typedTakes_1 (by decide) ?_
  refine kci (BB := fun (_ : Unit) H => B H) (krS X hl.1 hS hC (c_C_isBelow l D tys A _ a2 (13 : Int32) _ hq) ki_C_isBelow wd_35 wd_36 ⟨rfl, rfl, Nat.le_of_ble_eq_true rfl, Nat.le_of_ble_eq_true rfl⟩ rfl rfl (Nat.le_of_ble_eq_true rfl) d_C_typedTakes_3 ⟨Nat.le_of_ble_eq_true rfl, Nat.le_of_ble_eq_true rfl⟩) hS (fun r3_1 _u H locs hq hC hS => ?_)
  refine lv_if_ne (tgt := 11) hx hb d_C_typedTakes_6 (by decide) (fun c_4 => ?_) (fun c_4 => ?_)
  · have hq := hq.2 c_4
    refine lv_iload_n hx hb d_C_typedTakes_11 rfl (lv_at hl 0 rfl) ?_
    refine lv_iload_n hx hb d_C_typedTakes_12 rfl (lv_at hl 1 rfl) ?_
    refine kci (BB := fun (_ : Unit) H => B H) (krS X hl.1 hS hC (c_C_takes l D tys A _ a1 a2 _ hq) ki_C_takes wd_320 wd_321 ⟨rfl, rfl, Nat.le_of_ble_eq_true rfl, Nat.le_of_ble_eq_true rfl⟩ rfl rfl (Nat.le_of_ble_eq_true rfl) d_C_typedTakes_13 ⟨Nat.le_of_ble_eq_true rfl, Nat.le_of_ble_eq_true rfl⟩) hS (fun r13_2 _u H locs hq hC hS => ?_)
    refine lv_if_eq (tgt := 23) hx hb d_C_typedTakes_16 (by decide) (fun c_3 => ?_) (fun c_3 => ?_)
    · have hq := hq.1 c_3
      refine lv_iconst (v := (0 : Int32)) hx hb d_C_typedTakes_23 (by decide) ?_
      exact hE (0 : Int32) () _ _ _ _ _ ls hq hC hS (Nat.le_of_ble_eq_true rfl) (Nat.le_of_ble_eq_true rfl) d_C_typedTakes_24
    · have hq := hq.2 c_3
      refine lv_iconst (v := (1 : Int32)) hx hb d_C_typedTakes_19 (by decide) ?_
      refine lv_goto (tgt := 24) hx hb d_C_typedTakes_20 (by decide) ?_
      exact hE (1 : Int32) () _ _ _ _ _ ls hq hC hS (Nat.le_of_ble_eq_true rfl) (Nat.le_of_ble_eq_true rfl) d_C_typedTakes_24
  · have hq := hq.1 c_4
    refine lv_iconst (v := (-1 : Int32)) hx hb d_C_typedTakes_9 (by decide) ?_
    exact hE (-1 : Int32) () _ _ _ _ _ ls hq hC hS (Nat.le_of_ble_eq_true rfl) (Nat.le_of_ble_eq_true rfl) d_C_typedTakes_10
def w_C_typed (K : KT) (a1 : Int32) (a2 : Int32) (a3 : Int32) (post : Int32 → Prop) : Prop := w_C_isBelow a1 (13 : Int32) (fun r3_1 => ((r3_1 = (0 : Int32)) → (post (-1 : Int32))) ∧ (¬ (r3_1 = (0 : Int32)) → (((a3 = (0 : Int32)) → (w_C_typedTakes a1 a2 (fun r46_3 => post r46_3))) ∧ (¬ (a3 = (0 : Int32)) → (((a3 = (1 : Int32)) → ((vp_in a1 sf_TYPES_ABOVE.length) ∧ (post (sf_TYPES_ABOVE.getD (a1).toNatClampNeg 0)))) ∧ (¬ (a3 = (1 : Int32)) → (((a3 = (2 : Int32)) → ((vp_in a1 sf_ELEMENT_TYPES.length) ∧ (post (sf_ELEMENT_TYPES.getD (a1).toNatClampNeg 0)))) ∧ (¬ (a3 = (2 : Int32)) → (((a3 = (3 : Int32)) → ((vp_in a1 sf_ABSTRACT_TYPES.length) ∧ (post (sf_ABSTRACT_TYPES.getD (a1).toNatClampNeg 0)))) ∧ (¬ (a3 = (3 : Int32)) → (post (-1 : Int32))))))))))))
set_option maxHeartbeats 8000000 in
set_option maxRecDepth 100000 in
theorem c_C_typed (l : Launch) (D : va_G) (A : Nat → Prop) (cA : ClassId) (x hs : Nat) (K : KT) (a1 : Int32) (a2 : Int32) (a3 : Int32) (post : Int32 → Prop) (hq : w_C_typed K a1 a2 a3 post) : Met l y_C_typed (kw y_C_typed b_C_typed 4 (Option.some Jvm.ClassFile.FieldType.int)) ({ frames := 2, cells := 0, slots := 0, locals := 42 }) (kP D (tysC cA) A [.ref x, .int a1, .int a2, .int a3] (CW D A x hs cA K)) (va_Qi (fun r (_ : Unit) => post r) (fun _ t => CW D A x hs cA K t.heap) A) 0 0 A := by
  refine kmet_i (BB := (fun (_ : Unit) H => CW D A x hs cA K H)) (lv := [(0, .ref x), (1, .int a1), (2, .int a2), (3, .int a3)]) (by decide +kernel) rfl (Nat.le_of_ble_eq_true rfl) ?_
  intro p e s m args below meth c Q ls X hin hC hl hE
  have hx := X.x
  have hb := X.b
  have hS : va_S A s.heap s.heap [] := va_S.rf
  unfold w_C_typed at hq
  refine lv_iload_n hx hb d_C_typed_0 rfl (lv_at hl 1 rfl) ?_
  refine lv_bipush (v := (13 : Int32)) hx hb d_C_typed_1 (by decide) ?_
  refine kci (BB := fun (_ : Unit) H => CW D A x hs cA K H) (krS X hl.1 hS hC (c_C_isBelow l D (tysC cA) A _ a1 (13 : Int32) _ hq) ki_C_isBelow wd_35 wd_36 ⟨rfl, rfl, Nat.le_of_ble_eq_true rfl, Nat.le_of_ble_eq_true rfl⟩ rfl rfl (Nat.le_of_ble_eq_true rfl) d_C_typed_3 ⟨Nat.le_of_ble_eq_true rfl, Nat.le_of_ble_eq_true rfl⟩) hS (fun r3_1 _u H locs hq hC hS => ?_)
  refine lv_if_ne (tgt := 11) hx hb d_C_typed_6 (by decide) (fun c_10 => ?_) (fun c_10 => ?_)
  · have hq := hq.2 c_10
    refine lv_iload_n hx hb d_C_typed_11 rfl (lv_at hl 3 rfl) ?_
    by_cases g_2 : a3 = (0 : Int32)
    · have hq := hq.1 g_2
      refine lv_tableIn (off := 32) (tgt := 44) hx hb d_C_typed_12 (by rw [g_2]; decide) (by rw [g_2]; decide) (by rw [g_2]; rfl) (by decide) ?_
      refine lv_iload_n hx hb d_C_typed_44 rfl (lv_at hl 1 rfl) ?_
      refine lv_iload_n hx hb d_C_typed_45 rfl (lv_at hl 2 rfl) ?_
      refine kci (BB := fun (_ : Unit) H => CW D A x hs cA K H) (krS X hl.1 hS hC (c_C_typedTakes l D (tysC cA) A _ a1 a2 _ hq) ki_C_typedTakes wd_360 wd_361 ⟨rfl, rfl, Nat.le_of_ble_eq_true rfl, Nat.le_of_ble_eq_true rfl⟩ rfl rfl (Nat.le_of_ble_eq_true rfl) d_C_typed_46 ⟨Nat.le_of_ble_eq_true rfl, Nat.le_of_ble_eq_true rfl⟩) hS (fun r46_3 _u H locs hq hC hS => ?_)
      exact hE r46_3 () _ _ _ _ _ ls hq hC hS (Nat.le_of_ble_eq_true rfl) (Nat.le_of_ble_eq_true rfl) d_C_typed_49
    · have hq := hq.2 g_2
      by_cases g_4 : a3 = (1 : Int32)
      · have hq := hq.1 g_4
        refine lv_tableIn (off := 38) (tgt := 50) hx hb d_C_typed_12 (by rw [g_4]; decide) (by rw [g_4]; decide) (by rw [g_4]; rfl) (by decide) ?_
        refine kgs X hS (nm := "TYPES_ABOVE") (lst := sf_TYPES_ABOVE) (by decide +kernel) wd_323 d_C_typed_50 (fun t50_5 hT50_5 => ?_)
        refine lv_iload_n hx hb d_C_typed_53 rfl (lv_at hl 1 rfl) ?_
        have hs_ := hq.1
        have hq := hq.2
        refine ksl X hS hT50_5 hs_ d_C_typed_54 ?_
        exact hE (sf_TYPES_ABOVE.getD (a1).toNatClampNeg 0) () _ _ _ _ _ ls hq hC hS (Nat.le_of_ble_eq_true rfl) (Nat.le_of_ble_eq_true rfl) d_C_typed_55
      · have hq := hq.2 g_4
        by_cases g_6 : a3 = (2 : Int32)
        · have hq := hq.1 g_6
          refine lv_tableIn (off := 44) (tgt := 56) hx hb d_C_typed_12 (by rw [g_6]; decide) (by rw [g_6]; decide) (by rw [g_6]; rfl) (by decide) ?_
          refine kgs X hS (nm := "ELEMENT_TYPES") (lst := sf_ELEMENT_TYPES) (by decide +kernel) wd_363 d_C_typed_56 (fun t56_7 hT56_7 => ?_)
          refine lv_iload_n hx hb d_C_typed_59 rfl (lv_at hl 1 rfl) ?_
          have hs_ := hq.1
          have hq := hq.2
          refine ksl X hS hT56_7 hs_ d_C_typed_60 ?_
          exact hE (sf_ELEMENT_TYPES.getD (a1).toNatClampNeg 0) () _ _ _ _ _ ls hq hC hS (Nat.le_of_ble_eq_true rfl) (Nat.le_of_ble_eq_true rfl) d_C_typed_61
        · have hq := hq.2 g_6
          by_cases g_8 : a3 = (3 : Int32)
          · have hq := hq.1 g_8
            refine lv_tableIn (off := 50) (tgt := 62) hx hb d_C_typed_12 (by rw [g_8]; decide) (by rw [g_8]; decide) (by rw [g_8]; rfl) (by decide) ?_
            refine kgs X hS (nm := "ABSTRACT_TYPES") (lst := sf_ABSTRACT_TYPES) (by decide +kernel) wd_101 d_C_typed_62 (fun t62_9 hT62_9 => ?_)
            refine lv_iload_n hx hb d_C_typed_65 rfl (lv_at hl 1 rfl) ?_
            have hs_ := hq.1
            have hq := hq.2
            refine ksl X hS hT62_9 hs_ d_C_typed_66 ?_
            exact hE (sf_ABSTRACT_TYPES.getD (a1).toNatClampNeg 0) () _ _ _ _ _ ls hq hC hS (Nat.le_of_ble_eq_true rfl) (Nat.le_of_ble_eq_true rfl) d_C_typed_67
          · have hq := hq.2 g_8
            refine lv_tableOut (tgt := 68) hx hb d_C_typed_12 (by have z0 := lv_neT (a := 0) g_2 rfl; have z1 := lv_neT (a := 1) g_4 rfl; have z2 := lv_neT (a := 2) g_6 rfl; have z3 := lv_neT (a := 3) g_8 rfl; omega) (by decide) ?_
            refine lv_iconst (v := (-1 : Int32)) hx hb d_C_typed_68 (by decide) ?_
            exact hE (-1 : Int32) () _ _ _ _ _ ls hq hC hS (Nat.le_of_ble_eq_true rfl) (Nat.le_of_ble_eq_true rfl) d_C_typed_69
  · have hq := hq.1 c_10
    refine lv_iconst (v := (-1 : Int32)) hx hb d_C_typed_9 (by decide) ?_
    exact hE (-1 : Int32) () _ _ _ _ _ ls hq hC hS (Nat.le_of_ble_eq_true rfl) (Nat.le_of_ble_eq_true rfl) d_C_typed_10
