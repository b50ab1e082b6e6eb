def w_M_in (a1 : Int32) (a2 : Int32) (a3 : Int32) (post : Int32 → Prop) : Prop := ((a1 < a2) → (z01 (0 : Int32) ∧ post (0 : Int32))) ∧ (¬ (a1 < a2) → (((a3 < a1) → (z01 (0 : Int32) ∧ post (0 : Int32))) ∧ (¬ (a3 < a1) → (z01 (1 : Int32) ∧ post (1 : Int32)))))
set_option maxHeartbeats 8000000 in
set_option maxRecDepth 100000 in
theorem c_M_in (l : Launch) (D : va_G) (tys : List (ClassId × FieldType)) (A : Nat → Prop) (B : Heap → Prop) (a1 : Int32) (a2 : Int32) (a3 : Int32) (post : Int32 → Prop) (hq : w_M_in a1 a2 a3 post) : Met l y_M_in (kw y_M_in b_M_in 3 (Option.some Jvm.ClassFile.FieldType.boolean)) ({ frames := 0, cells := 0, slots := 0, locals := 0 }) (kP D tys A [.int a1, .int a2, .int a3] B) (va_Qi (fun r (_ : Unit) => post r) (fun _ t => B t.heap) A) 0 0 A := by
  refine kmet_z (BB := (fun (_ : Unit) H => B H)) (lv := [(0, .int a1), (1, .int a2), (2, .int a3)]) (by decide +kernel) rfl (Nat.le_of_ble_eq_true rfl) ?_
  intro p e s m args below meth c Q ls X hin hC hl hE
  have hx := X.x
  have hb := X.b
  have hS : va_S A s.heap s.heap [] := va_S.rf
  unfold w_M_in at hq
  refine lv_iload_n hx hb d_M_in_0 rfl (lv_at hl 0 rfl) ?_
  refine lv_iload_n hx hb d_M_in_1 rfl (lv_at hl 1 rfl) ?_
  refine lv_icmp_lt (tgt := 14) hx hb d_M_in_2 (by decide) (fun c_2 => ?_) (fun c_2 => ?_)
  · have hq := hq.1 c_2
    refine lv_iconst (v := (0 : Int32)) hx hb d_M_in_14 (by decide) ?_
    exact hE (0 : Int32) () _ _ _ _ _ ls hq hC hS (Nat.le_of_ble_eq_true rfl) (Nat.le_of_ble_eq_true rfl) d_M_in_15
  · have hq := hq.2 c_2
    refine lv_iload_n hx hb d_M_in_5 rfl (lv_at hl 0 rfl) ?_
    refine lv_iload_n hx hb d_M_in_6 rfl (lv_at hl 2 rfl) ?_
    refine lv_icmp_gt (tgt := 14) hx hb d_M_in_7 (by decide) (fun c_1 => ?_) (fun c_1 => ?_)
    · have hq := hq.1 c_1
      refine lv_iconst (v := (0 : Int32)) hx hb d_M_in_14 (by decide) ?_
      exact hE (0 : Int32) () _ _ _ _ _ ls hq hC hS (Nat.le_of_ble_eq_true rfl) (Nat.le_of_ble_eq_true rfl) d_M_in_15
    · have hq := hq.2 c_1
      refine lv_iconst (v := (1 : Int32)) hx hb d_M_in_10 (by decide) ?_
      refine lv_goto (tgt := 15) hx hb d_M_in_11 (by decide) ?_
      exact hE (1 : Int32) () _ _ _ _ _ ls hq hC hS (Nat.le_of_ble_eq_true rfl) (Nat.le_of_ble_eq_true rfl) d_M_in_15
def w_M_tell (M : MT) (a1 : Int32) (a2 : Int64) (post : Int32 → MT → Prop) : Prop := post a1 (ms_last M a2)
set_option maxHeartbeats 8000000 in
set_option maxRecDepth 100000 in
theorem c_M_tell (l : Launch) (D : va_G) (A : Nat → Prop) (AM : Nat → Nat) (CM : Nat → ClassId) (M : MT) (a1 : Int32) (a2 : Int64) (post : Int32 → MT → Prop) (hq : w_M_tell M a1 a2 post) : Met l y_M_tell (kw y_M_tell b_M_tell 4 (Option.some Jvm.ClassFile.FieldType.int)) ({ frames := 0, cells := 0, slots := 0, locals := 0 }) (kP D (tysM CM) A [.ref (AM 0), .int a1, .long a2] (MW D A AM CM M)) (va_Qi post (fun u t => MW D A AM CM u t.heap) A) 0 0 A := by
  refine kmet_i (BB := (fun u H => MW D A AM CM u H)) (lv := [(0, .ref (AM 0)), (1, .int a1), (2, .long a2)]) (by decide +kernel) rfl (Nat.le_of_ble_eq_true rfl) ?_
  intro p e s m args below meth c Q ls X hin hC hl hE
  have hx := X.x
  have hb := X.b
  have hS : va_S A s.heap s.heap [] := va_S.rf
  unfold w_M_tell at hq
  refine lv_aload_n hx hb d_M_tell_0 rfl (lv_at hl 0 rfl) ?_
  refine lv_lload_n hx hb d_M_tell_1 rfl (lv_at hl 2 rfl) ?_
  refine mp_last X hC hS d_M_tell_2 (fun H locs hC hS => ?_)
  refine lv_iload_n hx hb d_M_tell_5 rfl (lv_at hl 1 rfl) ?_
  exact hE a1 (ms_last M a2) _ _ _ _ _ ls hq hC hS (Nat.le_of_ble_eq_true rfl) (Nat.le_of_ble_eq_true rfl) d_M_tell_6
def w_M_create (M : MT) (a1 : Int32) (post : Int32 → MT → Prop) : Prop := (vp_in (m_objects (ms_objects M ((m_objects M) + (1 : Int32)))) 520) ∧ (post (m_objects (ms_sort (ms_objects M ((m_objects M) + (1 : Int32))) ((m_objects (ms_objects M ((m_objects M) + (1 : Int32))))).toNatClampNeg a1)) (ms_sort (ms_objects M ((m_objects M) + (1 : Int32))) ((m_objects (ms_objects M ((m_objects M) + (1 : Int32))))).toNatClampNeg a1))
set_option maxHeartbeats 8000000 in
set_option maxRecDepth 100000 in
theorem c_M_create (l : Launch) (D : va_G) (A : Nat → Prop) (AM : Nat → Nat) (CM : Nat → ClassId) (M : MT) (a1 : Int32) (post : Int32 → MT → Prop) (hq : w_M_create M a1 post) : Met l y_M_create (kw y_M_create b_M_create 2 (Option.some Jvm.ClassFile.FieldType.int)) ({ frames := 0, cells := 0, slots := 0, locals := 0 }) (kP D (tysM CM) A [.ref (AM 0), .int a1] (MW D A AM CM M)) (va_Qi post (fun u t => MW D A AM CM u t.heap) A) 0 0 A := by
  refine kmet_i (BB := (fun u H => MW D A AM CM u H)) (lv := [(0, .ref (AM 0)), (1, .int a1)]) (by decide +kernel) rfl (Nat.le_of_ble_eq_true rfl) ?_
  intro p e s m args below meth c Q ls X hin hC hl hE
  have hx := X.x
  have hb := X.b
  have hS : va_S A s.heap s.heap [] := va_S.rf
  unfold w_M_create at hq
  refine lv_aload_n hx hb d_M_create_0 rfl (lv_at hl 0 rfl) ?_
  refine lv_dup hx hb d_M_create_1 rfl ?_
  refine mg_objects X hC d_M_create_2 ?_
  refine lv_iconst (v := (1 : Int32)) hx hb d_M_create_5 (by decide) ?_
  refine lv_iadd hx hb d_M_create_6 ?_
  refine mp_objects X hC hS d_M_create_7 (fun H locs hC hS => ?_)
  refine lv_aload_n hx hb d_M_create_10 rfl (lv_at hl 0 rfl) ?_
  refine mg_sort X hC d_M_create_11 ?_
  refine lv_aload_n hx hb d_M_create_14 rfl (lv_at hl 0 rfl) ?_
  refine mg_objects X hC d_M_create_15 ?_
  refine lv_iload_n hx hb d_M_create_18 rfl (lv_at hl 1 rfl) ?_
  have hs_ := hq.1
  have hq := hq.2
  refine mt_sort X hC hS hs_ d_M_create_19 (fun H locs hC hS => ?_)
  refine lv_aload_n hx hb d_M_create_20 rfl (lv_at hl 0 rfl) ?_
  refine mg_objects X hC d_M_create_21 ?_
  exact hE (m_objects (ms_sort (ms_objects M ((m_objects M) + (1 : Int32))) ((m_objects (ms_objects M ((m_objects M) + (1 : Int32))))).toNatClampNeg a1)) (ms_sort (ms_objects M ((m_objects M) + (1 : Int32))) ((m_objects (ms_objects M ((m_objects M) + (1 : Int32))))).toNatClampNeg a1) _ _ _ _ _ ls hq hC hS (Nat.le_of_ble_eq_true rfl) (Nat.le_of_ble_eq_true rfl) d_M_create_24
def w_M_isBox (M : MT) (a1 : Int32) (post : Int32 → Prop) : Prop := (vp_in a1 520) ∧ (w_M_in (m_sort M (a1).toNatClampNeg) (1 : Int32) (8 : Int32) (fun r9_1 => z01 r9_1 ∧ post r9_1))
set_option maxHeartbeats 8000000 in
set_option maxRecDepth 100000 in
theorem c_M_isBox (l : Launch) (D : va_G) (A : Nat → Prop) (AM : Nat → Nat) (CM : Nat → ClassId) (M : MT) (a1 : Int32) (post : Int32 → Prop) (hq : w_M_isBox M a1 post) : Met l y_M_isBox (kw y_M_isBox b_M_isBox 2 (Option.some Jvm.ClassFile.FieldType.boolean)) ({ frames := 1, cells := 0, slots := 0, locals := 22 }) (kP D (tysM CM) A [.ref (AM 0), .int a1] (MW D A AM CM M)) (va_Qi (fun r (_ : Unit) => post r) (fun _ t => MW D A AM CM M t.heap) A) 0 0 A := by
  refine kmet_z (BB := (fun (_ : Unit) H => MW D A AM CM M H)) (lv := [(0, .ref (AM 0)), (1, .int a1)]) (by decide +kernel) rfl (Nat.le_of_ble_eq_true rfl) ?_
  intro p e s m args below meth c Q ls X hin hC hl hE
  have hx := X.x
  have hb := X.b
  have hS : va_S A s.heap s.heap [] := va_S.rf
  unfold w_M_isBox at hq
  refine lv_aload_n hx hb d_M_isBox_0 rfl (lv_at hl 0 rfl) ?_
  refine mg_sort X hC d_M_isBox_1 ?_
  refine lv_iload_n hx hb d_M_isBox_4 rfl (lv_at hl 1 rfl) ?_
  have hs_ := hq.1
  have hq := hq.2
  refine ml_sort X hC hs_ d_M_isBox_5 ?_
  refine lv_iconst (v := (1 : Int32)) hx hb d_M_isBox_6 (by decide) ?_
  refine lv_bipush (v := (8 : Int32)) hx hb d_M_isBox_7 (by decide) ?_
  refine kci (BB := fun (_ : Unit) H => MW D A AM CM M H) (krS X hl.1 hS hC (c_M_in l D (tysM CM) A _ (m_sort M (a1).toNatClampNeg) (1 : Int32) (8 : Int32) _ hq) ki_M_in wd_422 wd_423 ⟨rfl, rfl, Nat.le_of_ble_eq_true rfl, Nat.le_of_ble_eq_true rfl⟩ rfl rfl (Nat.le_of_ble_eq_true rfl) d_M_isBox_9 ⟨Nat.le_of_ble_eq_true rfl, Nat.le_of_ble_eq_true rfl⟩) hS (fun r9_1 _u H locs hq hC hS => ?_)
  exact hE r9_1 () _ _ _ _ _ ls hq hC hS (Nat.le_of_ble_eq_true rfl) (Nat.le_of_ble_eq_true rfl) d_M_isBox_12
def w_M_isItem (M : MT) (a1 : Int32) (post : Int32 → Prop) : Prop := (vp_in a1 520) ∧ ((((m_sort M (a1).toNatClampNeg) = (10 : Int32)) → (z01 (1 : Int32) ∧ post (1 : Int32))) ∧ (¬ ((m_sort M (a1).toNatClampNeg) = (10 : Int32)) → ((vp_in a1 520) ∧ ((((m_sort M (a1).toNatClampNeg) = (11 : Int32)) → (z01 (1 : Int32) ∧ post (1 : Int32))) ∧ (¬ ((m_sort M (a1).toNatClampNeg) = (11 : Int32)) → (z01 (0 : Int32) ∧ post (0 : Int32)))))))
set_option maxHeartbeats 8000000 in
set_option maxRecDepth 100000 in
theorem c_M_isItem (l : Launch) (D : va_G) (A : Nat → Prop) (AM : Nat → Nat) (CM : Nat → ClassId) (M : MT) (a1 : Int32) (post : Int32 → Prop) (hq : w_M_isItem M a1 post) : Met l y_M_isItem (kw y_M_isItem b_M_isItem 2 (Option.some Jvm.ClassFile.FieldType.boolean)) ({ frames := 0, cells := 0, slots := 0, locals := 0 }) (kP D (tysM CM) A [.ref (AM 0), .int a1] (MW D A AM CM M)) (va_Qi (fun r (_ : Unit) => post r) (fun _ t => MW D A AM CM M t.heap) A) 0 0 A := by
  refine kmet_z (BB := (fun (_ : Unit) H => MW D A AM CM M H)) (lv := [(0, .ref (AM 0)), (1, .int a1)]) (by decide +kernel) rfl (Nat.le_of_ble_eq_true rfl) ?_
  intro p e s m args below meth c Q ls X hin hC hl hE
  have hx := X.x
  have hb := X.b
  have hS : va_S A s.heap s.heap [] := va_S.rf
  unfold w_M_isItem at hq
  refine lv_aload_n hx hb d_M_isItem_0 rfl (lv_at hl 0 rfl) ?_
  refine mg_sort X hC d_M_isItem_1 ?_
  refine lv_iload_n hx hb d_M_isItem_4 rfl (lv_at hl 1 rfl) ?_
  have hs_ := hq.1
  have hq := hq.2
  refine ml_sort X hC hs_ d_M_isItem_5 ?_
  refine lv_bipush (v := (10 : Int32)) hx hb d_M_isItem_6 (by decide) ?_
  refine lv_icmp_eq (tgt := 22) hx hb d_M_isItem_8 (by decide) (fun c_2 => ?_) (fun c_2 => ?_)
  · have hq := hq.1 c_2
    refine lv_iconst (v := (1 : Int32)) hx hb d_M_isItem_22 (by decide) ?_
    refine lv_goto (tgt := 27) hx hb d_M_isItem_23 (by decide) ?_
    exact hE (1 : Int32) () _ _ _ _ _ ls hq hC hS (Nat.le_of_ble_eq_true rfl) (Nat.le_of_ble_eq_true rfl) d_M_isItem_27
  · have hq := hq.2 c_2
    refine lv_aload_n hx hb d_M_isItem_11 rfl (lv_at hl 0 rfl) ?_
    refine mg_sort X hC d_M_isItem_12 ?_
    refine lv_iload_n hx hb d_M_isItem_15 rfl (lv_at hl 1 rfl) ?_
    have hs_ := hq.1
    have hq := hq.2
    refine ml_sort X hC hs_ d_M_isItem_16 ?_
    refine lv_bipush (v := (11 : Int32)) hx hb d_M_isItem_17 (by decide) ?_
    refine lv_icmp_ne (tgt := 26) hx hb d_M_isItem_19 (by decide) (fun c_1 => ?_) (fun c_1 => ?_)
    · have hq := hq.2 c_1
      refine lv_iconst (v := (0 : Int32)) hx hb d_M_isItem_26 (by decide) ?_
      exact hE (0 : Int32) () _ _ _ _ _ ls hq hC hS (Nat.le_of_ble_eq_true rfl) (Nat.le_of_ble_eq_true rfl) d_M_isItem_27
    · have hq := hq.1 c_1
      refine lv_iconst (v := (1 : Int32)) hx hb d_M_isItem_22 (by decide) ?_
      refine lv_goto (tgt := 27) hx hb d_M_isItem_23 (by decide) ?_
      exact hE (1 : Int32) () _ _ _ _ _ ls hq hC hS (Nat.le_of_ble_eq_true rfl) (Nat.le_of_ble_eq_true rfl) d_M_isItem_27
def w_M_widens (a1 : Int32) (a2 : Int32) (post : Int32 → Prop) : Prop := ((a1 = a2) → (z01 (1 : Int32) ∧ post (1 : Int32))) ∧ (¬ (a1 = a2) → (((a1 = (0 : Int32)) → (z01 (0 : Int32) ∧ post (0 : Int32))) ∧ (¬ (a1 = (0 : Int32)) → (((a2 = (0 : Int32)) → (z01 (0 : Int32) ∧ post (0 : Int32))) ∧ (¬ (a2 = (0 : Int32)) → (((a1 = (1 : Int32)) → (((a2 < (3 : Int32)) → (z01 (0 : Int32) ∧ post (0 : Int32))) ∧ (¬ (a2 < (3 : Int32)) → (z01 (1 : Int32) ∧ post (1 : Int32))))) ∧ (¬ (a1 = (1 : Int32)) → (((a1 = (2 : Int32)) → (((a2 < (4 : Int32)) → (z01 (0 : Int32) ∧ post (0 : Int32))) ∧ (¬ (a2 < (4 : Int32)) → (z01 (1 : Int32) ∧ post (1 : Int32))))) ∧ (¬ (a1 = (2 : Int32)) → (((a2 ≤ a1) → (z01 (0 : Int32) ∧ post (0 : Int32))) ∧ (¬ (a2 ≤ a1) → (z01 (1 : Int32) ∧ post (1 : Int32)))))))))))))
set_option maxHeartbeats 8000000 in
set_option maxRecDepth 100000 in
theorem c_M_widens (l : Launch) (D : va_G) (tys : List (ClassId × FieldType)) (A : Nat → Prop) (B : Heap → Prop) (a1 : Int32) (a2 : Int32) (post : Int32 → Prop) (hq : w_M_widens a1 a2 post) : Met l y_M_widens (kw y_M_widens b_M_widens 2 (Option.some Jvm.ClassFile.FieldType.boolean)) ({ frames := 0, cells := 0, slots := 0, locals := 0 }) (kP D tys A [.int a1, .int a2] B) (va_Qi (fun r (_ : Unit) => post r) (fun _ t => B t.heap) A) 0 0 A := by
  refine kmet_z (BB := (fun (_ : Unit) H => B H)) (lv := [(0, .int a1), (1, .int a2)]) (by decide +kernel) rfl (Nat.le_of_ble_eq_true rfl) ?_
  intro p e s m args below meth c Q ls X hin hC hl hE
  have hx := X.x
  have hb := X.b
  have hS : va_S A s.heap s.heap [] := va_S.rf
  unfold w_M_widens at hq
  refine lv_iload_n hx hb d_M_widens_0 rfl (lv_at hl 0 rfl) ?_
  refine lv_iload_n hx hb d_M_widens_1 rfl (lv_at hl 1 rfl) ?_
  refine lv_icmp_ne (tgt := 7) hx hb d_M_widens_2 (by decide) (fun c_8 => ?_) (fun c_8 => ?_)
  · have hq := hq.2 c_8
    refine lv_iload_n hx hb d_M_widens_7 rfl (lv_at hl 0 rfl) ?_
    refine lv_if_eq (tgt := 15) hx hb d_M_widens_8 (by decide) (fun c_7 => ?_) (fun c_7 => ?_)
    · have hq := hq.1 c_7
      refine lv_iconst (v := (0 : Int32)) hx hb d_M_widens_15 (by decide) ?_
      exact hE (0 : Int32) () _ _ _ _ _ ls hq hC hS (Nat.le_of_ble_eq_true rfl) (Nat.le_of_ble_eq_true rfl) d_M_widens_16
    · have hq := hq.2 c_7
      refine lv_iload_n hx hb d_M_widens_11 rfl (lv_at hl 1 rfl) ?_
      refine lv_if_ne (tgt := 17) hx hb d_M_widens_12 (by decide) (fun c_6 => ?_) (fun c_6 => ?_)
      · have hq := hq.2 c_6
        refine lv_iload_n hx hb d_M_widens_17 rfl (lv_at hl 0 rfl) ?_
        refine lv_iconst (v := (1 : Int32)) hx hb d_M_widens_18 (by decide) ?_
        refine lv_icmp_ne (tgt := 33) hx hb d_M_widens_19 (by decide) (fun c_5 => ?_) (fun c_5 => ?_)
        · have hq := hq.2 c_5
          refine lv_iload_n hx hb d_M_widens_33 rfl (lv_at hl 0 rfl) ?_
          refine lv_iconst (v := (2 : Int32)) hx hb d_M_widens_34 (by decide) ?_
          refine lv_icmp_ne (tgt := 49) hx hb d_M_widens_35 (by decide) (fun c_3 => ?_) (fun c_3 => ?_)
          · have hq := hq.2 c_3
            refine lv_iload_n hx hb d_M_widens_49 rfl (lv_at hl 1 rfl) ?_
            refine lv_iload_n hx hb d_M_widens_50 rfl (lv_at hl 0 rfl) ?_
            refine lv_icmp_le (tgt := 58) hx hb d_M_widens_51 (by decide) (fun c_1 => ?_) (fun c_1 => ?_)
            · have hq := hq.1 c_1
              refine lv_iconst (v := (0 : Int32)) hx hb d_M_widens_58 (by decide) ?_
              exact hE (0 : Int32) () _ _ _ _ _ ls hq hC hS (Nat.le_of_ble_eq_true rfl) (Nat.le_of_ble_eq_true rfl) d_M_widens_59
            · have hq := hq.2 c_1
              refine lv_iconst (v := (1 : Int32)) hx hb d_M_widens_54 (by decide) ?_
              refine lv_goto (tgt := 59) hx hb d_M_widens_55 (by decide) ?_
              exact hE (1 : Int32) () _ _ _ _ _ ls hq hC hS (Nat.le_of_ble_eq_true rfl) (Nat.le_of_ble_eq_true rfl) d_M_widens_59
          · have hq := hq.1 c_3
            refine lv_iload_n hx hb d_M_widens_38 rfl (lv_at hl 1 rfl) ?_
            refine lv_iconst (v := (4 : Int32)) hx hb d_M_widens_39 (by decide) ?_
            refine lv_icmp_lt (tgt := 47) hx hb d_M_widens_40 (by decide) (fun c_2 => ?_) (fun c_2 => ?_)
            · have hq := hq.1 c_2
              refine lv_iconst (v := (0 : Int32)) hx hb d_M_widens_47 (by decide) ?_
              exact hE (0 : Int32) () _ _ _ _ _ ls hq hC hS (Nat.le_of_ble_eq_true rfl) (Nat.le_of_ble_eq_true rfl) d_M_widens_48
            · have hq := hq.2 c_2
              refine lv_iconst (v := (1 : Int32)) hx hb d_M_widens_43 (by decide) ?_
              refine lv_goto (tgt := 48) hx hb d_M_widens_44 (by decide) ?_
              exact hE (1 : Int32) () _ _ _ _ _ ls hq hC hS (Nat.le_of_ble_eq_true rfl) (Nat.le_of_ble_eq_true rfl) d_M_widens_48
        · have hq := hq.1 c_5
          refine lv_iload_n hx hb d_M_widens_22 rfl (lv_at hl 1 rfl) ?_
          refine lv_iconst (v := (3 : Int32)) hx hb d_M_widens_23 (by decide) ?_
          refine lv_icmp_lt (tgt := 31) hx hb d_M_widens_24 (by decide) (fun c_4 => ?_) (fun c_4 => ?_)
          · have hq := hq.1 c_4
            refine lv_iconst (v := (0 : Int32)) hx hb d_M_widens_31 (by decide) ?_
            exact hE (0 : Int32) () _ _ _ _ _ ls hq hC hS (Nat.le_of_ble_eq_true rfl) (Nat.le_of_ble_eq_true rfl) d_M_widens_32
          · have hq := hq.2 c_4
            refine lv_iconst (v := (1 : Int32)) hx hb d_M_widens_27 (by decide) ?_
            refine lv_goto (tgt := 32) hx hb d_M_widens_28 (by decide) ?_
            exact hE (1 : Int32) () _ _ _ _ _ ls hq hC hS (Nat.le_of_ble_eq_true rfl) (Nat.le_of_ble_eq_true rfl) d_M_widens_32
      · have hq := hq.1 c_6
        refine lv_iconst (v := (0 : Int32)) hx hb d_M_widens_15 (by decide) ?_
        exact hE (0 : Int32) () _ _ _ _ _ ls hq hC hS (Nat.le_of_ble_eq_true rfl) (Nat.le_of_ble_eq_true rfl) d_M_widens_16
  · have hq := hq.1 c_8
    refine lv_iconst (v := (1 : Int32)) hx hb d_M_widens_5 (by decide) ?_
    exact hE (1 : Int32) () _ _ _ _ _ ls hq hC hS (Nat.le_of_ble_eq_true rfl) (Nat.le_of_ble_eq_true rfl) d_M_widens_6
def w_M_convert_b43 (M_ : MT) (z1 : Int32) (z2 : Int32) (post : MT → Prop) : Prop := post M_
def w_M_convert_b22 (M_ : MT) (z1 : Int32) (z2 : Int32) (post : MT → Prop) : Prop := (((6 : Int32) ≤ z1) → (w_M_convert_b43 M_ z1 z2 post)) ∧ (¬ ((6 : Int32) ≤ z1) → (((z2 = (7 : Int32)) → (w_M_convert_b43 (ms_realNow M_ (FP.l2d (m_wholeNow M_))) z1 z2 post)) ∧ (¬ (z2 = (7 : Int32)) → (w_M_convert_b43 M_ z1 z2 post))))
def w_M_convert (M : MT) (a1 : Int32) (a2 : Int32) (post : MT → Prop) : Prop := (((6 : Int32) ≤ a1) → (w_M_convert_b22 M a1 a2 post)) ∧ (¬ ((6 : Int32) ≤ a1) → (((a2 = (6 : Int32)) → ((vf_n64 (FP.f2d (FP.l2f (m_wholeNow M)))) ∧ (w_M_convert_b22 (ms_realNow M (FP.f2d (FP.l2f (m_wholeNow M)))) a1 a2 post))) ∧ (¬ (a2 = (6 : Int32)) → (w_M_convert_b22 M a1 a2 post))))
set_option maxHeartbeats 8000000 in
set_option maxRecDepth 100000 in
theorem c_M_convert (l : Launch) (D : va_G) (A : Nat → Prop) (AM : Nat → Nat) (CM : Nat → ClassId) (M : MT) (a1 : Int32) (a2 : Int32) (post : MT → Prop) (hq : w_M_convert M a1 a2 post) : Met l y_M_convert (kw y_M_convert b_M_convert 3 (Option.none : Option Jvm.ClassFile.FieldType)) ({ frames := 0, cells := 0, slots := 0, locals := 0 }) (kP D (tysM CM) A [.ref (AM 0), .int a1, .int a2] (MW D A AM CM M)) (va_Qv post (fun u t => MW D A AM CM u t.heap) A) 0 0 A := by
  refine kmet_v (BB := (fun u H => MW D A AM CM u H)) (lv := [(0, .ref (AM 0)), (1, .int a1), (2, .int a2)]) (by decide +kernel) rfl (Nat.le_of_ble_eq_true rfl) ?_
  intro p e s m args below meth c Q ls X hin hC hl hE
  have hx := X.x
  have hb := X.b
  have hS : va_S A s.heap s.heap [] := va_S.rf
  have J43 : ∀ (M_ : MT) (z1 : Int32) (z2 : Int32) (H : Heap) (locs : List Loc) (ls : Array Slot), w_M_convert_b43 M_ z1 z2 post → MW D A AM CM M_ H → va_S A s.heap H locs → lv_has ls 3 [(0, .ref (AM 0)), (1, .int z1), (2, .int z2)] → W p l e ({ frames := 0, cells := 0, slots := 0, locals := 0 }) s m args below meth c H locs 0 0 Q (F0 m 43 ls []) := by
    intro M_ z1 z2 H locs ls hq hC hS hl
    unfold w_M_convert_b43 at hq
    exact hE M_ _ _ _ _ _ ls hq hC hS (Nat.le_of_ble_eq_true rfl) (Nat.le_of_ble_eq_true rfl) d_M_convert_43
  have J22 : ∀ (M_ : MT) (z1 : Int32) (z2 : Int32) (H : Heap) (locs : List Loc) (ls : Array Slot), w_M_convert_b22 M_ z1 z2 post → MW D A AM CM M_ H → va_S A s.heap H locs → lv_has ls 3 [(0, .ref (AM 0)), (1, .int z1), (2, .int z2)] → W p l e ({ frames := 0, cells := 0, slots := 0, locals := 0 }) s m args below meth c H locs 0 0 Q (F0 m 22 ls []) := by
    intro M_ z1 z2 H locs ls hq hC hS hl
    unfold w_M_convert_b22 at hq
    refine lv_iload_n hx hb d_M_convert_22 rfl (lv_at hl 1 rfl) ?_
    refine lv_bipush (v := (6 : Int32)) hx hb d_M_convert_23 (by decide) ?_
    refine lv_icmp_ge (tgt := 43) hx hb d_M_convert_25 (by decide) (fun c_2 => ?_) (fun c_2 => ?_)
    · have hq := hq.1 c_2
      exact J43 M_ z1 z2 _ _ ls hq hC hS (lv_sub hl [0, 1, 2] rfl)
    · have hq := hq.2 c_2
      refine lv_iload_n hx hb d_M_convert_28 rfl (lv_at hl 2 rfl) ?_
      refine lv_bipush (v := (7 : Int32)) hx hb d_M_convert_29 (by decide) ?_
      refine lv_icmp_ne (tgt := 43) hx hb d_M_convert_31 (by decide) (fun c_1 => ?_) (fun c_1 => ?_)
      · have hq := hq.2 c_1
        exact J43 M_ z1 z2 _ _ ls hq hC hS (lv_sub hl [0, 1, 2] rfl)
      · have hq := hq.1 c_1
        refine lv_aload_n hx hb d_M_convert_34 rfl (lv_at hl 0 rfl) ?_
        refine lv_aload_n hx hb d_M_convert_35 rfl (lv_at hl 0 rfl) ?_
        refine mg_wholeNow X hC d_M_convert_36 ?_
        refine lv_l2d hx hb d_M_convert_39 ?_
        refine mp_realNow X hC hS d_M_convert_40 (fun H locs hC hS => ?_)
        exact J43 (ms_realNow M_ (FP.l2d (m_wholeNow M_))) z1 z2 _ _ ls hq hC hS (lv_sub hl [0, 1, 2] rfl)
  unfold w_M_convert at hq
  refine lv_iload_n hx hb d_M_convert_0 rfl (lv_at hl 1 rfl) ?_
  refine lv_bipush (v := (6 : Int32)) hx hb d_M_convert_1 (by decide) ?_
  refine lv_icmp_ge (tgt := 22) hx hb d_M_convert_3 (by decide) (fun c_4 => ?_) (fun c_4 => ?_)
  · have hq := hq.1 c_4
    exact J22 M a1 a2 _ _ ls hq hC hS (lv_sub hl [0, 1, 2] rfl)
  · have hq := hq.2 c_4
    refine lv_iload_n hx hb d_M_convert_6 rfl (lv_at hl 2 rfl) ?_
    refine lv_bipush (v := (6 : Int32)) hx hb d_M_convert_7 (by decide) ?_
    refine lv_icmp_ne (tgt := 22) hx hb d_M_convert_9 (by decide) (fun c_3 => ?_) (fun c_3 => ?_)
    · have hq := hq.2 c_3
      exact J22 M a1 a2 _ _ ls hq hC hS (lv_sub hl [0, 1, 2] rfl)
    · have hq := hq.1 c_3
      refine lv_aload_n hx hb d_M_convert_12 rfl (lv_at hl 0 rfl) ?_
      refine lv_aload_n hx hb d_M_convert_13 rfl (lv_at hl 0 rfl) ?_
      refine mg_wholeNow X hC d_M_convert_14 ?_
      refine lv_l2f hx hb d_M_convert_17 ?_
      have hs_ := hq.1
      have hq := hq.2
      refine lv_f2d hx hb d_M_convert_18 hs_ ?_
      refine mp_realNow X hC hS d_M_convert_19 (fun H locs hC hS => ?_)
      exact J22 (ms_realNow M (FP.f2d (FP.l2f (m_wholeNow M)))) a1 a2 _ _ ls hq hC hS (lv_sub hl [0, 1, 2] rfl)
def w_M_told (M : MT) (a1 : Int32) (post : Int64 → Prop) : Prop := (((6 : Int32) ≤ a1) → ((vf_n64 (FP.dmul (m_realNow M) (4620693217682128896 : UInt64))) ∧ (post (FP.d2l (FP.dmul (m_realNow M) (4620693217682128896 : UInt64)))))) ∧ (¬ ((6 : Int32) ≤ a1) → (post (m_wholeNow M)))
set_option maxHeartbeats 8000000 in
set_option maxRecDepth 100000 in
theorem c_M_told (l : Launch) (D : va_G) (A : Nat → Prop) (AM : Nat → Nat) (CM : Nat → ClassId) (M : MT) (a1 : Int32) (post : Int64 → Prop) (hq : w_M_told M a1 post) : Met l y_M_told (kw y_M_told b_M_told 2 (Option.some Jvm.ClassFile.FieldType.long)) ({ frames := 0, cells := 0, slots := 0, locals := 0 }) (kP D (tysM CM) A [.ref (AM 0), .int a1] (MW D A AM CM M)) (va_Ql (fun r (_ : Unit) => post r) (fun _ t => MW D A AM CM M t.heap) A) 0 0 A := by
  refine kmet_l (BB := (fun (_ : Unit) H => MW D A AM CM M H)) (lv := [(0, .ref (AM 0)), (1, .int a1)]) (by decide +kernel) rfl (Nat.le_of_ble_eq_true rfl) ?_
  intro p e s m args below meth c Q ls X hin hC hl hE
  have hx := X.x
  have hb := X.b
  have hS : va_S A s.heap s.heap [] := va_S.rf
  unfold w_M_told at hq
  refine lv_iload_n hx hb d_M_told_0 rfl (lv_at hl 1 rfl) ?_
  refine lv_bipush (v := (6 : Int32)) hx hb d_M_told_1 (by decide) ?_
  refine lv_icmp_ge (tgt := 13) hx hb d_M_told_3 (by decide) (fun c_1 => ?_) (fun c_1 => ?_)
  · have hq := hq.1 c_1
    refine lv_aload_n hx hb d_M_told_13 rfl (lv_at hl 0 rfl) ?_
    refine mg_realNow X hC d_M_told_14 ?_
    refine lv_ldc2d hx hb X.o (X.t _ wd_480) d_M_told_17 ?_
    have hs_ := hq.1
    have hq := hq.2
    refine lv_dmul hx hb d_M_told_20 hs_ ?_
    refine lv_d2l hx hb d_M_told_21 ?_
    exact hE (FP.d2l (FP.dmul (m_realNow M) (4620693217682128896 : UInt64))) () _ _ _ _ _ ls hq hC hS (Nat.le_of_ble_eq_true rfl) (Nat.le_of_ble_eq_true rfl) d_M_told_22
  · have hq := hq.2 c_1
    refine lv_aload_n hx hb d_M_told_6 rfl (lv_at hl 0 rfl) ?_
    refine mg_wholeNow X hC d_M_told_7 ?_
    refine lv_goto (tgt := 22) hx hb d_M_told_10 (by decide) ?_
    exact hE (m_wholeNow M) () _ _ _ _ _ ls hq hC hS (Nat.le_of_ble_eq_true rfl) (Nat.le_of_ble_eq_true rfl) d_M_told_22
def w_M_box (M : MT) (a1 : Int32) (post : Int32 → MT → Prop) : Prop := w_M_create M (a1 + (1 : Int32)) (fun r4_1 K4_1 => (vp_in r4_1 520) ∧ ((vp_in r4_1 520) ∧ (post r4_1 (ms_real (ms_whole K4_1 (r4_1).toNatClampNeg (m_wholeNow K4_1)) (r4_1).toNatClampNeg (m_realNow (ms_whole K4_1 (r4_1).toNatClampNeg (m_wholeNow K4_1)))))))
set_option maxHeartbeats 8000000 in
set_option maxRecDepth 100000 in
theorem c_M_box (l : Launch) (D : va_G) (A : Nat → Prop) (AM : Nat → Nat) (CM : Nat → ClassId) (M : MT) (a1 : Int32) (post : Int32 → MT → Prop) (hq : w_M_box M a1 post) : Met l y_M_box (kw y_M_box b_M_box 3 (Option.some Jvm.ClassFile.FieldType.int)) ({ frames := 1, cells := 0, slots := 0, locals := 21 }) (kP D (tysM CM) A [.ref (AM 0), .int a1] (MW D A AM CM M)) (va_Qi post (fun u t => MW D A AM CM u t.heap) A) 0 0 A := by
  refine kmet_i (BB := (fun u H => MW D A AM CM u H)) (lv := [(0, .ref (AM 0)), (1, .int a1)]) (by decide +kernel) rfl (Nat.le_of_ble_eq_true rfl) ?_
  intro p e s m args below meth c Q ls X hin hC hl hE
  have hx := X.x
  have hb := X.b
  have hS : va_S A s.heap s.heap [] := va_S.rf
  unfold w_M_box at hq
  refine lv_aload_n hx hb d_M_box_0 rfl (lv_at hl 0 rfl) ?_
  refine lv_iload_n hx hb d_M_box_1 rfl (lv_at hl 1 rfl) ?_
  refine lv_iconst (v := (1 : Int32)) hx hb d_M_box_2 (by decide) ?_
  refine lv_iadd hx hb d_M_box_3 ?_
  refine kci (BB := fun u H => MW D A AM CM u H) (krV (b := (AM 0)) X hl.1 hS hC (c_M_create l D A AM CM M (a1 + (1 : Int32)) _ hq) ki_M_create wd_425 wd_427 ws_M_create (mrecX X hC) ⟨rfl, rfl, Nat.le_of_ble_eq_true rfl, Nat.le_of_ble_eq_true rfl⟩ rfl rfl (Nat.le_of_ble_eq_true rfl) d_M_box_4 ⟨Nat.le_of_ble_eq_true rfl, Nat.le_of_ble_eq_true rfl⟩) hS (fun r4_1 K4_1 H locs hq hC hS => ?_)
  refine lv_istore_n (lv' := [(2, .int r4_1), (0, .ref (AM 0)), (1, .int a1)]) hx hb d_M_box_7 rfl hl (by decide) rfl (fun ls hl => ?_)
  refine lv_aload_n hx hb d_M_box_8 rfl (lv_at hl 1 rfl) ?_
  refine mg_whole X hC d_M_box_9 ?_
  refine lv_iload_n hx hb d_M_box_12 rfl (lv_at hl 0 rfl) ?_
  refine lv_aload_n hx hb d_M_box_13 rfl (lv_at hl 1 rfl) ?_
  refine mg_wholeNow X hC d_M_box_14 ?_
  have hs_ := hq.1
  have hq := hq.2
  refine mt_whole X hC hS hs_ d_M_box_17 (fun H locs hC hS => ?_)
  refine lv_aload_n hx hb d_M_box_18 rfl (lv_at hl 1 rfl) ?_
  refine mg_real X hC d_M_box_19 ?_
  refine lv_iload_n hx hb d_M_box_22 rfl (lv_at hl 0 rfl) ?_
  refine lv_aload_n hx hb d_M_box_23 rfl (lv_at hl 1 rfl) ?_
  refine mg_realNow X hC d_M_box_24 ?_
  have hs_ := hq.1
  have hq := hq.2
  refine mt_real X hC hS hs_ d_M_box_27 (fun H locs hC hS => ?_)
  refine lv_iload_n hx hb d_M_box_28 rfl (lv_at hl 0 rfl) ?_
  exact hE r4_1 (ms_real (ms_whole K4_1 (r4_1).toNatClampNeg (m_wholeNow K4_1)) (r4_1).toNatClampNeg (m_realNow (ms_whole K4_1 (r4_1).toNatClampNeg (m_wholeNow K4_1)))) _ _ _ _ _ ls hq hC hS (Nat.le_of_ble_eq_true rfl) (Nat.le_of_ble_eq_true rfl) d_M_box_29
def w_M_unboxes (M : MT) (a1 : Int32) (a2 : Int32) (post : Int32 → MT → Prop) : Prop := w_M_isBox M a1 (fun r2_1 => ((r2_1 = (0 : Int32)) → (z01 (0 : Int32) ∧ post (0 : Int32) M)) ∧ (¬ (r2_1 = (0 : Int32)) → ((vp_in a1 520) ∧ (w_M_widens ((m_sort M (a1).toNatClampNeg) - (1 : Int32)) a2 (fun r17_2 => ((r17_2 = (0 : Int32)) → (z01 (0 : Int32) ∧ post (0 : Int32) M)) ∧ (¬ (r17_2 = (0 : Int32)) → ((vp_in a1 520) ∧ ((vp_in a1 520) ∧ ((vp_in a1 520) ∧ (w_M_convert (ms_realNow (ms_wholeNow M (m_whole M (a1).toNatClampNeg)) (m_real (ms_wholeNow M (m_whole M (a1).toNatClampNeg)) (a1).toNatClampNeg)) ((m_sort (ms_realNow (ms_wholeNow M (m_whole M (a1).toNatClampNeg)) (m_real (ms_wholeNow M (m_whole M (a1).toNatClampNeg)) (a1).toNatClampNeg)) (a1).toNatClampNeg) - (1 : Int32)) a2 (fun K55_3 => z01 (1 : Int32) ∧ post (1 : Int32) K55_3)))))))))))
set_option maxHeartbeats 8000000 in
set_option maxRecDepth 100000 in
theorem c_M_unboxes (l : Launch) (D : va_G) (A : Nat → Prop) (AM : Nat → Nat) (CM : Nat → ClassId) (M : MT) (a1 : Int32) (a2 : Int32) (post : Int32 → MT → Prop) (hq : w_M_unboxes M a1 a2 post) : Met l y_M_unboxes (kw y_M_unboxes b_M_unboxes 3 (Option.some Jvm.ClassFile.FieldType.boolean)) ({ frames := 2, cells := 0, slots := 0, locals := 43 }) (kP D (tysM CM) A [.ref (AM 0), .int a1, .int a2] (MW D A AM CM M)) (va_Qi post (fun u t => MW D A AM CM u t.heap) A) 0 0 A := by
  refine kmet_z (BB := (fun u H => MW D A AM CM u H)) (lv := [(0, .ref (AM 0)), (1, .int a1), (2, .int a2)]) (by decide +kernel) rfl (Nat.le_of_ble_eq_true rfl) ?_
  intro p e s m args below meth c Q ls X hin hC hl hE
  have hx := X.x
  have hb := X.b
  have hS : va_S A s.heap s.heap [] := va_S.rf
  unfold w_M_unboxes at hq
  refine lv_aload_n hx hb d_M_unboxes_0 rfl (lv_at hl 0 rfl) ?_
  refine lv_iload_n hx hb d_M_unboxes_1 rfl (lv_at hl 1 rfl) ?_
  refine kci (BB := fun (_ : Unit) H => MW D A AM CM M H) (krV (b := (AM 0)) X hl.1 hS hC (c_M_isBox l D A AM CM M a1 _ hq) ki_M_isBox wd_497 wd_499 ws_M_isBox (mrecX X hC) ⟨rfl, rfl, Nat.le_of_ble_eq_true rfl, Nat.le_of_ble_eq_true rfl⟩ rfl rfl (Nat.le_of_ble_eq_true rfl) d_M_unboxes_2 ⟨Nat.le_of_ble_eq_true rfl, Nat.le_of_ble_eq_true rfl⟩) hS (fun r2_1 _u H locs hq hC hS => ?_)
  refine lv_if_eq (tgt := 23) hx hb d_M_unboxes_5 (by decide) (fun c_5 => ?_) (fun c_5 => ?_)
  · have hq := hq.1 c_5
    refine lv_iconst (v := (0 : Int32)) hx hb d_M_unboxes_23 (by decide) ?_
    exact hE (0 : Int32) M _ _ _ _ _ ls hq hC hS (Nat.le_of_ble_eq_true rfl) (Nat.le_of_ble_eq_true rfl) d_M_unboxes_24
  · have hq := hq.2 c_5
    refine lv_aload_n hx hb d_M_unboxes_8 rfl (lv_at hl 0 rfl) ?_
    refine mg_sort X hC d_M_unboxes_9 ?_
    refine lv_iload_n hx hb d_M_unboxes_12 rfl (lv_at hl 1 rfl) ?_
    have hs_ := hq.1
    have hq := hq.2
    refine ml_sort X hC hs_ d_M_unboxes_13 ?_
    refine lv_iconst (v := (1 : Int32)) hx hb d_M_unboxes_14 (by decide) ?_
    refine lv_isub hx hb d_M_unboxes_15 ?_
    refine lv_iload_n hx hb d_M_unboxes_16 rfl (lv_at hl 2 rfl) ?_
    refine kci (BB := fun (_ : Unit) H => MW D A AM CM M H) (krS X hl.1 hS hC (c_M_widens l D (tysM CM) A _ ((m_sort M (a1).toNatClampNeg) - (1 : Int32)) a2 _ hq) ki_M_widens wd_469 wd_470 ⟨rfl, rfl, Nat.le_of_ble_eq_true rfl, Nat.le_of_ble_eq_true rfl⟩ rfl rfl (Nat.le_of_ble_eq_true rfl) d_M_unboxes_17 ⟨Nat.le_of_ble_eq_true rfl, Nat.le_of_ble_eq_true rfl⟩) hS (fun r17_2 _u H locs hq hC hS => ?_)
    refine lv_if_ne (tgt := 25) hx hb d_M_unboxes_20 (by decide) (fun c_4 => ?_) (fun c_4 => ?_)
    · have hq := hq.2 c_4
      refine lv_aload_n hx hb d_M_unboxes_25 rfl (lv_at hl 0 rfl) ?_
      refine lv_aload_n hx hb d_M_unboxes_26 rfl (lv_at hl 0 rfl) ?_
      refine mg_whole X hC d_M_unboxes_27 ?_
      refine lv_iload_n hx hb d_M_unboxes_30 rfl (lv_at hl 1 rfl) ?_
      have hs_ := hq.1
      have hq := hq.2
      refine ml_whole X hC hs_ d_M_unboxes_31 ?_
      refine mp_wholeNow X hC hS d_M_unboxes_32 (fun H locs hC hS => ?_)
      refine lv_aload_n hx hb d_M_unboxes_35 rfl (lv_at hl 0 rfl) ?_
      refine lv_aload_n hx hb d_M_unboxes_36 rfl (lv_at hl 0 rfl) ?_
      refine mg_real X hC d_M_unboxes_37 ?_
      refine lv_iload_n hx hb d_M_unboxes_40 rfl (lv_at hl 1 rfl) ?_
      have hs_ := hq.1
      have hq := hq.2
      refine ml_real X hC hs_ d_M_unboxes_41 ?_
      refine mp_realNow X hC hS d_M_unboxes_42 (fun H locs hC hS => ?_)
      refine lv_aload_n hx hb d_M_unboxes_45 rfl (lv_at hl 0 rfl) ?_
      refine lv_aload_n hx hb d_M_unboxes_46 rfl (lv_at hl 0 rfl) ?_
      refine mg_sort X hC d_M_unboxes_47 ?_
      refine lv_iload_n hx hb d_M_unboxes_50 rfl (lv_at hl 1 rfl) ?_
      have hs_ := hq.1
      have hq := hq.2
      refine ml_sort X hC hs_ d_M_unboxes_51 ?_
      refine lv_iconst (v := (1 : Int32)) hx hb d_M_unboxes_52 (by decide) ?_
      refine lv_isub hx hb d_M_unboxes_53 ?_
      refine lv_iload_n hx hb d_M_unboxes_54 rfl (lv_at hl 2 rfl) ?_
      refine kcv (BB := fun u H => MW D A AM CM u H) (krV (b := (AM 0)) X hl.1 hS hC (c_M_convert l D A AM CM (ms_realNow (ms_wholeNow M (m_whole M (a1).toNatClampNeg)) (m_real (ms_wholeNow M (m_whole M (a1).toNatClampNeg)) (a1).toNatClampNeg)) ((m_sort (ms_realNow (ms_wholeNow M (m_whole M (a1).toNatClampNeg)) (m_real (ms_wholeNow M (m_whole M (a1).toNatClampNeg)) (a1).toNatClampNeg)) (a1).toNatClampNeg) - (1 : Int32)) a2 _ hq) ki_M_convert wd_472 wd_474 ws_M_convert (mrecX X hC) ⟨rfl, rfl, Nat.le_of_ble_eq_true rfl, Nat.le_of_ble_eq_true rfl⟩ rfl rfl (Nat.le_of_ble_eq_true rfl) d_M_unboxes_55 ⟨Nat.le_of_ble_eq_true rfl, Nat.le_of_ble_eq_true rfl⟩) hS (fun K55_3 H locs hq hC hS => ?_)
      refine lv_iconst (v := (1 : Int32)) hx hb d_M_unboxes_58 (by decide) ?_
      exact hE (1 : Int32) K55_3 _ _ _ _ _ ls hq hC hS (Nat.le_of_ble_eq_true rfl) (Nat.le_of_ble_eq_true rfl) d_M_unboxes_59
    · have hq := hq.1 c_4
      refine lv_iconst (v := (0 : Int32)) hx hb d_M_unboxes_23 (by decide) ?_
      exact hE (0 : Int32) M _ _ _ _ _ ls hq hC hS (Nat.le_of_ble_eq_true rfl) (Nat.le_of_ble_eq_true rfl) d_M_unboxes_24
def w_M_put_b20 (M_ : MT) (z1 : Int32) (z2 : Int32) (z3 : Int64) (post : Int32 → MT → Prop) : Prop := post (-1 : Int32) M_
def w_M_put_b171 (M_ : MT) (z1 : Int32) (z2 : Int32) (z3 : Int64) (post : Int32 → MT → Prop) : Prop := w_M_box M_ z2 (fun r178_3 K178_3 => (vp_in z1 9) ∧ (w_M_tell (ms_held K178_3 (z1).toNatClampNeg r178_3) (0 : Int32) (0 : Int64) (fun r185_4 K185_4 => post r185_4 K185_4)))
def w_M_put_b155 (M_ : MT) (z1 : Int32) (z2 : Int32) (z3 : Int64) (post : Int32 → MT → Prop) : Prop := ((z2 = (7 : Int32)) → ((vf_n64 (FP.dmul (FP.l2d z3) (4593671619917905920 : UInt64))) ∧ (w_M_put_b171 (ms_realNow M_ (FP.dmul (FP.l2d z3) (4593671619917905920 : UInt64))) z1 z2 z3 post))) ∧ (¬ (z2 = (7 : Int32)) → (w_M_put_b171 M_ z1 z2 z3 post))
def w_M_put_b139 (M_ : MT) (z1 : Int32) (z2 : Int32) (z3 : Int64) (post : Int32 → MT → Prop) : Prop := ((z2 = (6 : Int32)) → ((vf_n32 (FP.fmul (FP.l2f z3) (1040187392 : UInt32))) ∧ ((vf_n64 (FP.f2d (FP.fmul (FP.l2f z3) (1040187392 : UInt32)))) ∧ (w_M_put_b155 (ms_realNow M_ (FP.f2d (FP.fmul (FP.l2f z3) (1040187392 : UInt32)))) z1 z2 z3 post)))) ∧ (¬ (z2 = (6 : Int32)) → (w_M_put_b155 M_ z1 z2 z3 post))
def w_M_put_b127 (M_ : MT) (z1 : Int32) (z2 : Int32) (z3 : Int64) (post : Int32 → MT → Prop) : Prop := ((z2 = (4 : Int32)) → (w_M_put_b139 (ms_wholeNow M_ (z3).toInt32.toInt64) z1 z2 z3 post)) ∧ (¬ (z2 = (4 : Int32)) → (w_M_put_b139 M_ z1 z2 z3 post))
def w_M_put_b114 (M_ : MT) (z1 : Int32) (z2 : Int32) (z3 : Int64) (post : Int32 → MT → Prop) : Prop := ((z2 = (3 : Int32)) → (w_M_put_b127 (ms_wholeNow M_ (z3).toInt32.toInt16.toInt32.toInt64) z1 z2 z3 post)) ∧ (¬ (z2 = (3 : Int32)) → (w_M_put_b127 M_ z1 z2 z3 post))
def w_M_put_b100 (M_ : MT) (z1 : Int32) (z2 : Int32) (z3 : Int64) (post : Int32 → MT → Prop) : Prop := ((z2 = (2 : Int32)) → (w_M_put_b114 (ms_wholeNow M_ (z3 &&& (65535 : Int64))) z1 z2 z3 post)) ∧ (¬ (z2 = (2 : Int32)) → (w_M_put_b114 M_ z1 z2 z3 post))
def w_M_put_b87 (M_ : MT) (z1 : Int32) (z2 : Int32) (z3 : Int64) (post : Int32 → MT → Prop) : Prop := ((z2 = (1 : Int32)) → (w_M_put_b100 (ms_wholeNow M_ (z3).toInt32.toInt8.toInt32.toInt64) z1 z2 z3 post)) ∧ (¬ (z2 = (1 : Int32)) → (w_M_put_b100 M_ z1 z2 z3 post))
def w_M_put (M : MT) (a1 : Int32) (a2 : Int32) (a3 : Int64) (post : Int32 → MT → Prop) : Prop := w_M_in a1 (0 : Int32) (7 : Int32) (fun r4_1 => ((r4_1 = (0 : Int32)) → (w_M_put_b20 M a1 a2 a3 post)) ∧ (¬ (r4_1 = (0 : Int32)) → (w_M_in a2 (0 : Int32) (8 : Int32) (fun r14_2 => ((r14_2 = (0 : Int32)) → (w_M_put_b20 M a1 a2 a3 post)) ∧ (¬ (r14_2 = (0 : Int32)) → (((a2 = (8 : Int32)) → (w_M_create M (9 : Int32) (fun r31_12 K31_12 => (¬ (10 : Int64) = (0 : Int64)) ∧ ((¬ (10 : Int64) = (0 : Int64)) ∧ ((vp_in r31_12 520) ∧ ((vp_in a1 9) ∧ (w_M_tell (ms_held (ms_whole K31_12 (r31_12).toNatClampNeg (((a3 - a3 / (10 : Int64) * (10 : Int64)) + (10 : Int64)) - ((a3 - a3 / (10 : Int64) * (10 : Int64)) + (10 : Int64)) / (10 : Int64) * (10 : Int64))) (a1).toNatClampNeg r31_12) (0 : Int32) (0 : Int64) (fun r67_13 K67_13 => post r67_13 K67_13)))))))) ∧ (¬ (a2 = (8 : Int32)) → (((a2 = (0 : Int32)) → (w_M_put_b87 (ms_wholeNow (ms_wholeNow M a3) (a3 &&& (1 : Int64))) a1 a2 a3 post)) ∧ (¬ (a2 = (0 : Int32)) → (w_M_put_b87 (ms_wholeNow M a3) a1 a2 a3 post))))))))))
set_option maxHeartbeats 8000000 in
set_option maxRecDepth 100000 in
theorem c_M_put (l : Launch) (D : va_G) (A : Nat → Prop) (AM : Nat → Nat) (CM : Nat → ClassId) (M : MT) (a1 : Int32) (a2 : Int32) (a3 : Int64) (post : Int32 → MT → Prop) (hq : w_M_put M a1 a2 a3 post) : Met l y_M_put (kw y_M_put b_M_put 6 (Option.some Jvm.ClassFile.FieldType.int)) ({ frames := 2, cells := 0, slots := 0, locals := 43 }) (kP D (tysM CM) A [.ref (AM 0), .int a1, .int a2, .long a3] (MW D A AM CM M)) (va_Qi post (fun u t => MW D A AM CM u t.heap) A) 0 0 A := by
  refine kmet_i (BB := (fun u H => MW D A AM CM u H)) (lv := [(0, .ref (AM 0)), (1, .int a1), (2, .int a2), (3, .long a3)]) (by decide +kernel) rfl (Nat.le_of_ble_eq_true rfl) ?_
  intro p e s m args below meth c Q ls X hin hC hl hE
  have hx := X.x
  have hb := X.b
  have hS : va_S A s.heap s.heap [] := va_S.rf
  have J20 : ∀ (M_ : MT) (z1 : Int32) (z2 : Int32) (z3 : Int64) (H : Heap) (locs : List Loc) (ls : Array Slot), w_M_put_b20 M_ z1 z2 z3 post → MW D A AM CM M_ H → va_S A s.heap H locs → lv_has ls 6 [(0, .ref (AM 0)), (1, .int z1), (2, .int z2), (3, .long z3)] → W p l e ({ frames := 2, cells := 0, slots := 0, locals := 43 }) s m args below meth c H locs 0 0 Q (F0 m 20 ls []) := by
    intro M_ z1 z2 z3 H locs ls hq hC hS hl
    unfold w_M_put_b20 at hq
    refine lv_iconst (v := (-1 : Int32)) hx hb d_M_put_20 (by decide) ?_
    exact hE (-1 : Int32) M_ _ _ _ _ _ ls hq hC hS (Nat.le_of_ble_eq_true rfl) (Nat.le_of_ble_eq_true rfl) d_M_put_21
  have J171 : ∀ (M_ : MT) (z1 : Int32) (z2 : Int32) (z3 : Int64) (H : Heap) (locs : List Loc) (ls : Array Slot), w_M_put_b171 M_ z1 z2 z3 post → MW D A AM CM M_ H → va_S A s.heap H locs → lv_has ls 6 [(0, .ref (AM 0)), (1, .int z1), (2, .int z2), (3, .long z3)] → W p l e ({ frames := 2, cells := 0, slots := 0, locals := 43 }) s m args below meth c H locs 0 0 Q (F0 m 171 ls []) := by
    intro M_ z1 z2 z3 H locs ls hq hC hS hl
    unfold w_M_put_b171 at hq
    refine lv_aload_n hx hb d_M_put_171 rfl (lv_at hl 0 rfl) ?_
    refine mg_held X hC d_M_put_172 ?_
    refine lv_iload_n hx hb d_M_put_175 rfl (lv_at hl 1 rfl) ?_
    refine lv_aload_n hx hb d_M_put_176 rfl (lv_at hl 0 rfl) ?_
    refine lv_iload_n hx hb d_M_put_177 rfl (lv_at hl 2 rfl) ?_
    refine kci (BB := fun u H => MW D A AM CM u H) (krV (b := (AM 0)) X hl.1 hS hC (c_M_box l D A AM CM M_ z2 _ hq) ki_M_box wd_437 wd_439 ws_M_box (mrecX X hC) ⟨rfl, rfl, Nat.le_of_ble_eq_true rfl, Nat.le_of_ble_eq_true rfl⟩ rfl rfl (Nat.le_of_ble_eq_true rfl) d_M_put_178 ⟨Nat.le_of_ble_eq_true rfl, Nat.le_of_ble_eq_true rfl⟩) hS (fun r178_3 K178_3 H locs hq hC hS => ?_)
    have hs_ := hq.1
    have hq := hq.2
    refine mt_held X hC hS hs_ d_M_put_181 (fun H locs hC hS => ?_)
    refine lv_aload_n hx hb d_M_put_182 rfl (lv_at hl 0 rfl) ?_
    refine lv_iconst (v := (0 : Int32)) hx hb d_M_put_183 (by decide) ?_
    refine lv_lconst (v := (0 : Int64)) hx hb d_M_put_184 (by decide) ?_
    refine kci (BB := fun u H => MW D A AM CM u H) (krV (b := (AM 0)) X hl.1 hS hC (c_M_tell l D A AM CM (ms_held K178_3 (z1).toNatClampNeg r178_3) (0 : Int32) (0 : Int64) _ hq) ki_M_tell wd_430 wd_432 ws_M_tell (mrecX X hC) ⟨rfl, rfl, Nat.le_of_ble_eq_true rfl, Nat.le_of_ble_eq_true rfl⟩ rfl rfl (Nat.le_of_ble_eq_true rfl) d_M_put_185 ⟨Nat.le_of_ble_eq_true rfl, Nat.le_of_ble_eq_true rfl⟩) hS (fun r185_4 K185_4 H locs hq hC hS => ?_)
    exact hE r185_4 K185_4 _ _ _ _ _ ls hq hC hS (Nat.le_of_ble_eq_true rfl) (Nat.le_of_ble_eq_true rfl) d_M_put_188
  have J155 : ∀ (M_ : MT) (z1 : Int32) (z2 : Int32) (z3 : Int64) (H : Heap) (locs : List Loc) (ls : Array Slot), w_M_put_b155 M_ z1 z2 z3 post → MW D A AM CM M_ H → va_S A s.heap H locs → lv_has ls 6 [(0, .ref (AM 0)), (1, .int z1), (2, .int z2), (3, .long z3)] → W p l e ({ frames := 2, cells := 0, slots := 0, locals := 43 }) s m args below meth c H locs 0 0 Q (F0 m 155 ls []) := by
    intro M_ z1 z2 z3 H locs ls hq hC hS hl
    unfold w_M_put_b155 at hq
    refine lv_iload_n hx hb d_M_put_155 rfl (lv_at hl 2 rfl) ?_
    refine lv_bipush (v := (7 : Int32)) hx hb d_M_put_156 (by decide) ?_
    refine lv_icmp_ne (tgt := 171) hx hb d_M_put_158 (by decide) (fun c_5 => ?_) (fun c_5 => ?_)
    · have hq := hq.2 c_5
      exact J171 M_ z1 z2 z3 _ _ ls hq hC hS (lv_sub hl [0, 1, 2, 3] rfl)
    · have hq := hq.1 c_5
      refine lv_aload_n hx hb d_M_put_161 rfl (lv_at hl 0 rfl) ?_
      refine lv_lload_n hx hb d_M_put_162 rfl (lv_at hl 3 rfl) ?_
      refine lv_l2d hx hb d_M_put_163 ?_
      refine lv_ldc2d hx hb X.o (X.t _ wd_436) d_M_put_164 ?_
      have hs_ := hq.1
      have hq := hq.2
      refine lv_dmul hx hb d_M_put_167 hs_ ?_
      refine mp_realNow X hC hS d_M_put_168 (fun H locs hC hS => ?_)
      exact J171 (ms_realNow M_ (FP.dmul (FP.l2d z3) (4593671619917905920 : UInt64))) z1 z2 z3 _ _ ls hq hC hS (lv_sub hl [0, 1, 2, 3] rfl)
  have J139 : ∀ (M_ : MT) (z1 : Int32) (z2 : Int32) (z3 : Int64) (H : Heap) (locs : List Loc) (ls : Array Slot), w_M_put_b139 M_ z1 z2 z3 post → MW D A AM CM M_ H → va_S A s.heap H locs → lv_has ls 6 [(0, .ref (AM 0)), (1, .int z1), (2, .int z2), (3, .long z3)] → W p l e ({ frames := 2, cells := 0, slots := 0, locals := 43 }) s m args below meth c H locs 0 0 Q (F0 m 139 ls []) := by
    intro M_ z1 z2 z3 H locs ls hq hC hS hl
    unfold w_M_put_b139 at hq
    refine lv_iload_n hx hb d_M_put_139 rfl (lv_at hl 2 rfl) ?_
    refine lv_bipush (v := (6 : Int32)) hx hb d_M_put_140 (by decide) ?_
    refine lv_icmp_ne (tgt := 155) hx hb d_M_put_142 (by decide) (fun c_6 => ?_) (fun c_6 => ?_)
    · have hq := hq.2 c_6
      exact J155 M_ z1 z2 z3 _ _ ls hq hC hS (lv_sub hl [0, 1, 2, 3] rfl)
    · have hq := hq.1 c_6
      refine lv_aload_n hx hb d_M_put_145 rfl (lv_at hl 0 rfl) ?_
      refine lv_lload_n hx hb d_M_put_146 rfl (lv_at hl 3 rfl) ?_
      refine lv_l2f hx hb d_M_put_147 ?_
      refine lv_ldcf hx hb X.o (X.t _ wd_435) d_M_put_148 ?_
      have hs_ := hq.1
      have hq := hq.2
      refine lv_fmul hx hb d_M_put_150 hs_ ?_
      have hs_ := hq.1
      have hq := hq.2
      refine lv_f2d hx hb d_M_put_151 hs_ ?_
      refine mp_realNow X hC hS d_M_put_152 (fun H locs hC hS => ?_)
      exact J155 (ms_realNow M_ (FP.f2d (FP.fmul (FP.l2f z3) (1040187392 : UInt32)))) z1 z2 z3 _ _ ls hq hC hS (lv_sub hl [0, 1, 2, 3] rfl)
  have J127 : ∀ (M_ : MT) (z1 : Int32) (z2 : Int32) (z3 : Int64) (H : Heap) (locs : List Loc) (ls : Array Slot), w_M_put_b127 M_ z1 z2 z3 post → MW D A AM CM M_ H → va_S A s.heap H locs → lv_has ls 6 [(0, .ref (AM 0)), (1, .int z1), (2, .int z2), (3, .long z3)] → W p l e ({ frames := 2, cells := 0, slots := 0, locals := 43 }) s m args below meth c H locs 0 0 Q (F0 m 127 ls []) := by
    intro M_ z1 z2 z3 H locs ls hq hC hS hl
    unfold w_M_put_b127 at hq
    refine lv_iload_n hx hb d_M_put_127 rfl (lv_at hl 2 rfl) ?_
    refine lv_iconst (v := (4 : Int32)) hx hb d_M_put_128 (by decide) ?_
    refine lv_icmp_ne (tgt := 139) hx hb d_M_put_129 (by decide) (fun c_7 => ?_) (fun c_7 => ?_)
    · have hq := hq.2 c_7
      exact J139 M_ z1 z2 z3 _ _ ls hq hC hS (lv_sub hl [0, 1, 2, 3] rfl)
    · have hq := hq.1 c_7
      refine lv_aload_n hx hb d_M_put_132 rfl (lv_at hl 0 rfl) ?_
      refine lv_lload_n hx hb d_M_put_133 rfl (lv_at hl 3 rfl) ?_
      refine lv_l2i hx hb d_M_put_134 rfl ?_
      refine lv_i2l hx hb d_M_put_135 rfl ?_
      refine mp_wholeNow X hC hS d_M_put_136 (fun H locs hC hS => ?_)
      exact J139 (ms_wholeNow M_ (z3).toInt32.toInt64) z1 z2 z3 _ _ ls hq hC hS (lv_sub hl [0, 1, 2, 3] rfl)
  have J114 : ∀ (M_ : MT) (z1 : Int32) (z2 : Int32) (z3 : Int64) (H : Heap) (locs : List Loc) (ls : Array Slot), w_M_put_b114 M_ z1 z2 z3 post → MW D A AM CM M_ H → va_S A s.heap H locs → lv_has ls 6 [(0, .ref (AM 0)), (1, .int z1), (2, .int z2), (3, .long z3)] → W p l e ({ frames := 2, cells := 0, slots := 0, locals := 43 }) s m args below meth c H locs 0 0 Q (F0 m 114 ls []) := by
    intro M_ z1 z2 z3 H locs ls hq hC hS hl
    unfold w_M_put_b114 at hq
    refine lv_iload_n hx hb d_M_put_114 rfl (lv_at hl 2 rfl) ?_
    refine lv_iconst (v := (3 : Int32)) hx hb d_M_put_115 (by decide) ?_
    refine lv_icmp_ne (tgt := 127) hx hb d_M_put_116 (by decide) (fun c_8 => ?_) (fun c_8 => ?_)
    · have hq := hq.2 c_8
      exact J127 M_ z1 z2 z3 _ _ ls hq hC hS (lv_sub hl [0, 1, 2, 3] rfl)
    · have hq := hq.1 c_8
      refine lv_aload_n hx hb d_M_put_119 rfl (lv_at hl 0 rfl) ?_
      refine lv_lload_n hx hb d_M_put_120 rfl (lv_at hl 3 rfl) ?_
      refine lv_l2i hx hb d_M_put_121 rfl ?_
      refine lv_i2s hx hb d_M_put_122 rfl ?_
      refine lv_i2l hx hb d_M_put_123 rfl ?_
      refine mp_wholeNow X hC hS d_M_put_124 (fun H locs hC hS => ?_)
      exact J127 (ms_wholeNow M_ (z3).toInt32.toInt16.toInt32.toInt64) z1 z2 z3 _ _ ls hq hC hS (lv_sub hl [0, 1, 2, 3] rfl)
  have J100 : ∀ (M_ : MT) (z1 : Int32) (z2 : Int32) (z3 : Int64) (H : Heap) (locs : List Loc) (ls : Array Slot), w_M_put_b100 M_ z1 z2 z3 post → MW D A AM CM M_ H → va_S A s.heap H locs → lv_has ls 6 [(0, .ref (AM 0)), (1, .int z1), (2, .int z2), (3, .long z3)] → W p l e ({ frames := 2, cells := 0, slots := 0, locals := 43 }) s m args below meth c H locs 0 0 Q (F0 m 100 ls []) := by
    intro M_ z1 z2 z3 H locs ls hq hC hS hl
    unfold w_M_put_b100 at hq
    refine lv_iload_n hx hb d_M_put_100 rfl (lv_at hl 2 rfl) ?_
    refine lv_iconst (v := (2 : Int32)) hx hb d_M_put_101 (by decide) ?_
    refine lv_icmp_ne (tgt := 114) hx hb d_M_put_102 (by decide) (fun c_9 => ?_) (fun c_9 => ?_)
    · have hq := hq.2 c_9
      exact J114 M_ z1 z2 z3 _ _ ls hq hC hS (lv_sub hl [0, 1, 2, 3] rfl)
    · have hq := hq.1 c_9
      refine lv_aload_n hx hb d_M_put_105 rfl (lv_at hl 0 rfl) ?_
      refine lv_lload_n hx hb d_M_put_106 rfl (lv_at hl 3 rfl) ?_
      refine lv_ldc2 hx hb X.o (X.t _ wd_434) d_M_put_107 ?_
      refine lv_land hx hb d_M_put_110 ?_
      refine mp_wholeNow X hC hS d_M_put_111 (fun H locs hC hS => ?_)
      exact J114 (ms_wholeNow M_ (z3 &&& (65535 : Int64))) z1 z2 z3 _ _ ls hq hC hS (lv_sub hl [0, 1, 2, 3] rfl)
  have J87 : ∀ (M_ : MT) (z1 : Int32) (z2 : Int32) (z3 : Int64) (H : Heap) (locs : List Loc) (ls : Array Slot), w_M_put_b87 M_ z1 z2 z3 post → MW D A AM CM M_ H → va_S A s.heap H locs → lv_has ls 6 [(0, .ref (AM 0)), (1, .int z1), (2, .int z2), (3, .long z3)] → W p l e ({ frames := 2, cells := 0, slots := 0, locals := 43 }) s m args below meth c H locs 0 0 Q (F0 m 87 ls []) := by
    intro M_ z1 z2 z3 H locs ls hq hC hS hl
    unfold w_M_put_b87 at hq
    refine lv_iload_n hx hb d_M_put_87 rfl (lv_at hl 2 rfl) ?_
    refine lv_iconst (v := (1 : Int32)) hx hb d_M_put_88 (by decide) ?_
    refine lv_icmp_ne (tgt := 100) hx hb d_M_put_89 (by decide) (fun c_10 => ?_) (fun c_10 => ?_)
    · have hq := hq.2 c_10
      exact J100 M_ z1 z2 z3 _ _ ls hq hC hS (lv_sub hl [0, 1, 2, 3] rfl)
    · have hq := hq.1 c_10
      refine lv_aload_n hx hb d_M_put_92 rfl (lv_at hl 0 rfl) ?_
      refine lv_lload_n hx hb d_M_put_93 rfl (lv_at hl 3 rfl) ?_
      refine lv_l2i hx hb d_M_put_94 rfl ?_
      refine lv_i2b hx hb d_M_put_95 rfl ?_
      refine lv_i2l hx hb d_M_put_96 rfl ?_
      refine mp_wholeNow X hC hS d_M_put_97 (fun H locs hC hS => ?_)
      exact J100 (ms_wholeNow M_ (z3).toInt32.toInt8.toInt32.toInt64) z1 z2 z3 _ _ ls hq hC hS (lv_sub hl [0, 1, 2, 3] rfl)
  unfold w_M_put at hq
  refine lv_iload_n hx hb d_M_put_0 rfl (lv_at hl 1 rfl) ?_
  refine lv_iconst (v := (0 : Int32)) hx hb d_M_put_1 (by decide) ?_
  refine lv_bipush (v := (7 : Int32)) hx hb d_M_put_2 (by decide) ?_
  refine kci (BB := fun (_ : Unit) H => MW D A AM CM M H) (krS X hl.1 hS hC (c_M_in l D (tysM CM) A _ a1 (0 : Int32) (7 : Int32) _ hq) ki_M_in wd_422 wd_423 ⟨rfl, rfl, Nat.le_of_ble_eq_true rfl, Nat.le_of_ble_eq_true rfl⟩ rfl rfl (Nat.le_of_ble_eq_true rfl) d_M_put_4 ⟨Nat.le_of_ble_eq_true rfl, Nat.le_of_ble_eq_true rfl⟩) hS (fun r4_1 _u H locs hq hC hS => ?_)
  refine lv_if_eq (tgt := 20) hx hb d_M_put_7 (by decide) (fun c_16 => ?_) (fun c_16 => ?_)
  · have hq := hq.1 c_16
    exact J20 M a1 a2 a3 _ _ ls hq hC hS (lv_sub hl [0, 1, 2, 3] rfl)
  · have hq := hq.2 c_16
    refine lv_iload_n hx hb d_M_put_10 rfl (lv_at hl 2 rfl) ?_
    refine lv_iconst (v := (0 : Int32)) hx hb d_M_put_11 (by decide) ?_
    refine lv_bipush (v := (8 : Int32)) hx hb d_M_put_12 (by decide) ?_
    refine kci (BB := fun (_ : Unit) H => MW D A AM CM M H) (krS X hl.1 hS hC (c_M_in l D (tysM CM) A _ a2 (0 : Int32) (8 : Int32) _ hq) ki_M_in wd_422 wd_423 ⟨rfl, rfl, Nat.le_of_ble_eq_true rfl, Nat.le_of_ble_eq_true rfl⟩ rfl rfl (Nat.le_of_ble_eq_true rfl) d_M_put_14 ⟨Nat.le_of_ble_eq_true rfl, Nat.le_of_ble_eq_true rfl⟩) hS (fun r14_2 _u H locs hq hC hS => ?_)
    refine lv_if_ne (tgt := 22) hx hb d_M_put_17 (by decide) (fun c_15 => ?_) (fun c_15 => ?_)
    · have hq := hq.2 c_15
      refine lv_iload_n hx hb d_M_put_22 rfl (lv_at hl 2 rfl) ?_
      refine lv_bipush (v := (8 : Int32)) hx hb d_M_put_23 (by decide) ?_
      refine lv_icmp_ne (tgt := 71) hx hb d_M_put_25 (by decide) (fun c_14 => ?_) (fun c_14 => ?_)
      · have hq := hq.2 c_14
        refine lv_aload_n hx hb d_M_put_71 rfl (lv_at hl 0 rfl) ?_
        refine lv_lload_n hx hb d_M_put_72 rfl (lv_at hl 3 rfl) ?_
        refine mp_wholeNow X hC hS d_M_put_73 (fun H locs hC hS => ?_)
        refine lv_iload_n hx hb d_M_put_76 rfl (lv_at hl 2 rfl) ?_
        refine lv_if_ne (tgt := 87) hx hb d_M_put_77 (by decide) (fun c_11 => ?_) (fun c_11 => ?_)
        · have hq := hq.2 c_11
          exact J87 (ms_wholeNow M a3) a1 a2 a3 _ _ ls hq hC hS (lv_sub hl [0, 1, 2, 3] rfl)
        · have hq := hq.1 c_11
          refine lv_aload_n hx hb d_M_put_80 rfl (lv_at hl 0 rfl) ?_
          refine lv_lload_n hx hb d_M_put_81 rfl (lv_at hl 3 rfl) ?_
          refine lv_lconst (v := (1 : Int64)) hx hb d_M_put_82 (by decide) ?_
          refine lv_land hx hb d_M_put_83 ?_
          refine mp_wholeNow X hC hS d_M_put_84 (fun H locs hC hS => ?_)
          exact J87 (ms_wholeNow (ms_wholeNow M a3) (a3 &&& (1 : Int64))) a1 a2 a3 _ _ ls hq hC hS (lv_sub hl [0, 1, 2, 3] rfl)
      · have hq := hq.1 c_14
        refine lv_aload_n hx hb d_M_put_28 rfl (lv_at hl 0 rfl) ?_
        refine lv_bipush (v := (9 : Int32)) hx hb d_M_put_29 (by decide) ?_
        refine kci (BB := fun u H => MW D A AM CM u H) (krV (b := (AM 0)) X hl.1 hS hC (c_M_create l D A AM CM M (9 : Int32) _ hq) ki_M_create wd_425 wd_427 ws_M_create (mrecX X hC) ⟨rfl, rfl, Nat.le_of_ble_eq_true rfl, Nat.le_of_ble_eq_true rfl⟩ rfl rfl (Nat.le_of_ble_eq_true rfl) d_M_put_31 ⟨Nat.le_of_ble_eq_true rfl, Nat.le_of_ble_eq_true rfl⟩) hS (fun r31_12 K31_12 H locs hq hC hS => ?_)
        refine lv_istore (lv' := [(5, .int r31_12), (0, .ref (AM 0)), (1, .int a1), (2, .int a2), (3, .long a3)]) hx hb d_M_put_34 hl (by decide) rfl (fun ls hl => ?_)
        refine lv_aload_n hx hb d_M_put_36 rfl (lv_at hl 1 rfl) ?_
        refine mg_whole X hC d_M_put_37 ?_
        refine lv_iload hx hb d_M_put_40 (lv_at hl 0 rfl) ?_
        refine lv_lload_n hx hb d_M_put_42 rfl (lv_at hl 4 rfl) ?_
        refine lv_ldc2 hx hb X.o (X.t _ wd_429) d_M_put_43 ?_
        have hs_ := hq.1
        have hq := hq.2
        refine lv_lrem hx hb d_M_put_46 hs_ ?_
        refine lv_ldc2 hx hb X.o (X.t _ wd_429) d_M_put_47 ?_
        refine lv_ladd hx hb d_M_put_50 ?_
        refine lv_ldc2 hx hb X.o (X.t _ wd_429) d_M_put_51 ?_
        have hs_ := hq.1
        have hq := hq.2
        refine lv_lrem hx hb d_M_put_54 hs_ ?_
        have hs_ := hq.1
        have hq := hq.2
        refine mt_whole X hC hS hs_ d_M_put_55 (fun H locs hC hS => ?_)
        refine lv_aload_n hx hb d_M_put_56 rfl (lv_at hl 1 rfl) ?_
        refine mg_held X hC d_M_put_57 ?_
        refine lv_iload_n hx hb d_M_put_60 rfl (lv_at hl 2 rfl) ?_
        refine lv_iload hx hb d_M_put_61 (lv_at hl 0 rfl) ?_
        have hs_ := hq.1
        have hq := hq.2
        refine mt_held X hC hS hs_ d_M_put_63 (fun H locs hC hS => ?_)
        refine lv_aload_n hx hb d_M_put_64 rfl (lv_at hl 1 rfl) ?_
        refine lv_iconst (v := (0 : Int32)) hx hb d_M_put_65 (by decide) ?_
        refine lv_lconst (v := (0 : Int64)) hx hb d_M_put_66 (by decide) ?_
        refine kci (BB := fun u H => MW D A AM CM u H) (krV (b := (AM 0)) X hl.1 hS hC (c_M_tell l D A AM CM (ms_held (ms_whole K31_12 (r31_12).toNatClampNeg (((a3 - a3 / (10 : Int64) * (10 : Int64)) + (10 : Int64)) - ((a3 - a3 / (10 : Int64) * (10 : Int64)) + (10 : Int64)) / (10 : Int64) * (10 : Int64))) (a1).toNatClampNeg r31_12) (0 : Int32) (0 : Int64) _ hq) ki_M_tell wd_430 wd_432 ws_M_tell (mrecX X hC) ⟨rfl, rfl, Nat.le_of_ble_eq_true rfl, Nat.le_of_ble_eq_true rfl⟩ rfl rfl (Nat.le_of_ble_eq_true rfl) d_M_put_67 ⟨Nat.le_of_ble_eq_true rfl, Nat.le_of_ble_eq_true rfl⟩) hS (fun r67_13 K67_13 H locs hq hC hS => ?_)
        exact hE r67_13 K67_13 _ _ _ _ _ ls hq hC hS (Nat.le_of_ble_eq_true rfl) (Nat.le_of_ble_eq_true rfl) d_M_put_70
    · have hq := hq.1 c_15
      exact J20 M a1 a2 a3 _ _ ls hq hC hS (lv_sub hl [0, 1, 2, 3] rfl)
def w_M_hold (M : MT) (a1 : Int32) (a2 : Int32) (post : Int32 → MT → Prop) : Prop := w_M_in a1 (0 : Int32) (7 : Int32) (fun r4_1 => ((r4_1 = (0 : Int32)) → (post (-1 : Int32) M)) ∧ (¬ (r4_1 = (0 : Int32)) → (w_M_in a2 (-1 : Int32) (8 : Int32) (fun r14_2 => ((r14_2 = (0 : Int32)) → (post (-1 : Int32) M)) ∧ (¬ (r14_2 = (0 : Int32)) → ((((0 : Int32) ≤ a2) → ((vp_in a2 9) ∧ ((vp_in a1 9) ∧ (w_M_tell (ms_held M (a1).toNatClampNeg (m_held M (a2).toNatClampNeg)) (0 : Int32) (0 : Int64) (fun r45_3 K45_3 => post r45_3 K45_3))))) ∧ (¬ ((0 : Int32) ≤ a2) → ((vp_in a1 9) ∧ (w_M_tell (ms_held M (a1).toNatClampNeg (0 : Int32)) (0 : Int32) (0 : Int64) (fun r45_4 K45_4 => post r45_4 K45_4))))))))))
set_option maxHeartbeats 8000000 in
set_option maxRecDepth 100000 in
theorem c_M_hold (l : Launch) (D : va_G) (A : Nat → Prop) (AM : Nat → Nat) (CM : Nat → ClassId) (M : MT) (a1 : Int32) (a2 : Int32) (post : Int32 → MT → Prop) (hq : w_M_hold M a1 a2 post) : Met l y_M_hold (kw y_M_hold b_M_hold 3 (Option.some Jvm.ClassFile.FieldType.int)) ({ frames := 1, cells := 0, slots := 0, locals := 23 }) (kP D (tysM CM) A [.ref (AM 0), .int a1, .int a2] (MW D A AM CM M)) (va_Qi post (fun u t => MW D A AM CM u t.heap) A) 0 0 A := by
  refine kmet_i (BB := (fun u H => MW D A AM CM u H)) (lv := [(0, .ref (AM 0)), (1, .int a1), (2, .int a2)]) (by decide +kernel) rfl (Nat.le_of_ble_eq_true rfl) ?_
  intro p e s m args below meth c Q ls X hin hC hl hE
  have hx := X.x
  have hb := X.b
  have hS : va_S A s.heap s.heap [] := va_S.rf
  unfold w_M_hold at hq
  refine lv_iload_n hx hb d_M_hold_0 rfl (lv_at hl 1 rfl) ?_
  refine lv_iconst (v := (0 : Int32)) hx hb d_M_hold_1 (by decide) ?_
  refine lv_bipush (v := (7 : Int32)) hx hb d_M_hold_2 (by decide) ?_
  refine kci (BB := fun (_ : Unit) H => MW D A AM CM M H) (krS X hl.1 hS hC (c_M_in l D (tysM CM) A _ a1 (0 : Int32) (7 : Int32) _ hq) ki_M_in wd_422 wd_423 ⟨rfl, rfl, Nat.le_of_ble_eq_true rfl, Nat.le_of_ble_eq_true rfl⟩ rfl rfl (Nat.le_of_ble_eq_true rfl) d_M_hold_4 ⟨Nat.le_of_ble_eq_true rfl, Nat.le_of_ble_eq_true rfl⟩) hS (fun r4_1 _u H locs hq hC hS => ?_)
  refine lv_if_eq (tgt := 20) hx hb d_M_hold_7 (by decide) (fun c_7 => ?_) (fun c_7 => ?_)
  · have hq := hq.1 c_7
    refine lv_iconst (v := (-1 : Int32)) hx hb d_M_hold_20 (by decide) ?_
    exact hE (-1 : Int32) M _ _ _ _ _ ls hq hC hS (Nat.le_of_ble_eq_true rfl) (Nat.le_of_ble_eq_true rfl) d_M_hold_21
  · have hq := hq.2 c_7
    refine lv_iload_n hx hb d_M_hold_10 rfl (lv_at hl 2 rfl) ?_
    refine lv_iconst (v := (-1 : Int32)) hx hb d_M_hold_11 (by decide) ?_
    refine lv_bipush (v := (8 : Int32)) hx hb d_M_hold_12 (by decide) ?_
    refine kci (BB := fun (_ : Unit) H => MW D A AM CM M H) (krS X hl.1 hS hC (c_M_in l D (tysM CM) A _ a2 (-1 : Int32) (8 : Int32) _ hq) ki_M_in wd_422 wd_423 ⟨rfl, rfl, Nat.le_of_ble_eq_true rfl, Nat.le_of_ble_eq_true rfl⟩ rfl rfl (Nat.le_of_ble_eq_true rfl) d_M_hold_14 ⟨Nat.le_of_ble_eq_true rfl, Nat.le_of_ble_eq_true rfl⟩) hS (fun r14_2 _u H locs hq hC hS => ?_)
    refine lv_if_ne (tgt := 22) hx hb d_M_hold_17 (by decide) (fun c_6 => ?_) (fun c_6 => ?_)
    · have hq := hq.2 c_6
      refine lv_aload_n hx hb d_M_hold_22 rfl (lv_at hl 0 rfl) ?_
      refine mg_held X hC d_M_hold_23 ?_
      refine lv_iload_n hx hb d_M_hold_26 rfl (lv_at hl 1 rfl) ?_
      refine lv_iload_n hx hb d_M_hold_27 rfl (lv_at hl 2 rfl) ?_
      refine lv_if_ge (tgt := 35) hx hb d_M_hold_28 (by decide) (fun c_5 => ?_) (fun c_5 => ?_)
      · have hq := hq.1 c_5
        refine lv_aload_n hx hb d_M_hold_35 rfl (lv_at hl 0 rfl) ?_
        refine mg_held X hC d_M_hold_36 ?_
        refine lv_iload_n hx hb d_M_hold_39 rfl (lv_at hl 2 rfl) ?_
        have hs_ := hq.1
        have hq := hq.2
        refine ml_held X hC hs_ d_M_hold_40 ?_
        have hs_ := hq.1
        have hq := hq.2
        refine mt_held X hC hS hs_ d_M_hold_41 (fun H locs hC hS => ?_)
        refine lv_aload_n hx hb d_M_hold_42 rfl (lv_at hl 0 rfl) ?_
        refine lv_iconst (v := (0 : Int32)) hx hb d_M_hold_43 (by decide) ?_
        refine lv_lconst (v := (0 : Int64)) hx hb d_M_hold_44 (by decide) ?_
        refine kci (BB := fun u H => MW D A AM CM u H) (krV (b := (AM 0)) X hl.1 hS hC (c_M_tell l D A AM CM (ms_held M (a1).toNatClampNeg (m_held M (a2).toNatClampNeg)) (0 : Int32) (0 : Int64) _ hq) ki_M_tell wd_430 wd_432 ws_M_tell (mrecX X hC) ⟨rfl, rfl, Nat.le_of_ble_eq_true rfl, Nat.le_of_ble_eq_true rfl⟩ rfl rfl (Nat.le_of_ble_eq_true rfl) d_M_hold_45 ⟨Nat.le_of_ble_eq_true rfl, Nat.le_of_ble_eq_true rfl⟩) hS (fun r45_3 K45_3 H locs hq hC hS => ?_)
        exact hE r45_3 K45_3 _ _ _ _ _ ls hq hC hS (Nat.le_of_ble_eq_true rfl) (Nat.le_of_ble_eq_true rfl) d_M_hold_48
      · have hq := hq.2 c_5
        refine lv_iconst (v := (0 : Int32)) hx hb d_M_hold_31 (by decide) ?_
        refine lv_goto (tgt := 41) hx hb d_M_hold_32 (by decide) ?_
        have hs_ := hq.1
        have hq := hq.2
        refine mt_held X hC hS hs_ d_M_hold_41 (fun H locs hC hS => ?_)
        refine lv_aload_n hx hb d_M_hold_42 rfl (lv_at hl 0 rfl) ?_
        refine lv_iconst (v := (0 : Int32)) hx hb d_M_hold_43 (by decide) ?_
        refine lv_lconst (v := (0 : Int64)) hx hb d_M_hold_44 (by decide) ?_
        refine kci (BB := fun u H => MW D A AM CM u H) (krV (b := (AM 0)) X hl.1 hS hC (c_M_tell l D A AM CM (ms_held M (a1).toNatClampNeg (0 : Int32)) (0 : Int32) (0 : Int64) _ hq) ki_M_tell wd_430 wd_432 ws_M_tell (mrecX X hC) ⟨rfl, rfl, Nat.le_of_ble_eq_true rfl, Nat.le_of_ble_eq_true rfl⟩ rfl rfl (Nat.le_of_ble_eq_true rfl) d_M_hold_45 ⟨Nat.le_of_ble_eq_true rfl, Nat.le_of_ble_eq_true rfl⟩) hS (fun r45_4 K45_4 H locs hq hC hS => ?_)
        exact hE r45_4 K45_4 _ _ _ _ _ ls hq hC hS (Nat.le_of_ble_eq_true rfl) (Nat.le_of_ble_eq_true rfl) d_M_hold_48
    · have hq := hq.1 c_6
      refine lv_iconst (v := (-1 : Int32)) hx hb d_M_hold_20 (by decide) ?_
      exact hE (-1 : Int32) M _ _ _ _ _ ls hq hC hS (Nat.le_of_ble_eq_true rfl) (Nat.le_of_ble_eq_true rfl) d_M_hold_21
def w_M_make_b89 (M_ : MT) (z1 : Int32) (z2 : Int32) (z3 : Int32) (z4 : Int32) (post : Int32 → MT → Prop) : Prop := w_M_tell M_ (6 : Int32) (0 : Int64) (fun r93_2 K93_2 => post r93_2 K93_2)
def w_M_make_b191 (M_ : MT) (z1 : Int32) (z2 : Int32) (z3 : Int32) (z4 : Int32) (z5 : Int32) (post : Int32 → MT → Prop) : Prop := (vp_in (8 : Int32) 9) ∧ (w_M_tell (ms_held M_ ((8 : Int32)).toNatClampNeg z5) (0 : Int32) (0 : Int64) (fun r203_4 K203_4 => post r203_4 K203_4))
def w_M_make_b166 (M_ : MT) (z1 : Int32) (z2 : Int32) (z3 : Int32) (z4 : Int32) (z5 : Int32) (post : Int32 → MT → Prop) : Prop := ((z1 = (6 : Int32)) → ((vp_in z5 520) ∧ ((vp_in z5 520) ∧ (w_M_make_b191 (ms_extra (ms_whole M_ (z5).toNatClampNeg (z3 + (1 : Int32)).toInt64) (z5).toNatClampNeg (5 : Int32)) z1 z2 z3 z4 z5 post)))) ∧ (¬ (z1 = (6 : Int32)) → (w_M_make_b191 M_ z1 z2 z3 z4 z5 post))
def w_M_make_b157 (M_ : MT) (z1 : Int32) (z2 : Int32) (z3 : Int32) (z4 : Int32) (z5 : Int32) (post : Int32 → MT → Prop) : Prop := (vp_in z5 520) ∧ (w_M_make_b166 (ms_whole M_ (z5).toNatClampNeg (z3).toInt64) z1 z2 z3 z4 z5 post)
def w_M_make_b59 (M_ : MT) (z1 : Int32) (z2 : Int32) (z3 : Int32) (post : Int32 → MT → Prop) : Prop := ((z1 = (1 : Int32)) → (w_M_make_b89 M_ z1 z2 z3 (1 : Int32) post)) ∧ (¬ (z1 = (1 : Int32)) → (((z1 = (7 : Int32)) → (w_M_make_b89 M_ z1 z2 z3 (1 : Int32) post)) ∧ (¬ (z1 = (7 : Int32)) → (((z1 = (0 : Int32)) → (w_M_create M_ (12 : Int32) (fun r138_24 K138_24 => ((z1 = (2 : Int32)) → (w_M_make_b157 K138_24 z1 z2 z3 (1 : Int32) r138_24 post)) ∧ (¬ (z1 = (2 : Int32)) → (((z1 = (5 : Int32)) → (((z2 = (0 : Int32)) → (w_M_make_b166 K138_24 z1 z2 z3 (1 : Int32) r138_24 post)) ∧ (¬ (z2 = (0 : Int32)) → (w_M_make_b157 K138_24 z1 z2 z3 (1 : Int32) r138_24 post)))) ∧ (¬ (z1 = (5 : Int32)) → (w_M_make_b166 K138_24 z1 z2 z3 (1 : Int32) r138_24 post))))))) ∧ (¬ (z1 = (0 : Int32)) → (((z1 = (2 : Int32)) → (w_M_create M_ (5 : Int32) (fun r138_19 K138_19 => ((z1 = (2 : Int32)) → (w_M_make_b157 K138_19 z1 z2 z3 (1 : Int32) r138_19 post)) ∧ (¬ (z1 = (2 : Int32)) → (((z1 = (5 : Int32)) → (((z2 = (0 : Int32)) → (w_M_make_b166 K138_19 z1 z2 z3 (1 : Int32) r138_19 post)) ∧ (¬ (z2 = (0 : Int32)) → (w_M_make_b157 K138_19 z1 z2 z3 (1 : Int32) r138_19 post)))) ∧ (¬ (z1 = (5 : Int32)) → (w_M_make_b166 K138_19 z1 z2 z3 (1 : Int32) r138_19 post))))))) ∧ (¬ (z1 = (2 : Int32)) → (((z1 = (3 : Int32)) → (w_M_create M_ (9 : Int32) (fun r138_14 K138_14 => ((z1 = (2 : Int32)) → (w_M_make_b157 K138_14 z1 z2 z3 (1 : Int32) r138_14 post)) ∧ (¬ (z1 = (2 : Int32)) → (((z1 = (5 : Int32)) → (((z2 = (0 : Int32)) → (w_M_make_b166 K138_14 z1 z2 z3 (1 : Int32) r138_14 post)) ∧ (¬ (z2 = (0 : Int32)) → (w_M_make_b157 K138_14 z1 z2 z3 (1 : Int32) r138_14 post)))) ∧ (¬ (z1 = (5 : Int32)) → (w_M_make_b166 K138_14 z1 z2 z3 (1 : Int32) r138_14 post))))))) ∧ (¬ (z1 = (3 : Int32)) → (((z1 = (5 : Int32)) → (w_M_create M_ (10 : Int32) (fun r138_9 K138_9 => ((z1 = (2 : Int32)) → (w_M_make_b157 K138_9 z1 z2 z3 (1 : Int32) r138_9 post)) ∧ (¬ (z1 = (2 : Int32)) → (((z1 = (5 : Int32)) → (((z2 = (0 : Int32)) → (w_M_make_b166 K138_9 z1 z2 z3 (1 : Int32) r138_9 post)) ∧ (¬ (z2 = (0 : Int32)) → (w_M_make_b157 K138_9 z1 z2 z3 (1 : Int32) r138_9 post)))) ∧ (¬ (z1 = (5 : Int32)) → (w_M_make_b166 K138_9 z1 z2 z3 (1 : Int32) r138_9 post))))))) ∧ (¬ (z1 = (5 : Int32)) → (w_M_create M_ (11 : Int32) (fun r138_3 K138_3 => ((z1 = (2 : Int32)) → (w_M_make_b157 K138_3 z1 z2 z3 (1 : Int32) r138_3 post)) ∧ (¬ (z1 = (2 : Int32)) → (((z1 = (5 : Int32)) → (((z2 = (0 : Int32)) → (w_M_make_b166 K138_3 z1 z2 z3 (1 : Int32) r138_3 post)) ∧ (¬ (z2 = (0 : Int32)) → (w_M_make_b157 K138_3 z1 z2 z3 (1 : Int32) r138_3 post)))) ∧ (¬ (z1 = (5 : Int32)) → (w_M_make_b166 K138_3 z1 z2 z3 (1 : Int32) r138_3 post)))))))))))))))))
def w_M_make_b26 (M_ : MT) (z1 : Int32) (z2 : Int32) (z3 : Int32) (post : Int32 → MT → Prop) : Prop := ((z1 = (1 : Int32)) → (w_M_make_b89 M_ z1 z2 z3 (1 : Int32) post)) ∧ (¬ (z1 = (1 : Int32)) → (((z1 = (7 : Int32)) → (w_M_make_b89 M_ z1 z2 z3 (1 : Int32) post)) ∧ (¬ (z1 = (7 : Int32)) → (((z1 = (0 : Int32)) → (w_M_create M_ (12 : Int32) (fun r138_56 K138_56 => ((z1 = (2 : Int32)) → (w_M_make_b157 K138_56 z1 z2 z3 (1 : Int32) r138_56 post)) ∧ (¬ (z1 = (2 : Int32)) → (((z1 = (5 : Int32)) → (((z2 = (0 : Int32)) → (w_M_make_b166 K138_56 z1 z2 z3 (1 : Int32) r138_56 post)) ∧ (¬ (z2 = (0 : Int32)) → (w_M_make_b157 K138_56 z1 z2 z3 (1 : Int32) r138_56 post)))) ∧ (¬ (z1 = (5 : Int32)) → (w_M_make_b166 K138_56 z1 z2 z3 (1 : Int32) r138_56 post))))))) ∧ (¬ (z1 = (0 : Int32)) → (((z1 = (2 : Int32)) → (w_M_create M_ (5 : Int32) (fun r138_51 K138_51 => ((z1 = (2 : Int32)) → (w_M_make_b157 K138_51 z1 z2 z3 (1 : Int32) r138_51 post)) ∧ (¬ (z1 = (2 : Int32)) → (((z1 = (5 : Int32)) → (((z2 = (0 : Int32)) → (w_M_make_b166 K138_51 z1 z2 z3 (1 : Int32) r138_51 post)) ∧ (¬ (z2 = (0 : Int32)) → (w_M_make_b157 K138_51 z1 z2 z3 (1 : Int32) r138_51 post)))) ∧ (¬ (z1 = (5 : Int32)) → (w_M_make_b166 K138_51 z1 z2 z3 (1 : Int32) r138_51 post))))))) ∧ (¬ (z1 = (2 : Int32)) → (((z1 = (3 : Int32)) → (w_M_create M_ (9 : Int32) (fun r138_46 K138_46 => ((z1 = (2 : Int32)) → (w_M_make_b157 K138_46 z1 z2 z3 (1 : Int32) r138_46 post)) ∧ (¬ (z1 = (2 : Int32)) → (((z1 = (5 : Int32)) → (((z2 = (0 : Int32)) → (w_M_make_b166 K138_46 z1 z2 z3 (1 : Int32) r138_46 post)) ∧ (¬ (z2 = (0 : Int32)) → (w_M_make_b157 K138_46 z1 z2 z3 (1 : Int32) r138_46 post)))) ∧ (¬ (z1 = (5 : Int32)) → (w_M_make_b166 K138_46 z1 z2 z3 (1 : Int32) r138_46 post))))))) ∧ (¬ (z1 = (3 : Int32)) → (((z1 = (5 : Int32)) → (w_M_create M_ (10 : Int32) (fun r138_41 K138_41 => ((z1 = (2 : Int32)) → (w_M_make_b157 K138_41 z1 z2 z3 (1 : Int32) r138_41 post)) ∧ (¬ (z1 = (2 : Int32)) → (((z1 = (5 : Int32)) → (((z2 = (0 : Int32)) → (w_M_make_b166 K138_41 z1 z2 z3 (1 : Int32) r138_41 post)) ∧ (¬ (z2 = (0 : Int32)) → (w_M_make_b157 K138_41 z1 z2 z3 (1 : Int32) r138_41 post)))) ∧ (¬ (z1 = (5 : Int32)) → (w_M_make_b166 K138_41 z1 z2 z3 (1 : Int32) r138_41 post))))))) ∧ (¬ (z1 = (5 : Int32)) → (w_M_create M_ (11 : Int32) (fun r138_37 K138_37 => ((z1 = (2 : Int32)) → (w_M_make_b157 K138_37 z1 z2 z3 (1 : Int32) r138_37 post)) ∧ (¬ (z1 = (2 : Int32)) → (((z1 = (5 : Int32)) → (((z2 = (0 : Int32)) → (w_M_make_b166 K138_37 z1 z2 z3 (1 : Int32) r138_37 post)) ∧ (¬ (z2 = (0 : Int32)) → (w_M_make_b157 K138_37 z1 z2 z3 (1 : Int32) r138_37 post)))) ∧ (¬ (z1 = (5 : Int32)) → (w_M_make_b166 K138_37 z1 z2 z3 (1 : Int32) r138_37 post)))))))))))))))))
def w_M_make (M : MT) (a1 : Int32) (a2 : Int32) (a3 : Int32) (post : Int32 → MT → Prop) : Prop := w_M_in a1 (0 : Int32) (7 : Int32) (fun r4_1 => ((r4_1 = (0 : Int32)) → (post (-1 : Int32) M)) ∧ (¬ (r4_1 = (0 : Int32)) → (((a2 = (0 : Int32)) → (((a1 = (0 : Int32)) → (w_M_make_b59 M a1 a2 a3 post)) ∧ (¬ (a1 = (0 : Int32)) → (((a1 = (1 : Int32)) → (w_M_make_b59 M a1 a2 a3 post)) ∧ (¬ (a1 = (1 : Int32)) → (((a1 = (3 : Int32)) → (w_M_make_b59 M a1 a2 a3 post)) ∧ (¬ (a1 = (3 : Int32)) → (((a1 = (5 : Int32)) → (w_M_make_b59 M a1 a2 a3 post)) ∧ (¬ (a1 = (5 : Int32)) → (((a1 = (7 : Int32)) → (w_M_make_b59 M a1 a2 a3 post)) ∧ (¬ (a1 = (7 : Int32)) → (w_M_tell M (5 : Int32) (0 : Int64) (fun r74_31 K74_31 => post r74_31 K74_31))))))))))))) ∧ (¬ (a2 = (0 : Int32)) → (((a1 = (2 : Int32)) → (w_M_make_b26 M a1 a2 a3 post)) ∧ (¬ (a1 = (2 : Int32)) → (((a1 < (5 : Int32)) → (w_M_tell M (5 : Int32) (0 : Int64) (fun r74_63 K74_63 => post r74_63 K74_63))) ∧ (¬ (a1 < (5 : Int32)) → (w_M_make_b26 M a1 a2 a3 post)))))))))
set_option maxHeartbeats 8000000 in
set_option maxRecDepth 100000 in
theorem c_M_make (l : Launch) (D : va_G) (A : Nat → Prop) (AM : Nat → Nat) (CM : Nat → ClassId) (M : MT) (a1 : Int32) (a2 : Int32) (a3 : Int32) (post : Int32 → MT → Prop) (hq : w_M_make M a1 a2 a3 post) : Met l y_M_make (kw y_M_make b_M_make 6 (Option.some Jvm.ClassFile.FieldType.int)) ({ frames := 1, cells := 0, slots := 0, locals := 23 }) (kP D (tysM CM) A [.ref (AM 0), .int a1, .int a2, .int a3] (MW D A AM CM M)) (va_Qi post (fun u t => MW D A AM CM u t.heap) A) 0 0 A := by
  refine kmet_i (BB := (fun u H => MW D A AM CM u H)) (lv := [(0, .ref (AM 0)), (1, .int a1), (2, .int a2), (3, .int a3)]) (by decide +kernel) rfl (Nat.le_of_ble_eq_true rfl) ?_
  intro p e s m args below meth c Q ls X hin hC hl hE
  have hx := X.x
  have hb := X.b
  have hS : va_S A s.heap s.heap [] := va_S.rf
  have J89 : ∀ (M_ : MT) (z1 : Int32) (z2 : Int32) (z3 : Int32) (z4 : Int32) (H : Heap) (locs : List Loc) (ls : Array Slot), w_M_make_b89 M_ z1 z2 z3 z4 post → MW D A AM CM M_ H → va_S A s.heap H locs → lv_has ls 6 [(0, .ref (AM 0)), (1, .int z1), (2, .int z2), (3, .int z3), (4, .int z4)] → W p l e ({ frames := 1, cells := 0, slots := 0, locals := 23 }) s m args below meth c H locs 0 0 Q (F0 m 89 ls []) := by
    intro M_ z1 z2 z3 z4 H locs ls hq hC hS hl
    unfold w_M_make_b89 at hq
    refine lv_aload_n hx hb d_M_make_89 rfl (lv_at hl 0 rfl) ?_
    refine lv_bipush (v := (6 : Int32)) hx hb d_M_make_90 (by decide) ?_
    refine lv_lconst (v := (0 : Int64)) hx hb d_M_make_92 (by decide) ?_
    refine kci (BB := fun u H => MW D A AM CM u H) (krV (b := (AM 0)) X hl.1 hS hC (c_M_tell l D A AM CM M_ (6 : Int32) (0 : Int64) _ hq) ki_M_tell wd_430 wd_432 ws_M_tell (mrecX X hC) ⟨rfl, rfl, Nat.le_of_ble_eq_true rfl, Nat.le_of_ble_eq_true rfl⟩ rfl rfl (Nat.le_of_ble_eq_true rfl) d_M_make_93 ⟨Nat.le_of_ble_eq_true rfl, Nat.le_of_ble_eq_true rfl⟩) hS (fun r93_2 K93_2 H locs hq hC hS => ?_)
    exact hE r93_2 K93_2 _ _ _ _ _ ls hq hC hS (Nat.le_of_ble_eq_true rfl) (Nat.le_of_ble_eq_true rfl) d_M_make_96
  have J191 : ∀ (M_ : MT) (z1 : Int32) (z2 : Int32) (z3 : Int32) (z4 : Int32) (z5 : Int32) (H : Heap) (locs : List Loc) (ls : Array Slot), w_M_make_b191 M_ z1 z2 z3 z4 z5 post → MW D A AM CM M_ H → va_S A s.heap H locs → lv_has ls 6 [(0, .ref (AM 0)), (1, .int z1), (2, .int z2), (3, .int z3), (4, .int z4), (5, .int z5)] → W p l e ({ frames := 1, cells := 0, slots := 0, locals := 23 }) s m args below meth c H locs 0 0 Q (F0 m 191 ls []) := by
    intro M_ z1 z2 z3 z4 z5 H locs ls hq hC hS hl
    unfold w_M_make_b191 at hq
    refine lv_aload_n hx hb d_M_make_191 rfl (lv_at hl 0 rfl) ?_
    refine mg_held X hC d_M_make_192 ?_
    refine lv_bipush (v := (8 : Int32)) hx hb d_M_make_195 (by decide) ?_
    refine lv_iload hx hb d_M_make_197 (lv_at hl 5 rfl) ?_
    have hs_ := hq.1
    have hq := hq.2
    refine mt_held X hC hS hs_ d_M_make_199 (fun H locs hC hS => ?_)
    refine lv_aload_n hx hb d_M_make_200 rfl (lv_at hl 0 rfl) ?_
    refine lv_iconst (v := (0 : Int32)) hx hb d_M_make_201 (by decide) ?_
    refine lv_lconst (v := (0 : Int64)) hx hb d_M_make_202 (by decide) ?_
    refine kci (BB := fun u H => MW D A AM CM u H) (krV (b := (AM 0)) X hl.1 hS hC (c_M_tell l D A AM CM (ms_held M_ ((8 : Int32)).toNatClampNeg z5) (0 : Int32) (0 : Int64) _ hq) ki_M_tell wd_430 wd_432 ws_M_tell (mrecX X hC) ⟨rfl, rfl, Nat.le_of_ble_eq_true rfl, Nat.le_of_ble_eq_true rfl⟩ rfl rfl (Nat.le_of_ble_eq_true rfl) d_M_make_203 ⟨Nat.le_of_ble_eq_true rfl, Nat.le_of_ble_eq_true rfl⟩) hS (fun r203_4 K203_4 H locs hq hC hS => ?_)
    exact hE r203_4 K203_4 _ _ _ _ _ ls hq hC hS (Nat.le_of_ble_eq_true rfl) (Nat.le_of_ble_eq_true rfl) d_M_make_206
  have J166 : ∀ (M_ : MT) (z1 : Int32) (z2 : Int32) (z3 : Int32) (z4 : Int32) (z5 : Int32) (H : Heap) (locs : List Loc) (ls : Array Slot), w_M_make_b166 M_ z1 z2 z3 z4 z5 post → MW D A AM CM M_ H → va_S A s.heap H locs → lv_has ls 6 [(0, .ref (AM 0)), (1, .int z1), (2, .int z2), (3, .int z3), (4, .int z4), (5, .int z5)] → W p l e ({ frames := 1, cells := 0, slots := 0, locals := 23 }) s m args below meth c H locs 0 0 Q (F0 m 166 ls []) := by
    intro M_ z1 z2 z3 z4 z5 H locs ls hq hC hS hl
    unfold w_M_make_b166 at hq
    refine lv_iload_n hx hb d_M_make_166 rfl (lv_at hl 1 rfl) ?_
    refine lv_bipush (v := (6 : Int32)) hx hb d_M_make_167 (by decide) ?_
    refine lv_icmp_ne (tgt := 191) hx hb d_M_make_169 (by decide) (fun c_5 => ?_) (fun c_5 => ?_)
    · have hq := hq.2 c_5
      exact J191 M_ z1 z2 z3 z4 z5 _ _ ls hq hC hS (lv_sub hl [0, 1, 2, 3, 4, 5] rfl)
    · have hq := hq.1 c_5
      refine lv_aload_n hx hb d_M_make_172 rfl (lv_at hl 0 rfl) ?_
      refine mg_whole X hC d_M_make_173 ?_
      refine lv_iload hx hb d_M_make_176 (lv_at hl 5 rfl) ?_
      refine lv_iload_n hx hb d_M_make_178 rfl (lv_at hl 3 rfl) ?_
      refine lv_iconst (v := (1 : Int32)) hx hb d_M_make_179 (by decide) ?_
      refine lv_iadd hx hb d_M_make_180 ?_
      refine lv_i2l hx hb d_M_make_181 rfl ?_
      have hs_ := hq.1
      have hq := hq.2
      refine mt_whole X hC hS hs_ d_M_make_182 (fun H locs hC hS => ?_)
      refine lv_aload_n hx hb d_M_make_183 rfl (lv_at hl 0 rfl) ?_
      refine mg_extra X hC d_M_make_184 ?_
      refine lv_iload hx hb d_M_make_187 (lv_at hl 5 rfl) ?_
      refine lv_iconst (v := (5 : Int32)) hx hb d_M_make_189 (by decide) ?_
      have hs_ := hq.1
      have hq := hq.2
      refine mt_extra X hC hS hs_ d_M_make_190 (fun H locs hC hS => ?_)
      exact J191 (ms_extra (ms_whole M_ (z5).toNatClampNeg (z3 + (1 : Int32)).toInt64) (z5).toNatClampNeg (5 : Int32)) z1 z2 z3 z4 z5 _ _ ls hq hC hS (lv_sub hl [0, 1, 2, 3, 4, 5] rfl)
  have J157 : ∀ (M_ : MT) (z1 : Int32) (z2 : Int32) (z3 : Int32) (z4 : Int32) (z5 : Int32) (H : Heap) (locs : List Loc) (ls : Array Slot), w_M_make_b157 M_ z1 z2 z3 z4 z5 post → MW D A AM CM M_ H → va_S A s.heap H locs → lv_has ls 6 [(0, .ref (AM 0)), (1, .int z1), (2, .int z2), (3, .int z3), (4, .int z4), (5, .int z5)] → W p l e ({ frames := 1, cells := 0, slots := 0, locals := 23 }) s m args below meth c H locs 0 0 Q (F0 m 157 ls []) := by
    intro M_ z1 z2 z3 z4 z5 H locs ls hq hC hS hl
    unfold w_M_make_b157 at hq
    refine lv_aload_n hx hb d_M_make_157 rfl (lv_at hl 0 rfl) ?_
    refine mg_whole X hC d_M_make_158 ?_
    refine lv_iload hx hb d_M_make_161 (lv_at hl 5 rfl) ?_
    refine lv_iload_n hx hb d_M_make_163 rfl (lv_at hl 3 rfl) ?_
    refine lv_i2l hx hb d_M_make_164 rfl ?_
    have hs_ := hq.1
    have hq := hq.2
    refine mt_whole X hC hS hs_ d_M_make_165 (fun H locs hC hS => ?_)
    exact J166 (ms_whole M_ (z5).toNatClampNeg (z3).toInt64) z1 z2 z3 z4 z5 _ _ ls hq hC hS (lv_sub hl [0, 1, 2, 3, 4, 5] rfl)
  have J59 : ∀ (M_ : MT) (z1 : Int32) (z2 : Int32) (z3 : Int32) (H : Heap) (locs : List Loc) (ls : Array Slot), w_M_make_b59 M_ z1 z2 z3 post → MW D A AM CM M_ H → va_S A s.heap H locs → lv_has ls 6 [(0, .ref (AM 0)), (1, .int z1), (2, .int z2), (3, .int z3)] → W p l e ({ frames := 1, cells := 0, slots := 0, locals := 23 }) s m args below meth c H locs 0 0 Q (F0 m 59 ls []) := by
    intro M_ z1 z2 z3 H locs ls hq hC hS hl
    unfold w_M_make_b59 at hq
    refine lv_iconst (v := (1 : Int32)) hx hb d_M_make_59 (by decide) ?_
    refine lv_goto (tgt := 64) hx hb d_M_make_60 (by decide) ?_
    refine lv_istore (lv' := [(4, .int (1 : Int32)), (0, .ref (AM 0)), (1, .int z1), (2, .int z2), (3, .int z3)]) hx hb d_M_make_64 hl (by decide) rfl (fun ls hl => ?_)
    refine lv_iload hx hb d_M_make_66 (lv_at hl 0 rfl) ?_
    refine lv_if_ne (tgt := 78) hx hb d_M_make_68 (by decide) (fun _ => ?_) (fun c_ => absurd c_ (by decide))
    refine lv_iload_n hx hb d_M_make_78 rfl (lv_at hl 2 rfl) ?_
    refine lv_iconst (v := (1 : Int32)) hx hb d_M_make_79 (by decide) ?_
    refine lv_icmp_eq (tgt := 89) hx hb d_M_make_80 (by decide) (fun c_30 => ?_) (fun c_30 => ?_)
    · have hq := hq.1 c_30
      exact J89 M_ z1 z2 z3 (1 : Int32) _ _ ls hq hC hS (lv_sub hl [1, 2, 3, 4, 0] rfl)
    · have hq := hq.2 c_30
      refine lv_iload_n hx hb d_M_make_83 rfl (lv_at hl 2 rfl) ?_
      refine lv_bipush (v := (7 : Int32)) hx hb d_M_make_84 (by decide) ?_
      refine lv_icmp_ne (tgt := 97) hx hb d_M_make_86 (by decide) (fun c_29 => ?_) (fun c_29 => ?_)
      · have hq := hq.2 c_29
        refine lv_aload_n hx hb d_M_make_97 rfl (lv_at hl 1 rfl) ?_
        refine lv_iload_n hx hb d_M_make_98 rfl (lv_at hl 2 rfl) ?_
        refine lv_if_ne (tgt := 107) hx hb d_M_make_99 (by decide) (fun c_28 => ?_) (fun c_28 => ?_)
        · have hq := hq.2 c_28
          refine lv_iload_n hx hb d_M_make_107 rfl (lv_at hl 2 rfl) ?_
          refine lv_iconst (v := (2 : Int32)) hx hb d_M_make_108 (by decide) ?_
          refine lv_icmp_ne (tgt := 116) hx hb d_M_make_109 (by decide) (fun c_23 => ?_) (fun c_23 => ?_)
          · have hq := hq.2 c_23
            refine lv_iload_n hx hb d_M_make_116 rfl (lv_at hl 2 rfl) ?_
            refine lv_iconst (v := (3 : Int32)) hx hb d_M_make_117 (by decide) ?_
            refine lv_icmp_ne (tgt := 126) hx hb d_M_make_118 (by decide) (fun c_18 => ?_) (fun c_18 => ?_)
            · have hq := hq.2 c_18
              refine lv_iload_n hx hb d_M_make_126 rfl (lv_at hl 2 rfl) ?_
              refine lv_iconst (v := (5 : Int32)) hx hb d_M_make_127 (by decide) ?_
              refine lv_icmp_ne (tgt := 136) hx hb d_M_make_128 (by decide) (fun c_13 => ?_) (fun c_13 => ?_)
              · have hq := hq.2 c_13
                refine lv_bipush (v := (11 : Int32)) hx hb d_M_make_136 (by decide) ?_
                refine kci (BB := fun u H => MW D A AM CM u H) (krV (b := (AM 0)) X hl.1 hS hC (c_M_create l D A AM CM M_ (11 : Int32) _ hq) ki_M_create wd_425 wd_427 ws_M_create (mrecX X hC) ⟨rfl, rfl, Nat.le_of_ble_eq_true rfl, Nat.le_of_ble_eq_true rfl⟩ rfl rfl (Nat.le_of_ble_eq_true rfl) d_M_make_138 ⟨Nat.le_of_ble_eq_true rfl, Nat.le_of_ble_eq_true rfl⟩) hS (fun r138_3 K138_3 H locs hq hC hS => ?_)
                refine lv_istore (lv' := [(5, .int r138_3), (4, .int (1 : Int32)), (0, .ref (AM 0)), (1, .int z1), (2, .int z2), (3, .int z3)]) hx hb d_M_make_141 hl (by decide) rfl (fun ls hl => ?_)
                refine lv_iload_n hx hb d_M_make_143 rfl (lv_at hl 3 rfl) ?_
                refine lv_iconst (v := (2 : Int32)) hx hb d_M_make_144 (by decide) ?_
                refine lv_icmp_eq (tgt := 157) hx hb d_M_make_145 (by decide) (fun c_8 => ?_) (fun c_8 => ?_)
                · have hq := hq.1 c_8
                  exact J157 K138_3 z1 z2 z3 (1 : Int32) r138_3 _ _ ls hq hC hS (lv_sub hl [2, 3, 4, 5, 1, 0] rfl)
                · have hq := hq.2 c_8
                  refine lv_iload_n hx hb d_M_make_148 rfl (lv_at hl 3 rfl) ?_
                  refine lv_iconst (v := (5 : Int32)) hx hb d_M_make_149 (by decide) ?_
                  refine lv_icmp_ne (tgt := 166) hx hb d_M_make_150 (by decide) (fun c_7 => ?_) (fun c_7 => ?_)
                  · have hq := hq.2 c_7
                    exact J166 K138_3 z1 z2 z3 (1 : Int32) r138_3 _ _ ls hq hC hS (lv_sub hl [2, 3, 4, 5, 1, 0] rfl)
                  · have hq := hq.1 c_7
                    refine lv_iload_n hx hb d_M_make_153 rfl (lv_at hl 4 rfl) ?_
                    refine lv_if_eq (tgt := 166) hx hb d_M_make_154 (by decide) (fun c_6 => ?_) (fun c_6 => ?_)
                    · have hq := hq.1 c_6
                      exact J166 K138_3 z1 z2 z3 (1 : Int32) r138_3 _ _ ls hq hC hS (lv_sub hl [2, 3, 4, 5, 1, 0] rfl)
                    · have hq := hq.2 c_6
                      exact J157 K138_3 z1 z2 z3 (1 : Int32) r138_3 _ _ ls hq hC hS (lv_sub hl [2, 3, 4, 5, 1, 0] rfl)
              · have hq := hq.1 c_13
                refine lv_bipush (v := (10 : Int32)) hx hb d_M_make_131 (by decide) ?_
                refine lv_goto (tgt := 138) hx hb d_M_make_133 (by decide) ?_
                refine kci (BB := fun u H => MW D A AM CM u H) (krV (b := (AM 0)) X hl.1 hS hC (c_M_create l D A AM CM M_ (10 : Int32) _ hq) ki_M_create wd_425 wd_427 ws_M_create (mrecX X hC) ⟨rfl, rfl, Nat.le_of_ble_eq_true rfl, Nat.le_of_ble_eq_true rfl⟩ rfl rfl (Nat.le_of_ble_eq_true rfl) d_M_make_138 ⟨Nat.le_of_ble_eq_true rfl, Nat.le_of_ble_eq_true rfl⟩) hS (fun r138_9 K138_9 H locs hq hC hS => ?_)
                refine lv_istore (lv' := [(5, .int r138_9), (4, .int (1 : Int32)), (0, .ref (AM 0)), (1, .int z1), (2, .int z2), (3, .int z3)]) hx hb d_M_make_141 hl (by decide) rfl (fun ls hl => ?_)
                refine lv_iload_n hx hb d_M_make_143 rfl (lv_at hl 3 rfl) ?_
                refine lv_iconst (v := (2 : Int32)) hx hb d_M_make_144 (by decide) ?_
                refine lv_icmp_eq (tgt := 157) hx hb d_M_make_145 (by decide) (fun c_12 => ?_) (fun c_12 => ?_)
                · have hq := hq.1 c_12
                  exact J157 K138_9 z1 z2 z3 (1 : Int32) r138_9 _ _ ls hq hC hS (lv_sub hl [2, 3, 4, 5, 1, 0] rfl)
                · have hq := hq.2 c_12
                  refine lv_iload_n hx hb d_M_make_148 rfl (lv_at hl 3 rfl) ?_
                  refine lv_iconst (v := (5 : Int32)) hx hb d_M_make_149 (by decide) ?_
                  refine lv_icmp_ne (tgt := 166) hx hb d_M_make_150 (by decide) (fun c_11 => ?_) (fun c_11 => ?_)
                  · have hq := hq.2 c_11
                    exact J166 K138_9 z1 z2 z3 (1 : Int32) r138_9 _ _ ls hq hC hS (lv_sub hl [2, 3, 4, 5, 1, 0] rfl)
                  · have hq := hq.1 c_11
                    refine lv_iload_n hx hb d_M_make_153 rfl (lv_at hl 4 rfl) ?_
                    refine lv_if_eq (tgt := 166) hx hb d_M_make_154 (by decide) (fun c_10 => ?_) (fun c_10 => ?_)
                    · have hq := hq.1 c_10
                      exact J166 K138_9 z1 z2 z3 (1 : Int32) r138_9 _ _ ls hq hC hS (lv_sub hl [2, 3, 4, 5, 1, 0] rfl)
                    · have hq := hq.2 c_10
                      exact J157 K138_9 z1 z2 z3 (1 : Int32) r138_9 _ _ ls hq hC hS (lv_sub hl [2, 3, 4, 5, 1, 0] rfl)
            · have hq := hq.1 c_18
              refine lv_bipush (v := (9 : Int32)) hx hb d_M_make_121 (by decide) ?_
              refine lv_goto (tgt := 138) hx hb d_M_make_123 (by decide) ?_
              refine kci (BB := fun u H => MW D A AM CM u H) (krV (b := (AM 0)) X hl.1 hS hC (c_M_create l D A AM CM M_ (9 : Int32) _ hq) ki_M_create wd_425 wd_427 ws_M_create (mrecX X hC) ⟨rfl, rfl, Nat.le_of_ble_eq_true rfl, Nat.le_of_ble_eq_true rfl⟩ rfl rfl (Nat.le_of_ble_eq_true rfl) d_M_make_138 ⟨Nat.le_of_ble_eq_true rfl, Nat.le_of_ble_eq_true rfl⟩) hS (fun r138_14 K138_14 H locs hq hC hS => ?_)
              refine lv_istore (lv' := [(5, .int r138_14), (4, .int (1 : Int32)), (0, .ref (AM 0)), (1, .int z1), (2, .int z2), (3, .int z3)]) hx hb d_M_make_141 hl (by decide) rfl (fun ls hl => ?_)
              refine lv_iload_n hx hb d_M_make_143 rfl (lv_at hl 3 rfl) ?_
              refine lv_iconst (v := (2 : Int32)) hx hb d_M_make_144 (by decide) ?_
              refine lv_icmp_eq (tgt := 157) hx hb d_M_make_145 (by decide) (fun c_17 => ?_) (fun c_17 => ?_)
              · have hq := hq.1 c_17
                exact J157 K138_14 z1 z2 z3 (1 : Int32) r138_14 _ _ ls hq hC hS (lv_sub hl [2, 3, 4, 5, 1, 0] rfl)
              · have hq := hq.2 c_17
                refine lv_iload_n hx hb d_M_make_148 rfl (lv_at hl 3 rfl) ?_
                refine lv_iconst (v := (5 : Int32)) hx hb d_M_make_149 (by decide) ?_
                refine lv_icmp_ne (tgt := 166) hx hb d_M_make_150 (by decide) (fun c_16 => ?_) (fun c_16 => ?_)
                · have hq := hq.2 c_16
                  exact J166 K138_14 z1 z2 z3 (1 : Int32) r138_14 _ _ ls hq hC hS (lv_sub hl [2, 3, 4, 5, 1, 0] rfl)
                · have hq := hq.1 c_16
                  refine lv_iload_n hx hb d_M_make_153 rfl (lv_at hl 4 rfl) ?_
                  refine lv_if_eq (tgt := 166) hx hb d_M_make_154 (by decide) (fun c_15 => ?_) (fun c_15 => ?_)
                  · have hq := hq.1 c_15
                    exact J166 K138_14 z1 z2 z3 (1 : Int32) r138_14 _ _ ls hq hC hS (lv_sub hl [2, 3, 4, 5, 1, 0] rfl)
                  · have hq := hq.2 c_15
                    exact J157 K138_14 z1 z2 z3 (1 : Int32) r138_14 _ _ ls hq hC hS (lv_sub hl [2, 3, 4, 5, 1, 0] rfl)
          · have hq := hq.1 c_23
            refine lv_iconst (v := (5 : Int32)) hx hb d_M_make_112 (by decide) ?_
            refine lv_goto (tgt := 138) hx hb d_M_make_113 (by decide) ?_
            refine kci (BB := fun u H => MW D A AM CM u H) (krV (b := (AM 0)) X hl.1 hS hC (c_M_create l D A AM CM M_ (5 : Int32) _ hq) ki_M_create wd_425 wd_427 ws_M_create (mrecX X hC) ⟨rfl, rfl, Nat.le_of_ble_eq_true rfl, Nat.le_of_ble_eq_true rfl⟩ rfl rfl (Nat.le_of_ble_eq_true rfl) d_M_make_138 ⟨Nat.le_of_ble_eq_true rfl, Nat.le_of_ble_eq_true rfl⟩) hS (fun r138_19 K138_19 H locs hq hC hS => ?_)
            refine lv_istore (lv' := [(5, .int r138_19), (4, .int (1 : Int32)), (0, .ref (AM 0)), (1, .int z1), (2, .int z2), (3, .int z3)]) hx hb d_M_make_141 hl (by decide) rfl (fun ls hl => ?_)
            refine lv_iload_n hx hb d_M_make_143 rfl (lv_at hl 3 rfl) ?_
            refine lv_iconst (v := (2 : Int32)) hx hb d_M_make_144 (by decide) ?_
            refine lv_icmp_eq (tgt := 157) hx hb d_M_make_145 (by decide) (fun c_22 => ?_) (fun c_22 => ?_)
            · have hq := hq.1 c_22
              exact J157 K138_19 z1 z2 z3 (1 : Int32) r138_19 _ _ ls hq hC hS (lv_sub hl [2, 3, 4, 5, 1, 0] rfl)
            · have hq := hq.2 c_22
              refine lv_iload_n hx hb d_M_make_148 rfl (lv_at hl 3 rfl) ?_
              refine lv_iconst (v := (5 : Int32)) hx hb d_M_make_149 (by decide) ?_
              refine lv_icmp_ne (tgt := 166) hx hb d_M_make_150 (by decide) (fun c_21 => ?_) (fun c_21 => ?_)
              · have hq := hq.2 c_21
                exact J166 K138_19 z1 z2 z3 (1 : Int32) r138_19 _ _ ls hq hC hS (lv_sub hl [2, 3, 4, 5, 1, 0] rfl)
              · have hq := hq.1 c_21
                refine lv_iload_n hx hb d_M_make_153 rfl (lv_at hl 4 rfl) ?_
                refine lv_if_eq (tgt := 166) hx hb d_M_make_154 (by decide) (fun c_20 => ?_) (fun c_20 => ?_)
                · have hq := hq.1 c_20
                  exact J166 K138_19 z1 z2 z3 (1 : Int32) r138_19 _ _ ls hq hC hS (lv_sub hl [2, 3, 4, 5, 1, 0] rfl)
                · have hq := hq.2 c_20
                  exact J157 K138_19 z1 z2 z3 (1 : Int32) r138_19 _ _ ls hq hC hS (lv_sub hl [2, 3, 4, 5, 1, 0] rfl)
        · have hq := hq.1 c_28
          refine lv_bipush (v := (12 : Int32)) hx hb d_M_make_102 (by decide) ?_
          refine lv_goto (tgt := 138) hx hb d_M_make_104 (by decide) ?_
          refine kci (BB := fun u H => MW D A AM CM u H) (krV (b := (AM 0)) X hl.1 hS hC (c_M_create l D A AM CM M_ (12 : Int32) _ hq) ki_M_create wd_425 wd_427 ws_M_create (mrecX X hC) ⟨rfl, rfl, Nat.le_of_ble_eq_true rfl, Nat.le_of_ble_eq_true rfl⟩ rfl rfl (Nat.le_of_ble_eq_true rfl) d_M_make_138 ⟨Nat.le_of_ble_eq_true rfl, Nat.le_of_ble_eq_true rfl⟩) hS (fun r138_24 K138_24 H locs hq hC hS => ?_)
          refine lv_istore (lv' := [(5, .int r138_24), (4, .int (1 : Int32)), (0, .ref (AM 0)), (1, .int z1), (2, .int z2), (3, .int z3)]) hx hb d_M_make_141 hl (by decide) rfl (fun ls hl => ?_)
          refine lv_iload_n hx hb d_M_make_143 rfl (lv_at hl 3 rfl) ?_
          refine lv_iconst (v := (2 : Int32)) hx hb d_M_make_144 (by decide) ?_
          refine lv_icmp_eq (tgt := 157) hx hb d_M_make_145 (by decide) (fun c_27 => ?_) (fun c_27 => ?_)
          · have hq := hq.1 c_27
            exact J157 K138_24 z1 z2 z3 (1 : Int32) r138_24 _ _ ls hq hC hS (lv_sub hl [2, 3, 4, 5, 1, 0] rfl)
          · have hq := hq.2 c_27
            refine lv_iload_n hx hb d_M_make_148 rfl (lv_at hl 3 rfl) ?_
            refine lv_iconst (v := (5 : Int32)) hx hb d_M_make_149 (by decide) ?_
            refine lv_icmp_ne (tgt := 166) hx hb d_M_make_150 (by decide) (fun c_26 => ?_) (fun c_26 => ?_)
            · have hq := hq.2 c_26
              exact J166 K138_24 z1 z2 z3 (1 : Int32) r138_24 _ _ ls hq hC hS (lv_sub hl [2, 3, 4, 5, 1, 0] rfl)
            · have hq := hq.1 c_26
              refine lv_iload_n hx hb d_M_make_153 rfl (lv_at hl 4 rfl) ?_
              refine lv_if_eq (tgt := 166) hx hb d_M_make_154 (by decide) (fun c_25 => ?_) (fun c_25 => ?_)
              · have hq := hq.1 c_25
                exact J166 K138_24 z1 z2 z3 (1 : Int32) r138_24 _ _ ls hq hC hS (lv_sub hl [2, 3, 4, 5, 1, 0] rfl)
              · have hq := hq.2 c_25
                exact J157 K138_24 z1 z2 z3 (1 : Int32) r138_24 _ _ ls hq hC hS (lv_sub hl [2, 3, 4, 5, 1, 0] rfl)
      · have hq := hq.1 c_29
        exact J89 M_ z1 z2 z3 (1 : Int32) _ _ ls hq hC hS (lv_sub hl [1, 2, 3, 4, 0] rfl)
  have J26 : ∀ (M_ : MT) (z1 : Int32) (z2 : Int32) (z3 : Int32) (H : Heap) (locs : List Loc) (ls : Array Slot), w_M_make_b26 M_ z1 z2 z3 post → MW D A AM CM M_ H → va_S A s.heap H locs → lv_has ls 6 [(0, .ref (AM 0)), (1, .int z1), (2, .int z2), (3, .int z3)] → W p l e ({ frames := 1, cells := 0, slots := 0, locals := 23 }) s m args below meth c H locs 0 0 Q (F0 m 26 ls []) := by
    intro M_ z1 z2 z3 H locs ls hq hC hS hl
    unfold w_M_make_b26 at hq
    refine lv_iconst (v := (1 : Int32)) hx hb d_M_make_26 (by decide) ?_
    refine lv_goto (tgt := 64) hx hb d_M_make_27 (by decide) ?_
    refine lv_istore (lv' := [(4, .int (1 : Int32)), (0, .ref (AM 0)), (1, .int z1), (2, .int z2), (3, .int z3)]) hx hb d_M_make_64 hl (by decide) rfl (fun ls hl => ?_)
    refine lv_iload hx hb d_M_make_66 (lv_at hl 0 rfl) ?_
    refine lv_if_ne (tgt := 78) hx hb d_M_make_68 (by decide) (fun _ => ?_) (fun c_ => absurd c_ (by decide))
    refine lv_iload_n hx hb d_M_make_78 rfl (lv_at hl 2 rfl) ?_
    refine lv_iconst (v := (1 : Int32)) hx hb d_M_make_79 (by decide) ?_
    refine lv_icmp_eq (tgt := 89) hx hb d_M_make_80 (by decide) (fun c_62 => ?_) (fun c_62 => ?_)
    · have hq := hq.1 c_62
      exact J89 M_ z1 z2 z3 (1 : Int32) _ _ ls hq hC hS (lv_sub hl [1, 2, 3, 4, 0] rfl)
    · have hq := hq.2 c_62
      refine lv_iload_n hx hb d_M_make_83 rfl (lv_at hl 2 rfl) ?_
      refine lv_bipush (v := (7 : Int32)) hx hb d_M_make_84 (by decide) ?_
      refine lv_icmp_ne (tgt := 97) hx hb d_M_make_86 (by decide) (fun c_61 => ?_) (fun c_61 => ?_)
      · have hq := hq.2 c_61
        refine lv_aload_n hx hb d_M_make_97 rfl (lv_at hl 1 rfl) ?_
        refine lv_iload_n hx hb d_M_make_98 rfl (lv_at hl 2 rfl) ?_
        refine lv_if_ne (tgt := 107) hx hb d_M_make_99 (by decide) (fun c_60 => ?_) (fun c_60 => ?_)
        · have hq := hq.2 c_60
          refine lv_iload_n hx hb d_M_make_107 rfl (lv_at hl 2 rfl) ?_
          refine lv_iconst (v := (2 : Int32)) hx hb d_M_make_108 (by decide) ?_
          refine lv_icmp_ne (tgt := 116) hx hb d_M_make_109 (by decide) (fun c_55 => ?_) (fun c_55 => ?_)
          · have hq := hq.2 c_55
            refine lv_iload_n hx hb d_M_make_116 rfl (lv_at hl 2 rfl) ?_
            refine lv_iconst (v := (3 : Int32)) hx hb d_M_make_117 (by decide) ?_
            refine lv_icmp_ne (tgt := 126) hx hb d_M_make_118 (by decide) (fun c_50 => ?_) (fun c_50 => ?_)
            · have hq := hq.2 c_50
              refine lv_iload_n hx hb d_M_make_126 rfl (lv_at hl 2 rfl) ?_
              refine lv_iconst (v := (5 : Int32)) hx hb d_M_make_127 (by decide) ?_
              refine lv_icmp_ne (tgt := 136) hx hb d_M_make_128 (by decide) (fun c_45 => ?_) (fun c_45 => ?_)
              · have hq := hq.2 c_45
                refine lv_bipush (v := (11 : Int32)) hx hb d_M_make_136 (by decide) ?_
                refine kci (BB := fun u H => MW D A AM CM u H) (krV (b := (AM 0)) X hl.1 hS hC (c_M_create l D A AM CM M_ (11 : Int32) _ hq) ki_M_create wd_425 wd_427 ws_M_create (mrecX X hC) ⟨rfl, rfl, Nat.le_of_ble_eq_true rfl, Nat.le_of_ble_eq_true rfl⟩ rfl rfl (Nat.le_of_ble_eq_true rfl) d_M_make_138 ⟨Nat.le_of_ble_eq_true rfl, Nat.le_of_ble_eq_true rfl⟩) hS (fun r138_37 K138_37 H locs hq hC hS => ?_)
                refine lv_istore (lv' := [(5, .int r138_37), (4, .int (1 : Int32)), (0, .ref (AM 0)), (1, .int z1), (2, .int z2), (3, .int z3)]) hx hb d_M_make_141 hl (by decide) rfl (fun ls hl => ?_)
                refine lv_iload_n hx hb d_M_make_143 rfl (lv_at hl 3 rfl) ?_
                refine lv_iconst (v := (2 : Int32)) hx hb d_M_make_144 (by decide) ?_
                refine lv_icmp_eq (tgt := 157) hx hb d_M_make_145 (by decide) (fun c_40 => ?_) (fun c_40 => ?_)
                · have hq := hq.1 c_40
                  exact J157 K138_37 z1 z2 z3 (1 : Int32) r138_37 _ _ ls hq hC hS (lv_sub hl [2, 3, 4, 5, 1, 0] rfl)
                · have hq := hq.2 c_40
                  refine lv_iload_n hx hb d_M_make_148 rfl (lv_at hl 3 rfl) ?_
                  refine lv_iconst (v := (5 : Int32)) hx hb d_M_make_149 (by decide) ?_
                  refine lv_icmp_ne (tgt := 166) hx hb d_M_make_150 (by decide) (fun c_39 => ?_) (fun c_39 => ?_)
                  · have hq := hq.2 c_39
                    exact J166 K138_37 z1 z2 z3 (1 : Int32) r138_37 _ _ ls hq hC hS (lv_sub hl [2, 3, 4, 5, 1, 0] rfl)
                  · have hq := hq.1 c_39
                    refine lv_iload_n hx hb d_M_make_153 rfl (lv_at hl 4 rfl) ?_
                    refine lv_if_eq (tgt := 166) hx hb d_M_make_154 (by decide) (fun c_38 => ?_) (fun c_38 => ?_)
                    · have hq := hq.1 c_38
                      exact J166 K138_37 z1 z2 z3 (1 : Int32) r138_37 _ _ ls hq hC hS (lv_sub hl [2, 3, 4, 5, 1, 0] rfl)
                    · have hq := hq.2 c_38
                      exact J157 K138_37 z1 z2 z3 (1 : Int32) r138_37 _ _ ls hq hC hS (lv_sub hl [2, 3, 4, 5, 1, 0] rfl)
              · have hq := hq.1 c_45
                refine lv_bipush (v := (10 : Int32)) hx hb d_M_make_131 (by decide) ?_
                refine lv_goto (tgt := 138) hx hb d_M_make_133 (by decide) ?_
                refine kci (BB := fun u H => MW D A AM CM u H) (krV (b := (AM 0)) X hl.1 hS hC (c_M_create l D A AM CM M_ (10 : Int32) _ hq) ki_M_create wd_425 wd_427 ws_M_create (mrecX X hC) ⟨rfl, rfl, Nat.le_of_ble_eq_true rfl, Nat.le_of_ble_eq_true rfl⟩ rfl rfl (Nat.le_of_ble_eq_true rfl) d_M_make_138 ⟨Nat.le_of_ble_eq_true rfl, Nat.le_of_ble_eq_true rfl⟩) hS (fun r138_41 K138_41 H locs hq hC hS => ?_)
                refine lv_istore (lv' := [(5, .int r138_41), (4, .int (1 : Int32)), (0, .ref (AM 0)), (1, .int z1), (2, .int z2), (3, .int z3)]) hx hb d_M_make_141 hl (by decide) rfl (fun ls hl => ?_)
                refine lv_iload_n hx hb d_M_make_143 rfl (lv_at hl 3 rfl) ?_
                refine lv_iconst (v := (2 : Int32)) hx hb d_M_make_144 (by decide) ?_
                refine lv_icmp_eq (tgt := 157) hx hb d_M_make_145 (by decide) (fun c_44 => ?_) (fun c_44 => ?_)
                · have hq := hq.1 c_44
                  exact J157 K138_41 z1 z2 z3 (1 : Int32) r138_41 _ _ ls hq hC hS (lv_sub hl [2, 3, 4, 5, 1, 0] rfl)
                · have hq := hq.2 c_44
                  refine lv_iload_n hx hb d_M_make_148 rfl (lv_at hl 3 rfl) ?_
                  refine lv_iconst (v := (5 : Int32)) hx hb d_M_make_149 (by decide) ?_
                  refine lv_icmp_ne (tgt := 166) hx hb d_M_make_150 (by decide) (fun c_43 => ?_) (fun c_43 => ?_)
                  · have hq := hq.2 c_43
                    exact J166 K138_41 z1 z2 z3 (1 : Int32) r138_41 _ _ ls hq hC hS (lv_sub hl [2, 3, 4, 5, 1, 0] rfl)
                  · have hq := hq.1 c_43
                    refine lv_iload_n hx hb d_M_make_153 rfl (lv_at hl 4 rfl) ?_
                    refine lv_if_eq (tgt := 166) hx hb d_M_make_154 (by decide) (fun c_42 => ?_) (fun c_42 => ?_)
                    · have hq := hq.1 c_42
                      exact J166 K138_41 z1 z2 z3 (1 : Int32) r138_41 _ _ ls hq hC hS (lv_sub hl [2, 3, 4, 5, 1, 0] rfl)
                    · have hq := hq.2 c_42
                      exact J157 K138_41 z1 z2 z3 (1 : Int32) r138_41 _ _ ls hq hC hS (lv_sub hl [2, 3, 4, 5, 1, 0] rfl)
            · have hq := hq.1 c_50
              refine lv_bipush (v := (9 : Int32)) hx hb d_M_make_121 (by decide) ?_
              refine lv_goto (tgt := 138) hx hb d_M_make_123 (by decide) ?_
              refine kci (BB := fun u H => MW D A AM CM u H) (krV (b := (AM 0)) X hl.1 hS hC (c_M_create l D A AM CM M_ (9 : Int32) _ hq) ki_M_create wd_425 wd_427 ws_M_create (mrecX X hC) ⟨rfl, rfl, Nat.le_of_ble_eq_true rfl, Nat.le_of_ble_eq_true rfl⟩ rfl rfl (Nat.le_of_ble_eq_true rfl) d_M_make_138 ⟨Nat.le_of_ble_eq_true rfl, Nat.le_of_ble_eq_true rfl⟩) hS (fun r138_46 K138_46 H locs hq hC hS => ?_)
              refine lv_istore (lv' := [(5, .int r138_46), (4, .int (1 : Int32)), (0, .ref (AM 0)), (1, .int z1), (2, .int z2), (3, .int z3)]) hx hb d_M_make_141 hl (by decide) rfl (fun ls hl => ?_)
              refine lv_iload_n hx hb d_M_make_143 rfl (lv_at hl 3 rfl) ?_
              refine lv_iconst (v := (2 : Int32)) hx hb d_M_make_144 (by decide) ?_
              refine lv_icmp_eq (tgt := 157) hx hb d_M_make_145 (by decide) (fun c_49 => ?_) (fun c_49 => ?_)
              · have hq := hq.1 c_49
                exact J157 K138_46 z1 z2 z3 (1 : Int32) r138_46 _ _ ls hq hC hS (lv_sub hl [2, 3, 4, 5, 1, 0] rfl)
              · have hq := hq.2 c_49
                refine lv_iload_n hx hb d_M_make_148 rfl (lv_at hl 3 rfl) ?_
                refine lv_iconst (v := (5 : Int32)) hx hb d_M_make_149 (by decide) ?_
                refine lv_icmp_ne (tgt := 166) hx hb d_M_make_150 (by decide) (fun c_48 => ?_) (fun c_48 => ?_)
                · have hq := hq.2 c_48
                  exact J166 K138_46 z1 z2 z3 (1 : Int32) r138_46 _ _ ls hq hC hS (lv_sub hl [2, 3, 4, 5, 1, 0] rfl)
                · have hq := hq.1 c_48
                  refine lv_iload_n hx hb d_M_make_153 rfl (lv_at hl 4 rfl) ?_
                  refine lv_if_eq (tgt := 166) hx hb d_M_make_154 (by decide) (fun c_47 => ?_) (fun c_47 => ?_)
                  · have hq := hq.1 c_47
                    exact J166 K138_46 z1 z2 z3 (1 : Int32) r138_46 _ _ ls hq hC hS (lv_sub hl [2, 3, 4, 5, 1, 0] rfl)
                  · have hq := hq.2 c_47
                    exact J157 K138_46 z1 z2 z3 (1 : Int32) r138_46 _ _ ls hq hC hS (lv_sub hl [2, 3, 4, 5, 1, 0] rfl)
          · have hq := hq.1 c_55
            refine lv_iconst (v := (5 : Int32)) hx hb d_M_make_112 (by decide) ?_
            refine lv_goto (tgt := 138) hx hb d_M_make_113 (by decide) ?_
            refine kci (BB := fun u H => MW D A AM CM u H) (krV (b := (AM 0)) X hl.1 hS hC (c_M_create l D A AM CM M_ (5 : Int32) _ hq) ki_M_create wd_425 wd_427 ws_M_create (mrecX X hC) ⟨rfl, rfl, Nat.le_of_ble_eq_true rfl, Nat.le_of_ble_eq_true rfl⟩ rfl rfl (Nat.le_of_ble_eq_true rfl) d_M_make_138 ⟨Nat.le_of_ble_eq_true rfl, Nat.le_of_ble_eq_true rfl⟩) hS (fun r138_51 K138_51 H locs hq hC hS => ?_)
            refine lv_istore (lv' := [(5, .int r138_51), (4, .int (1 : Int32)), (0, .ref (AM 0)), (1, .int z1), (2, .int z2), (3, .int z3)]) hx hb d_M_make_141 hl (by decide) rfl (fun ls hl => ?_)
            refine lv_iload_n hx hb d_M_make_143 rfl (lv_at hl 3 rfl) ?_
            refine lv_iconst (v := (2 : Int32)) hx hb d_M_make_144 (by decide) ?_
            refine lv_icmp_eq (tgt := 157) hx hb d_M_make_145 (by decide) (fun c_54 => ?_) (fun c_54 => ?_)
            · have hq := hq.1 c_54
              exact J157 K138_51 z1 z2 z3 (1 : Int32) r138_51 _ _ ls hq hC hS (lv_sub hl [2, 3, 4, 5, 1, 0] rfl)
            · have hq := hq.2 c_54
              refine lv_iload_n hx hb d_M_make_148 rfl (lv_at hl 3 rfl) ?_
              refine lv_iconst (v := (5 : Int32)) hx hb d_M_make_149 (by decide) ?_
              refine lv_icmp_ne (tgt := 166) hx hb d_M_make_150 (by decide) (fun c_53 => ?_) (fun c_53 => ?_)
              · have hq := hq.2 c_53
                exact J166 K138_51 z1 z2 z3 (1 : Int32) r138_51 _ _ ls hq hC hS (lv_sub hl [2, 3, 4, 5, 1, 0] rfl)
              · have hq := hq.1 c_53
                refine lv_iload_n hx hb d_M_make_153 rfl (lv_at hl 4 rfl) ?_
                refine lv_if_eq (tgt := 166) hx hb d_M_make_154 (by decide) (fun c_52 => ?_) (fun c_52 => ?_)
                · have hq := hq.1 c_52
                  exact J166 K138_51 z1 z2 z3 (1 : Int32) r138_51 _ _ ls hq hC hS (lv_sub hl [2, 3, 4, 5, 1, 0] rfl)
                · have hq := hq.2 c_52
                  exact J157 K138_51 z1 z2 z3 (1 : Int32) r138_51 _ _ ls hq hC hS (lv_sub hl [2, 3, 4, 5, 1, 0] rfl)
        · have hq := hq.1 c_60
          refine lv_bipush (v := (12 : Int32)) hx hb d_M_make_102 (by decide) ?_
          refine lv_goto (tgt := 138) hx hb d_M_make_104 (by decide) ?_
          refine kci (BB := fun u H => MW D A AM CM u H) (krV (b := (AM 0)) X hl.1 hS hC (c_M_create l D A AM CM M_ (12 : Int32) _ hq) ki_M_create wd_425 wd_427 ws_M_create (mrecX X hC) ⟨rfl, rfl, Nat.le_of_ble_eq_true rfl, Nat.le_of_ble_eq_true rfl⟩ rfl rfl (Nat.le_of_ble_eq_true rfl) d_M_make_138 ⟨Nat.le_of_ble_eq_true rfl, Nat.le_of_ble_eq_true rfl⟩) hS (fun r138_56 K138_56 H locs hq hC hS => ?_)
          refine lv_istore (lv' := [(5, .int r138_56), (4, .int (1 : Int32)), (0, .ref (AM 0)), (1, .int z1), (2, .int z2), (3, .int z3)]) hx hb d_M_make_141 hl (by decide) rfl (fun ls hl => ?_)
          refine lv_iload_n hx hb d_M_make_143 rfl (lv_at hl 3 rfl) ?_
          refine lv_iconst (v := (2 : Int32)) hx hb d_M_make_144 (by decide) ?_
          refine lv_icmp_eq (tgt := 157) hx hb d_M_make_145 (by decide) (fun c_59 => ?_) (fun c_59 => ?_)
          · have hq := hq.1 c_59
            exact J157 K138_56 z1 z2 z3 (1 : Int32) r138_56 _ _ ls hq hC hS (lv_sub hl [2, 3, 4, 5, 1, 0] rfl)
          · have hq := hq.2 c_59
            refine lv_iload_n hx hb d_M_make_148 rfl (lv_at hl 3 rfl) ?_
            refine lv_iconst (v := (5 : Int32)) hx hb d_M_make_149 (by decide) ?_
            refine lv_icmp_ne (tgt := 166) hx hb d_M_make_150 (by decide) (fun c_58 => ?_) (fun c_58 => ?_)
            · have hq := hq.2 c_58
              exact J166 K138_56 z1 z2 z3 (1 : Int32) r138_56 _ _ ls hq hC hS (lv_sub hl [2, 3, 4, 5, 1, 0] rfl)
            · have hq := hq.1 c_58
              refine lv_iload_n hx hb d_M_make_153 rfl (lv_at hl 4 rfl) ?_
              refine lv_if_eq (tgt := 166) hx hb d_M_make_154 (by decide) (fun c_57 => ?_) (fun c_57 => ?_)
              · have hq := hq.1 c_57
                exact J166 K138_56 z1 z2 z3 (1 : Int32) r138_56 _ _ ls hq hC hS (lv_sub hl [2, 3, 4, 5, 1, 0] rfl)
              · have hq := hq.2 c_57
                exact J157 K138_56 z1 z2 z3 (1 : Int32) r138_56 _ _ ls hq hC hS (lv_sub hl [2, 3, 4, 5, 1, 0] rfl)
      · have hq := hq.1 c_61
        exact J89 M_ z1 z2 z3 (1 : Int32) _ _ ls hq hC hS (lv_sub hl [1, 2, 3, 4, 0] rfl)
  unfold w_M_make at hq
  refine lv_iload_n hx hb d_M_make_0 rfl (lv_at hl 1 rfl) ?_
  refine lv_iconst (v := (0 : Int32)) hx hb d_M_make_1 (by decide) ?_
  refine lv_bipush (v := (7 : Int32)) hx hb d_M_make_2 (by decide) ?_
  refine kci (BB := fun (_ : Unit) H => MW D A AM CM M H) (krS X hl.1 hS hC (c_M_in l D (tysM CM) A _ a1 (0 : Int32) (7 : Int32) _ hq) ki_M_in wd_422 wd_423 ⟨rfl, rfl, Nat.le_of_ble_eq_true rfl, Nat.le_of_ble_eq_true rfl⟩ rfl rfl (Nat.le_of_ble_eq_true rfl) d_M_make_4 ⟨Nat.le_of_ble_eq_true rfl, Nat.le_of_ble_eq_true rfl⟩) hS (fun r4_1 _u H locs hq hC hS => ?_)
  refine lv_if_ne (tgt := 12) hx hb d_M_make_7 (by decide) (fun c_67 => ?_) (fun c_67 => ?_)
  · have hq := hq.2 c_67
    refine lv_iload_n hx hb d_M_make_12 rfl (lv_at hl 2 rfl) ?_
    refine lv_if_eq (tgt := 34) hx hb d_M_make_13 (by decide) (fun c_66 => ?_) (fun c_66 => ?_)
    · have hq := hq.1 c_66
      refine lv_iload_n hx hb d_M_make_34 rfl (lv_at hl 1 rfl) ?_
      refine lv_if_eq (tgt := 59) hx hb d_M_make_35 (by decide) (fun c_36 => ?_) (fun c_36 => ?_)
      · have hq := hq.1 c_36
        exact J59 M a1 a2 a3 _ _ ls hq hC hS (lv_sub hl [0, 1, 2, 3] rfl)
      · have hq := hq.2 c_36
        refine lv_iload_n hx hb d_M_make_38 rfl (lv_at hl 1 rfl) ?_
        refine lv_iconst (v := (1 : Int32)) hx hb d_M_make_39 (by decide) ?_
        refine lv_icmp_eq (tgt := 59) hx hb d_M_make_40 (by decide) (fun c_35 => ?_) (fun c_35 => ?_)
        · have hq := hq.1 c_35
          exact J59 M a1 a2 a3 _ _ ls hq hC hS (lv_sub hl [0, 1, 2, 3] rfl)
        · have hq := hq.2 c_35
          refine lv_iload_n hx hb d_M_make_43 rfl (lv_at hl 1 rfl) ?_
          refine lv_iconst (v := (3 : Int32)) hx hb d_M_make_44 (by decide) ?_
          refine lv_icmp_eq (tgt := 59) hx hb d_M_make_45 (by decide) (fun c_34 => ?_) (fun c_34 => ?_)
          · have hq := hq.1 c_34
            exact J59 M a1 a2 a3 _ _ ls hq hC hS (lv_sub hl [0, 1, 2, 3] rfl)
          · have hq := hq.2 c_34
            refine lv_iload_n hx hb d_M_make_48 rfl (lv_at hl 1 rfl) ?_
            refine lv_iconst (v := (5 : Int32)) hx hb d_M_make_49 (by decide) ?_
            refine lv_icmp_eq (tgt := 59) hx hb d_M_make_50 (by decide) (fun c_33 => ?_) (fun c_33 => ?_)
            · have hq := hq.1 c_33
              exact J59 M a1 a2 a3 _ _ ls hq hC hS (lv_sub hl [0, 1, 2, 3] rfl)
            · have hq := hq.2 c_33
              refine lv_iload_n hx hb d_M_make_53 rfl (lv_at hl 1 rfl) ?_
              refine lv_bipush (v := (7 : Int32)) hx hb d_M_make_54 (by decide) ?_
              refine lv_icmp_ne (tgt := 63) hx hb d_M_make_56 (by decide) (fun c_32 => ?_) (fun c_32 => ?_)
              · have hq := hq.2 c_32
                refine lv_iconst (v := (0 : Int32)) hx hb d_M_make_63 (by decide) ?_
                refine lv_istore (lv' := [(4, .int (0 : Int32)), (0, .ref (AM 0)), (1, .int a1), (2, .int a2), (3, .int a3)]) hx hb d_M_make_64 hl (by decide) rfl (fun ls hl => ?_)
                refine lv_iload hx hb d_M_make_66 (lv_at hl 0 rfl) ?_
                refine lv_if_ne (tgt := 78) hx hb d_M_make_68 (by decide) (fun c_ => absurd (by decide) c_) (fun _ => ?_)
                refine lv_aload_n hx hb d_M_make_71 rfl (lv_at hl 1 rfl) ?_
                refine lv_iconst (v := (5 : Int32)) hx hb d_M_make_72 (by decide) ?_
                refine lv_lconst (v := (0 : Int64)) hx hb d_M_make_73 (by decide) ?_
                refine kci (BB := fun u H => MW D A AM CM u H) (krV (b := (AM 0)) X hl.1 hS hC (c_M_tell l D A AM CM M (5 : Int32) (0 : Int64) _ hq) ki_M_tell wd_430 wd_432 ws_M_tell (mrecX X hC) ⟨rfl, rfl, Nat.le_of_ble_eq_true rfl, Nat.le_of_ble_eq_true rfl⟩ rfl rfl (Nat.le_of_ble_eq_true rfl) d_M_make_74 ⟨Nat.le_of_ble_eq_true rfl, Nat.le_of_ble_eq_true rfl⟩) hS (fun r74_31 K74_31 H locs hq hC hS => ?_)
                exact hE r74_31 K74_31 _ _ _ _ _ ls hq hC hS (Nat.le_of_ble_eq_true rfl) (Nat.le_of_ble_eq_true rfl) d_M_make_77
              · have hq := hq.1 c_32
                exact J59 M a1 a2 a3 _ _ ls hq hC hS (lv_sub hl [0, 1, 2, 3] rfl)
    · have hq := hq.2 c_66
      refine lv_iload_n hx hb d_M_make_16 rfl (lv_at hl 1 rfl) ?_
      refine lv_iconst (v := (2 : Int32)) hx hb d_M_make_17 (by decide) ?_
      refine lv_icmp_eq (tgt := 26) hx hb d_M_make_18 (by decide) (fun c_65 => ?_) (fun c_65 => ?_)
      · have hq := hq.1 c_65
        exact J26 M a1 a2 a3 _ _ ls hq hC hS (lv_sub hl [0, 1, 2, 3] rfl)
      · have hq := hq.2 c_65
        refine lv_iload_n hx hb d_M_make_21 rfl (lv_at hl 1 rfl) ?_
        refine lv_iconst (v := (5 : Int32)) hx hb d_M_make_22 (by decide) ?_
        refine lv_icmp_lt (tgt := 30) hx hb d_M_make_23 (by decide) (fun c_64 => ?_) (fun c_64 => ?_)
        · have hq := hq.1 c_64
          refine lv_iconst (v := (0 : Int32)) hx hb d_M_make_30 (by decide) ?_
          refine lv_goto (tgt := 64) hx hb d_M_make_31 (by decide) ?_
          refine lv_istore (lv' := [(4, .int (0 : Int32)), (0, .ref (AM 0)), (1, .int a1), (2, .int a2), (3, .int a3)]) hx hb d_M_make_64 hl (by decide) rfl (fun ls hl => ?_)
          refine lv_iload hx hb d_M_make_66 (lv_at hl 0 rfl) ?_
          refine lv_if_ne (tgt := 78) hx hb d_M_make_68 (by decide) (fun c_ => absurd (by decide) c_) (fun _ => ?_)
          refine lv_aload_n hx hb d_M_make_71 rfl (lv_at hl 1 rfl) ?_
          refine lv_iconst (v := (5 : Int32)) hx hb d_M_make_72 (by decide) ?_
          refine lv_lconst (v := (0 : Int64)) hx hb d_M_make_73 (by decide) ?_
          refine kci (BB := fun u H => MW D A AM CM u H) (krV (b := (AM 0)) X hl.1 hS hC (c_M_tell l D A AM CM M (5 : Int32) (0 : Int64) _ hq) ki_M_tell wd_430 wd_432 ws_M_tell (mrecX X hC) ⟨rfl, rfl, Nat.le_of_ble_eq_true rfl, Nat.le_of_ble_eq_true rfl⟩ rfl rfl (Nat.le_of_ble_eq_true rfl) d_M_make_74 ⟨Nat.le_of_ble_eq_true rfl, Nat.le_of_ble_eq_true rfl⟩) hS (fun r74_63 K74_63 H locs hq hC hS => ?_)
          exact hE r74_63 K74_63 _ _ _ _ _ ls hq hC hS (Nat.le_of_ble_eq_true rfl) (Nat.le_of_ble_eq_true rfl) d_M_make_77
        · have hq := hq.2 c_64
          exact J26 M a1 a2 a3 _ _ ls hq hC hS (lv_sub hl [0, 1, 2, 3] rfl)
  · have hq := hq.1 c_67
    refine lv_iconst (v := (-1 : Int32)) hx hb d_M_make_10 (by decide) ?_
    exact hE (-1 : Int32) M _ _ _ _ _ ls hq hC hS (Nat.le_of_ble_eq_true rfl) (Nat.le_of_ble_eq_true rfl) d_M_make_11
def w_M_reach (M : MT) (a1 : Int32) (a2 : Int32) (post : Int32 → Prop) : Prop := ((a2 = (7 : Int32)) → (post (0 : Int32))) ∧ (¬ (a2 = (7 : Int32)) → (((a1 = (0 : Int32)) → (post (1 : Int32))) ∧ (¬ (a1 = (0 : Int32)) → ((vp_in a1 520) ∧ ((((m_sort M (a1).toNatClampNeg) = (11 : Int32)) → (post (0 : Int32))) ∧ (¬ ((m_sort M (a1).toNatClampNeg) = (11 : Int32)) → ((vp_in a1 520) ∧ ((((m_sort M (a1).toNatClampNeg) = (10 : Int32)) → (((a2 = (8 : Int32)) → (post (2 : Int32))) ∧ (¬ (a2 = (8 : Int32)) → (post (0 : Int32))))) ∧ (¬ ((m_sort M (a1).toNatClampNeg) = (10 : Int32)) → (post (2 : Int32)))))))))))
set_option maxHeartbeats 8000000 in
set_option maxRecDepth 100000 in
theorem c_M_reach (l : Launch) (D : va_G) (A : Nat → Prop) (AM : Nat → Nat) (CM : Nat → ClassId) (M : MT) (a1 : Int32) (a2 : Int32) (post : Int32 → Prop) (hq : w_M_reach M a1 a2 post) : Met l y_M_reach (kw y_M_reach b_M_reach 3 (Option.some Jvm.ClassFile.FieldType.int)) ({ frames := 0, cells := 0, slots := 0, locals := 0 }) (kP D (tysM CM) A [.ref (AM 0), .int a1, .int a2] (MW D A AM CM M)) (va_Qi (fun r (_ : Unit) => post r) (fun _ t => MW D A AM CM M t.heap) A) 0 0 A := by
  refine kmet_i (BB := (fun (_ : Unit) H => MW D A AM CM M H)) (lv := [(0, .ref (AM 0)), (1, .int a1), (2, .int a2)]) (by decide +kernel) rfl (Nat.le_of_ble_eq_true rfl) ?_
  intro p e s m args below meth c Q ls X hin hC hl hE
  have hx := X.x
  have hb := X.b
  have hS : va_S A s.heap s.heap [] := va_S.rf
  unfold w_M_reach at hq
  refine lv_iload_n hx hb d_M_reach_0 rfl (lv_at hl 2 rfl) ?_
  refine lv_bipush (v := (7 : Int32)) hx hb d_M_reach_1 (by decide) ?_
  refine lv_icmp_ne (tgt := 8) hx hb d_M_reach_3 (by decide) (fun c_5 => ?_) (fun c_5 => ?_)
  · have hq := hq.2 c_5
    refine lv_iload_n hx hb d_M_reach_8 rfl (lv_at hl 1 rfl) ?_
    refine lv_if_ne (tgt := 14) hx hb d_M_reach_9 (by decide) (fun c_4 => ?_) (fun c_4 => ?_)
    · have hq := hq.2 c_4
      refine lv_aload_n hx hb d_M_reach_14 rfl (lv_at hl 0 rfl) ?_
      refine mg_sort X hC d_M_reach_15 ?_
      refine lv_iload_n hx hb d_M_reach_18 rfl (lv_at hl 1 rfl) ?_
      have hs_ := hq.1
      have hq := hq.2
      refine ml_sort X hC hs_ d_M_reach_19 ?_
      refine lv_bipush (v := (11 : Int32)) hx hb d_M_reach_20 (by decide) ?_
      refine lv_icmp_eq (tgt := 42) hx hb d_M_reach_22 (by decide) (fun c_3 => ?_) (fun c_3 => ?_)
      · have hq := hq.1 c_3
        refine lv_iconst (v := (0 : Int32)) hx hb d_M_reach_42 (by decide) ?_
        refine lv_goto (tgt := 47) hx hb d_M_reach_43 (by decide) ?_
        exact hE (0 : Int32) () _ _ _ _ _ ls hq hC hS (Nat.le_of_ble_eq_true rfl) (Nat.le_of_ble_eq_true rfl) d_M_reach_47
      · have hq := hq.2 c_3
        refine lv_aload_n hx hb d_M_reach_25 rfl (lv_at hl 0 rfl) ?_
        refine mg_sort X hC d_M_reach_26 ?_
        refine lv_iload_n hx hb d_M_reach_29 rfl (lv_at hl 1 rfl) ?_
        have hs_ := hq.1
        have hq := hq.2
        refine ml_sort X hC hs_ d_M_reach_30 ?_
        refine lv_bipush (v := (10 : Int32)) hx hb d_M_reach_31 (by decide) ?_
        refine lv_icmp_ne (tgt := 46) hx hb d_M_reach_33 (by decide) (fun c_2 => ?_) (fun c_2 => ?_)
        · have hq := hq.2 c_2
          refine lv_iconst (v := (2 : Int32)) hx hb d_M_reach_46 (by decide) ?_
          exact hE (2 : Int32) () _ _ _ _ _ ls hq hC hS (Nat.le_of_ble_eq_true rfl) (Nat.le_of_ble_eq_true rfl) d_M_reach_47
        · have hq := hq.1 c_2
          refine lv_iload_n hx hb d_M_reach_36 rfl (lv_at hl 2 rfl) ?_
          refine lv_bipush (v := (8 : Int32)) hx hb d_M_reach_37 (by decide) ?_
          refine lv_icmp_eq (tgt := 46) hx hb d_M_reach_39 (by decide) (fun c_1 => ?_) (fun c_1 => ?_)
          · have hq := hq.1 c_1
            refine lv_iconst (v := (2 : Int32)) hx hb d_M_reach_46 (by decide) ?_
            exact hE (2 : Int32) () _ _ _ _ _ ls hq hC hS (Nat.le_of_ble_eq_true rfl) (Nat.le_of_ble_eq_true rfl) d_M_reach_47
          · have hq := hq.2 c_1
            refine lv_iconst (v := (0 : Int32)) hx hb d_M_reach_42 (by decide) ?_
            refine lv_goto (tgt := 47) hx hb d_M_reach_43 (by decide) ?_
            exact hE (0 : Int32) () _ _ _ _ _ ls hq hC hS (Nat.le_of_ble_eq_true rfl) (Nat.le_of_ble_eq_true rfl) d_M_reach_47
    · have hq := hq.1 c_4
      refine lv_iconst (v := (1 : Int32)) hx hb d_M_reach_12 (by decide) ?_
      exact hE (1 : Int32) () _ _ _ _ _ ls hq hC hS (Nat.le_of_ble_eq_true rfl) (Nat.le_of_ble_eq_true rfl) d_M_reach_13
  · have hq := hq.1 c_5
    refine lv_iconst (v := (0 : Int32)) hx hb d_M_reach_6 (by decide) ?_
    exact hE (0 : Int32) () _ _ _ _ _ ls hq hC hS (Nat.le_of_ble_eq_true rfl) (Nat.le_of_ble_eq_true rfl) d_M_reach_7
def w_M_kindOf (a1 : Int32) (post : Int32 → Prop) : Prop := ((a1 = (0 : Int32)) → (post (4 : Int32))) ∧ (¬ (a1 = (0 : Int32)) → (((a1 = (6 : Int32)) → (post (4 : Int32))) ∧ (¬ (a1 = (6 : Int32)) → (((a1 = (1 : Int32)) → (post (1 : Int32))) ∧ (¬ (a1 = (1 : Int32)) → (((a1 = (2 : Int32)) → (post (7 : Int32))) ∧ (¬ (a1 = (2 : Int32)) → (((a1 = (7 : Int32)) → (post (5 : Int32))) ∧ (¬ (a1 = (7 : Int32)) → (((a1 = (8 : Int32)) → (post (3 : Int32))) ∧ (¬ (a1 = (8 : Int32)) → (post (-1 : Int32)))))))))))))
set_option maxHeartbeats 8000000 in
set_option maxRecDepth 100000 in
theorem c_M_kindOf (l : Launch) (D : va_G) (tys : List (ClassId × FieldType)) (A : Nat → Prop) (B : Heap → Prop) (a1 : Int32) (post : Int32 → Prop) (hq : w_M_kindOf a1 post) : Met l y_M_kindOf (kw y_M_kindOf b_M_kindOf 1 (Option.some Jvm.ClassFile.FieldType.int)) ({ frames := 0, cells := 0, slots := 0, locals := 0 }) (kP D tys A [.int a1] B) (va_Qi (fun r (_ : Unit) => post r) (fun _ t => B t.heap) A) 0 0 A := by
  refine kmet_i (BB := (fun (_ : Unit) H => B H)) (lv := [(0, .int a1)]) (by decide +kernel) rfl (Nat.le_of_ble_eq_true rfl) ?_
  intro p e s m args below meth c Q ls X hin hC hl hE
  have hx := X.x
  have hb := X.b
  have hS : va_S A s.heap s.heap [] := va_S.rf
  unfold w_M_kindOf at hq
  refine lv_iload_n hx hb d_M_kindOf_0 rfl (lv_at hl 0 rfl) ?_
  refine lv_if_eq (tgt := 10) hx hb d_M_kindOf_1 (by decide) (fun c_6 => ?_) (fun c_6 => ?_)
  · have hq := hq.1 c_6
    refine lv_iconst (v := (4 : Int32)) hx hb d_M_kindOf_10 (by decide) ?_
    exact hE (4 : Int32) () _ _ _ _ _ ls hq hC hS (Nat.le_of_ble_eq_true rfl) (Nat.le_of_ble_eq_true rfl) d_M_kindOf_11
  · have hq := hq.2 c_6
    refine lv_iload_n hx hb d_M_kindOf_4 rfl (lv_at hl 0 rfl) ?_
    refine lv_bipush (v := (6 : Int32)) hx hb d_M_kindOf_5 (by decide) ?_
    refine lv_icmp_ne (tgt := 12) hx hb d_M_kindOf_7 (by decide) (fun c_5 => ?_) (fun c_5 => ?_)
    · have hq := hq.2 c_5
      refine lv_iload_n hx hb d_M_kindOf_12 rfl (lv_at hl 0 rfl) ?_
      refine lv_iconst (v := (1 : Int32)) hx hb d_M_kindOf_13 (by decide) ?_
      refine lv_icmp_ne (tgt := 19) hx hb d_M_kindOf_14 (by decide) (fun c_4 => ?_) (fun c_4 => ?_)
      · have hq := hq.2 c_4
        refine lv_iload_n hx hb d_M_kindOf_19 rfl (lv_at hl 0 rfl) ?_
        refine lv_iconst (v := (2 : Int32)) hx hb d_M_kindOf_20 (by decide) ?_
        refine lv_icmp_ne (tgt := 27) hx hb d_M_kindOf_21 (by decide) (fun c_3 => ?_) (fun c_3 => ?_)
        · have hq := hq.2 c_3
          refine lv_iload_n hx hb d_M_kindOf_27 rfl (lv_at hl 0 rfl) ?_
          refine lv_bipush (v := (7 : Int32)) hx hb d_M_kindOf_28 (by decide) ?_
          refine lv_icmp_ne (tgt := 35) hx hb d_M_kindOf_30 (by decide) (fun c_2 => ?_) (fun c_2 => ?_)
          · have hq := hq.2 c_2
            refine lv_iload_n hx hb d_M_kindOf_35 rfl (lv_at hl 0 rfl) ?_
            refine lv_bipush (v := (8 : Int32)) hx hb d_M_kindOf_36 (by decide) ?_
            refine lv_icmp_ne (tgt := 45) hx hb d_M_kindOf_38 (by decide) (fun c_1 => ?_) (fun c_1 => ?_)
            · have hq := hq.2 c_1
              refine lv_iconst (v := (-1 : Int32)) hx hb d_M_kindOf_45 (by decide) ?_
              exact hE (-1 : Int32) () _ _ _ _ _ ls hq hC hS (Nat.le_of_ble_eq_true rfl) (Nat.le_of_ble_eq_true rfl) d_M_kindOf_46
            · have hq := hq.1 c_1
              refine lv_iconst (v := (3 : Int32)) hx hb d_M_kindOf_41 (by decide) ?_
              refine lv_goto (tgt := 46) hx hb d_M_kindOf_42 (by decide) ?_
              exact hE (3 : Int32) () _ _ _ _ _ ls hq hC hS (Nat.le_of_ble_eq_true rfl) (Nat.le_of_ble_eq_true rfl) d_M_kindOf_46
          · have hq := hq.1 c_2
            refine lv_iconst (v := (5 : Int32)) hx hb d_M_kindOf_33 (by decide) ?_
            exact hE (5 : Int32) () _ _ _ _ _ ls hq hC hS (Nat.le_of_ble_eq_true rfl) (Nat.le_of_ble_eq_true rfl) d_M_kindOf_34
        · have hq := hq.1 c_3
          refine lv_bipush (v := (7 : Int32)) hx hb d_M_kindOf_24 (by decide) ?_
          exact hE (7 : Int32) () _ _ _ _ _ ls hq hC hS (Nat.le_of_ble_eq_true rfl) (Nat.le_of_ble_eq_true rfl) d_M_kindOf_26
      · have hq := hq.1 c_4
        refine lv_iconst (v := (1 : Int32)) hx hb d_M_kindOf_17 (by decide) ?_
        exact hE (1 : Int32) () _ _ _ _ _ ls hq hC hS (Nat.le_of_ble_eq_true rfl) (Nat.le_of_ble_eq_true rfl) d_M_kindOf_18
    · have hq := hq.1 c_5
      refine lv_iconst (v := (4 : Int32)) hx hb d_M_kindOf_10 (by decide) ?_
      exact hE (4 : Int32) () _ _ _ _ _ ls hq hC hS (Nat.le_of_ble_eq_true rfl) (Nat.le_of_ble_eq_true rfl) d_M_kindOf_11
def w_M_take_b89 (M_ : MT) (z1 : Int32) (z2 : Int32) (post : MT → Prop) : Prop := post M_
def w_M_take_b72 (M_ : MT) (z1 : Int32) (z2 : Int32) (post : MT → Prop) : Prop := ((z2 = (8 : Int32)) → ((vp_in z1 520) ∧ (w_M_take_b89 (ms_wholeNow M_ (m_extra M_ (z1).toNatClampNeg).toInt64) z1 z2 post))) ∧ (¬ (z2 = (8 : Int32)) → (w_M_take_b89 M_ z1 z2 post))
def w_M_take_b58 (M_ : MT) (z1 : Int32) (z2 : Int32) (post : MT → Prop) : Prop := ((z2 = (7 : Int32)) → (w_M_take_b72 (ms_wholeNow M_ (m_shared M_)) z1 z2 post)) ∧ (¬ (z2 = (7 : Int32)) → (w_M_take_b72 M_ z1 z2 post))
def w_M_take_b45 (M_ : MT) (z1 : Int32) (z2 : Int32) (post : MT → Prop) : Prop := ((z2 = (6 : Int32)) → (w_M_take_b58 (ms_wholeNow M_ (7 : Int64)) z1 z2 post)) ∧ (¬ (z2 = (6 : Int32)) → (w_M_take_b58 M_ z1 z2 post))
def w_M_take_b30 (M_ : MT) (z1 : Int32) (z2 : Int32) (post : MT → Prop) : Prop := ((z2 = (2 : Int32)) → ((vp_in z1 520) ∧ (w_M_take_b45 (ms_realNow M_ (m_real M_ (z1).toNatClampNeg)) z1 z2 post))) ∧ (¬ (z2 = (2 : Int32)) → (w_M_take_b45 M_ z1 z2 post))
def w_M_take_b14 (M_ : MT) (z1 : Int32) (z2 : Int32) (post : MT → Prop) : Prop := ((z2 = (1 : Int32)) → ((vp_in z1 520) ∧ (w_M_take_b30 (ms_wholeNow M_ (m_small M_ (z1).toNatClampNeg).toInt64) z1 z2 post))) ∧ (¬ (z2 = (1 : Int32)) → (w_M_take_b30 M_ z1 z2 post))
def w_M_take (M : MT) (a1 : Int32) (a2 : Int32) (post : MT → Prop) : Prop := ((a2 = (0 : Int32)) → ((vp_in a1 520) ∧ (w_M_take_b14 (ms_wholeNow M (m_whole M (a1).toNatClampNeg)) a1 a2 post))) ∧ (¬ (a2 = (0 : Int32)) → (w_M_take_b14 M a1 a2 post))
set_option maxHeartbeats 8000000 in
set_option maxRecDepth 100000 in
theorem c_M_take (l : Launch) (D : va_G) (A : Nat → Prop) (AM : Nat → Nat) (CM : Nat → ClassId) (M : MT) (a1 : Int32) (a2 : Int32) (post : MT → Prop) (hq : w_M_take M a1 a2 post) : Met l y_M_take (kw y_M_take b_M_take 3 (Option.none : Option Jvm.ClassFile.FieldType)) ({ frames := 0, cells := 0, slots := 0, locals := 0 }) (kP D (tysM CM) A [.ref (AM 0), .int a1, .int a2] (MW D A AM CM M)) (va_Qv post (fun u t => MW D A AM CM u t.heap) A) 0 0 A := by
  refine kmet_v (BB := (fun u H => MW D A AM CM u H)) (lv := [(0, .ref (AM 0)), (1, .int a1), (2, .int a2)]) (by decide +kernel) rfl (Nat.le_of_ble_eq_true rfl) ?_
  intro p e s m args below meth c Q ls X hin hC hl hE
  have hx := X.x
  have hb := X.b
  have hS : va_S A s.heap s.heap [] := va_S.rf
  have J89 : ∀ (M_ : MT) (z1 : Int32) (z2 : Int32) (H : Heap) (locs : List Loc) (ls : Array Slot), w_M_take_b89 M_ z1 z2 post → MW D A AM CM M_ H → va_S A s.heap H locs → lv_has ls 3 [(0, .ref (AM 0)), (1, .int z1), (2, .int z2)] → W p l e ({ frames := 0, cells := 0, slots := 0, locals := 0 }) s m args below meth c H locs 0 0 Q (F0 m 89 ls []) := by
    intro M_ z1 z2 H locs ls hq hC hS hl
    unfold w_M_take_b89 at hq
    exact hE M_ _ _ _ _ _ ls hq hC hS (Nat.le_of_ble_eq_true rfl) (Nat.le_of_ble_eq_true rfl) d_M_take_89
  have J72 : ∀ (M_ : MT) (z1 : Int32) (z2 : Int32) (H : Heap) (locs : List Loc) (ls : Array Slot), w_M_take_b72 M_ z1 z2 post → MW D A AM CM M_ H → va_S A s.heap H locs → lv_has ls 3 [(0, .ref (AM 0)), (1, .int z1), (2, .int z2)] → W p l e ({ frames := 0, cells := 0, slots := 0, locals := 0 }) s m args below meth c H locs 0 0 Q (F0 m 72 ls []) := by
    intro M_ z1 z2 H locs ls hq hC hS hl
    unfold w_M_take_b72 at hq
    refine lv_iload_n hx hb d_M_take_72 rfl (lv_at hl 2 rfl) ?_
    refine lv_bipush (v := (8 : Int32)) hx hb d_M_take_73 (by decide) ?_
    refine lv_icmp_ne (tgt := 89) hx hb d_M_take_75 (by decide) (fun c_1 => ?_) (fun c_1 => ?_)
    · have hq := hq.2 c_1
      exact J89 M_ z1 z2 _ _ ls hq hC hS (lv_sub hl [0, 1, 2] rfl)
    · have hq := hq.1 c_1
      refine lv_aload_n hx hb d_M_take_78 rfl (lv_at hl 0 rfl) ?_
      refine lv_aload_n hx hb d_M_take_79 rfl (lv_at hl 0 rfl) ?_
      refine mg_extra X hC d_M_take_80 ?_
      refine lv_iload_n hx hb d_M_take_83 rfl (lv_at hl 1 rfl) ?_
      have hs_ := hq.1
      have hq := hq.2
      refine ml_extra X hC hs_ d_M_take_84 ?_
      refine lv_i2l hx hb d_M_take_85 rfl ?_
      refine mp_wholeNow X hC hS d_M_take_86 (fun H locs hC hS => ?_)
      exact J89 (ms_wholeNow M_ (m_extra M_ (z1).toNatClampNeg).toInt64) z1 z2 _ _ ls hq hC hS (lv_sub hl [0, 1, 2] rfl)
  have J58 : ∀ (M_ : MT) (z1 : Int32) (z2 : Int32) (H : Heap) (locs : List Loc) (ls : Array Slot), w_M_take_b58 M_ z1 z2 post → MW D A AM CM M_ H → va_S A s.heap H locs → lv_has ls 3 [(0, .ref (AM 0)), (1, .int z1), (2, .int z2)] → W p l e ({ frames := 0, cells := 0, slots := 0, locals := 0 }) s m args below meth c H locs 0 0 Q (F0 m 58 ls []) := by
    intro M_ z1 z2 H locs ls hq hC hS hl
    unfold w_M_take_b58 at hq
    refine lv_iload_n hx hb d_M_take_58 rfl (lv_at hl 2 rfl) ?_
    refine lv_bipush (v := (7 : Int32)) hx hb d_M_take_59 (by decide) ?_
    refine lv_icmp_ne (tgt := 72) hx hb d_M_take_61 (by decide) (fun c_2 => ?_) (fun c_2 => ?_)
    · have hq := hq.2 c_2
      exact J72 M_ z1 z2 _ _ ls hq hC hS (lv_sub hl [0, 1, 2] rfl)
    · have hq := hq.1 c_2
      refine lv_aload_n hx hb d_M_take_64 rfl (lv_at hl 0 rfl) ?_
      refine lv_aload_n hx hb d_M_take_65 rfl (lv_at hl 0 rfl) ?_
      refine mg_shared X hC d_M_take_66 ?_
      refine mp_wholeNow X hC hS d_M_take_69 (fun H locs hC hS => ?_)
      exact J72 (ms_wholeNow M_ (m_shared M_)) z1 z2 _ _ ls hq hC hS (lv_sub hl [0, 1, 2] rfl)
  have J45 : ∀ (M_ : MT) (z1 : Int32) (z2 : Int32) (H : Heap) (locs : List Loc) (ls : Array Slot), w_M_take_b45 M_ z1 z2 post → MW D A AM CM M_ H → va_S A s.heap H locs → lv_has ls 3 [(0, .ref (AM 0)), (1, .int z1), (2, .int z2)] → W p l e ({ frames := 0, cells := 0, slots := 0, locals := 0 }) s m args below meth c H locs 0 0 Q (F0 m 45 ls []) := by
    intro M_ z1 z2 H locs ls hq hC hS hl
    unfold w_M_take_b45 at hq
    refine lv_iload_n hx hb d_M_take_45 rfl (lv_at hl 2 rfl) ?_
    refine lv_bipush (v := (6 : Int32)) hx hb d_M_take_46 (by decide) ?_
    refine lv_icmp_ne (tgt := 58) hx hb d_M_take_48 (by decide) (fun c_3 => ?_) (fun c_3 => ?_)
    · have hq := hq.2 c_3
      exact J58 M_ z1 z2 _ _ ls hq hC hS (lv_sub hl [0, 1, 2] rfl)
    · have hq := hq.1 c_3
      refine lv_aload_n hx hb d_M_take_51 rfl (lv_at hl 0 rfl) ?_
      refine lv_ldc2 hx hb X.o (X.t _ wd_464) d_M_take_52 ?_
      refine mp_wholeNow X hC hS d_M_take_55 (fun H locs hC hS => ?_)
      exact J58 (ms_wholeNow M_ (7 : Int64)) z1 z2 _ _ ls hq hC hS (lv_sub hl [0, 1, 2] rfl)
  have J30 : ∀ (M_ : MT) (z1 : Int32) (z2 : Int32) (H : Heap) (locs : List Loc) (ls : Array Slot), w_M_take_b30 M_ z1 z2 post → MW D A AM CM M_ H → va_S A s.heap H locs → lv_has ls 3 [(0, .ref (AM 0)), (1, .int z1), (2, .int z2)] → W p l e ({ frames := 0, cells := 0, slots := 0, locals := 0 }) s m args below meth c H locs 0 0 Q (F0 m 30 ls []) := by
    intro M_ z1 z2 H locs ls hq hC hS hl
    unfold w_M_take_b30 at hq
    refine lv_iload_n hx hb d_M_take_30 rfl (lv_at hl 2 rfl) ?_
    refine lv_iconst (v := (2 : Int32)) hx hb d_M_take_31 (by decide) ?_
    refine lv_icmp_ne (tgt := 45) hx hb d_M_take_32 (by decide) (fun c_4 => ?_) (fun c_4 => ?_)
    · have hq := hq.2 c_4
      exact J45 M_ z1 z2 _ _ ls hq hC hS (lv_sub hl [0, 1, 2] rfl)
    · have hq := hq.1 c_4
      refine lv_aload_n hx hb d_M_take_35 rfl (lv_at hl 0 rfl) ?_
      refine lv_aload_n hx hb d_M_take_36 rfl (lv_at hl 0 rfl) ?_
      refine mg_real X hC d_M_take_37 ?_
      refine lv_iload_n hx hb d_M_take_40 rfl (lv_at hl 1 rfl) ?_
      have hs_ := hq.1
      have hq := hq.2
      refine ml_real X hC hs_ d_M_take_41 ?_
      refine mp_realNow X hC hS d_M_take_42 (fun H locs hC hS => ?_)
      exact J45 (ms_realNow M_ (m_real M_ (z1).toNatClampNeg)) z1 z2 _ _ ls hq hC hS (lv_sub hl [0, 1, 2] rfl)
  have J14 : ∀ (M_ : MT) (z1 : Int32) (z2 : Int32) (H : Heap) (locs : List Loc) (ls : Array Slot), w_M_take_b14 M_ z1 z2 post → MW D A AM CM M_ H → va_S A s.heap H locs → lv_has ls 3 [(0, .ref (AM 0)), (1, .int z1), (2, .int z2)] → W p l e ({ frames := 0, cells := 0, slots := 0, locals := 0 }) s m args below meth c H locs 0 0 Q (F0 m 14 ls []) := by
    intro M_ z1 z2 H locs ls hq hC hS hl
    unfold w_M_take_b14 at hq
    refine lv_iload_n hx hb d_M_take_14 rfl (lv_at hl 2 rfl) ?_
    refine lv_iconst (v := (1 : Int32)) hx hb d_M_take_15 (by decide) ?_
    refine lv_icmp_ne (tgt := 30) hx hb d_M_take_16 (by decide) (fun c_5 => ?_) (fun c_5 => ?_)
    · have hq := hq.2 c_5
      exact J30 M_ z1 z2 _ _ ls hq hC hS (lv_sub hl [0, 1, 2] rfl)
    · have hq := hq.1 c_5
      refine lv_aload_n hx hb d_M_take_19 rfl (lv_at hl 0 rfl) ?_
      refine lv_aload_n hx hb d_M_take_20 rfl (lv_at hl 0 rfl) ?_
      refine mg_small X hC d_M_take_21 ?_
      refine lv_iload_n hx hb d_M_take_24 rfl (lv_at hl 1 rfl) ?_
      have hs_ := hq.1
      have hq := hq.2
      refine ml_small X hC hs_ d_M_take_25 ?_
      refine lv_i2l hx hb d_M_take_26 rfl ?_
      refine mp_wholeNow X hC hS d_M_take_27 (fun H locs hC hS => ?_)
      exact J30 (ms_wholeNow M_ (m_small M_ (z1).toNatClampNeg).toInt64) z1 z2 _ _ ls hq hC hS (lv_sub hl [0, 1, 2] rfl)
  unfold w_M_take at hq
  refine lv_iload_n hx hb d_M_take_0 rfl (lv_at hl 2 rfl) ?_
  refine lv_if_ne (tgt := 14) hx hb d_M_take_1 (by decide) (fun c_6 => ?_) (fun c_6 => ?_)
  · have hq := hq.2 c_6
    exact J14 M a1 a2 _ _ ls hq hC hS (lv_sub hl [0, 1, 2] rfl)
  · have hq := hq.1 c_6
    refine lv_aload_n hx hb d_M_take_4 rfl (lv_at hl 0 rfl) ?_
    refine lv_aload_n hx hb d_M_take_5 rfl (lv_at hl 0 rfl) ?_
    refine mg_whole X hC d_M_take_6 ?_
    refine lv_iload_n hx hb d_M_take_9 rfl (lv_at hl 1 rfl) ?_
    have hs_ := hq.1
    have hq := hq.2
    refine ml_whole X hC hs_ d_M_take_10 ?_
    refine mp_wholeNow X hC hS d_M_take_11 (fun H locs hC hS => ?_)
    exact J14 (ms_wholeNow M (m_whole M (a1).toNatClampNeg)) a1 a2 _ _ ls hq hC hS (lv_sub hl [0, 1, 2] rfl)
def w_M_get (M : MT) (a1 : Int32) (a2 : Int32) (post : Int32 → MT → Prop) : Prop := w_M_in a1 (0 : Int32) (8 : Int32) (fun r4_1 => ((r4_1 = (0 : Int32)) → (post (-1 : Int32) M)) ∧ (¬ (r4_1 = (0 : Int32)) → (w_M_in a2 (0 : Int32) (8 : Int32) (fun r14_2 => ((r14_2 = (0 : Int32)) → (post (-1 : Int32) M)) ∧ (¬ (r14_2 = (0 : Int32)) → ((vp_in a1 9) ∧ (w_M_reach M (m_held M (a1).toNatClampNeg) a2 (fun r32_3 => ((r32_3 = (0 : Int32)) → (w_M_kindOf a2 (fun r51_4 => ((r51_4 < (0 : Int32)) → (((a2 = (3 : Int32)) → ((vp_in (m_held M (a1).toNatClampNeg) 520) ∧ ((vp_in (8 : Int32) 9) ∧ (w_M_tell (ms_held M ((8 : Int32)).toNatClampNeg (m_text M ((m_held M (a1).toNatClampNeg)).toNatClampNeg)) (0 : Int32) (0 : Int64) (fun r125_8 K125_8 => post r125_8 K125_8))))) ∧ (¬ (a2 = (3 : Int32)) → (((a2 = (4 : Int32)) → ((vp_in (m_held M (a1).toNatClampNeg) 520) ∧ ((vp_in (8 : Int32) 9) ∧ (w_M_tell (ms_held M ((8 : Int32)).toNatClampNeg (m_any M ((m_held M (a1).toNatClampNeg)).toNatClampNeg)) (0 : Int32) (0 : Int64) (fun r125_6 K125_6 => post r125_6 K125_6))))) ∧ (¬ (a2 = (4 : Int32)) → ((vp_in (m_held M (a1).toNatClampNeg) 520) ∧ ((vp_in (8 : Int32) 9) ∧ (w_M_tell (ms_held M ((8 : Int32)).toNatClampNeg (m_next M ((m_held M (a1).toNatClampNeg)).toNatClampNeg)) (0 : Int32) (0 : Int64) (fun r125_5 K125_5 => post r125_5 K125_5))))))))) ∧ (¬ (r51_4 < (0 : Int32)) → (w_M_take M (m_held M (a1).toNatClampNeg) a2 (fun K60_10 => w_M_kindOf a2 (fun r71_11 => w_M_box K60_10 r71_11 (fun r74_12 K74_12 => (vp_in (8 : Int32) 9) ∧ (w_M_tell (ms_held K74_12 ((8 : Int32)).toNatClampNeg r74_12) (0 : Int32) (0 : Int64) (fun r125_13 K125_13 => post r125_13 K125_13)))))))))) ∧ (¬ (r32_3 = (0 : Int32)) → (w_M_tell M r32_3 (0 : Int64) (fun r46_15 K46_15 => post r46_15 K46_15)))))))))))
set_option maxHeartbeats 8000000 in
set_option maxRecDepth 100000 in
theorem c_M_get (l : Launch) (D : va_G) (A : Nat → Prop) (AM : Nat → Nat) (CM : Nat → ClassId) (M : MT) (a1 : Int32) (a2 : Int32) (post : Int32 → MT → Prop) (hq : w_M_get M a1 a2 post) : Met l y_M_get (kw y_M_get b_M_get 5 (Option.some Jvm.ClassFile.FieldType.int)) ({ frames := 2, cells := 0, slots := 0, locals := 43 }) (kP D (tysM CM) A [.ref (AM 0), .int a1, .int a2] (MW D A AM CM M)) (va_Qi post (fun u t => MW D A AM CM u t.heap) A) 0 0 A := by
  refine kmet_i (BB := (fun u H => MW D A AM CM u H)) (lv := [(0, .ref (AM 0)), (1, .int a1), (2, .int a2)]) (by decide +kernel) rfl (Nat.le_of_ble_eq_true rfl) ?_
  intro p e s m args below meth c Q ls X hin hC hl hE
  have hx := X.x
  have hb := X.b
  have hS : va_S A s.heap s.heap [] := va_S.rf
  unfold w_M_get at hq
  refine lv_iload_n hx hb d_M_get_0 rfl (lv_at hl 1 rfl) ?_
  refine lv_iconst (v := (0 : Int32)) hx hb d_M_get_1 (by decide) ?_
  refine lv_bipush (v := (8 : Int32)) hx hb d_M_get_2 (by decide) ?_
  refine kci (BB := fun (_ : Unit) H => MW D A AM CM M H) (krS X hl.1 hS hC (c_M_in l D (tysM CM) A _ a1 (0 : Int32) (8 : Int32) _ hq) ki_M_in wd_422 wd_423 ⟨rfl, rfl, Nat.le_of_ble_eq_true rfl, Nat.le_of_ble_eq_true rfl⟩ rfl rfl (Nat.le_of_ble_eq_true rfl) d_M_get_4 ⟨Nat.le_of_ble_eq_true rfl, Nat.le_of_ble_eq_true rfl⟩) hS (fun r4_1 _u H locs hq hC hS => ?_)
  refine lv_if_eq (tgt := 20) hx hb d_M_get_7 (by decide) (fun c_18 => ?_) (fun c_18 => ?_)
  · have hq := hq.1 c_18
    refine lv_iconst (v := (-1 : Int32)) hx hb d_M_get_20 (by decide) ?_
    exact hE (-1 : Int32) M _ _ _ _ _ ls hq hC hS (Nat.le_of_ble_eq_true rfl) (Nat.le_of_ble_eq_true rfl) d_M_get_21
  · have hq := hq.2 c_18
    refine lv_iload_n hx hb d_M_get_10 rfl (lv_at hl 2 rfl) ?_
    refine lv_iconst (v := (0 : Int32)) hx hb d_M_get_11 (by decide) ?_
    refine lv_bipush (v := (8 : Int32)) hx hb d_M_get_12 (by decide) ?_
    refine kci (BB := fun (_ : Unit) H => MW D A AM CM M H) (krS X hl.1 hS hC (c_M_in l D (tysM CM) A _ a2 (0 : Int32) (8 : Int32) _ hq) ki_M_in wd_422 wd_423 ⟨rfl, rfl, Nat.le_of_ble_eq_true rfl, Nat.le_of_ble_eq_true rfl⟩ rfl rfl (Nat.le_of_ble_eq_true rfl) d_M_get_14 ⟨Nat.le_of_ble_eq_true rfl, Nat.le_of_ble_eq_true rfl⟩) hS (fun r14_2 _u H locs hq hC hS => ?_)
    refine lv_if_ne (tgt := 22) hx hb d_M_get_17 (by decide) (fun c_17 => ?_) (fun c_17 => ?_)
    · have hq := hq.2 c_17
      refine lv_aload_n hx hb d_M_get_22 rfl (lv_at hl 0 rfl) ?_
      refine mg_held X hC d_M_get_23 ?_
      refine lv_iload_n hx hb d_M_get_26 rfl (lv_at hl 1 rfl) ?_
      have hs_ := hq.1
      have hq := hq.2
      refine ml_held X hC hs_ d_M_get_27 ?_
      refine lv_istore_n (lv' := [(3, .int (m_held M (a1).toNatClampNeg)), (0, .ref (AM 0)), (1, .int a1), (2, .int a2)]) hx hb d_M_get_28 rfl hl (by decide) rfl (fun ls hl => ?_)
      refine lv_aload_n hx hb d_M_get_29 rfl (lv_at hl 1 rfl) ?_
      refine lv_iload_n hx hb d_M_get_30 rfl (lv_at hl 0 rfl) ?_
      refine lv_iload_n hx hb d_M_get_31 rfl (lv_at hl 3 rfl) ?_
      refine kci (BB := fun (_ : Unit) H => MW D A AM CM M H) (krV (b := (AM 0)) X hl.1 hS hC (c_M_reach l D A AM CM M (m_held M (a1).toNatClampNeg) a2 _ hq) ki_M_reach wd_453 wd_455 ws_M_reach (mrecX X hC) ⟨rfl, rfl, Nat.le_of_ble_eq_true rfl, Nat.le_of_ble_eq_true rfl⟩ rfl rfl (Nat.le_of_ble_eq_true rfl) d_M_get_32 ⟨Nat.le_of_ble_eq_true rfl, Nat.le_of_ble_eq_true rfl⟩) hS (fun r32_3 _u H locs hq hC hS => ?_)
      refine lv_istore (lv' := [(4, .int r32_3), (3, .int (m_held M (a1).toNatClampNeg)), (0, .ref (AM 0)), (1, .int a1), (2, .int a2)]) hx hb d_M_get_35 hl (by decide) rfl (fun ls hl => ?_)
      refine lv_iload hx hb d_M_get_37 (lv_at hl 0 rfl) ?_
      refine lv_if_eq (tgt := 50) hx hb d_M_get_39 (by decide) (fun c_16 => ?_) (fun c_16 => ?_)
      · have hq := hq.1 c_16
        refine lv_iload_n hx hb d_M_get_50 rfl (lv_at hl 4 rfl) ?_
        refine kci (BB := fun (_ : Unit) H => MW D A AM CM M H) (krS X hl.1 hS hC (c_M_kindOf l D (tysM CM) A _ a2 _ hq) ki_M_kindOf wd_457 wd_458 ⟨rfl, rfl, Nat.le_of_ble_eq_true rfl, Nat.le_of_ble_eq_true rfl⟩ rfl rfl (Nat.le_of_ble_eq_true rfl) d_M_get_51 ⟨Nat.le_of_ble_eq_true rfl, Nat.le_of_ble_eq_true rfl⟩) hS (fun r51_4 _u H locs hq hC hS => ?_)
        refine lv_if_lt (tgt := 81) hx hb d_M_get_54 (by decide) (fun c_14 => ?_) (fun c_14 => ?_)
        · have hq := hq.1 c_14
          refine lv_aload_n hx hb d_M_get_81 rfl (lv_at hl 2 rfl) ?_
          refine mg_held X hC d_M_get_82 ?_
          refine lv_bipush (v := (8 : Int32)) hx hb d_M_get_85 (by decide) ?_
          refine lv_iload_n hx hb d_M_get_87 rfl (lv_at hl 4 rfl) ?_
          refine lv_iconst (v := (3 : Int32)) hx hb d_M_get_88 (by decide) ?_
          refine lv_icmp_ne (tgt := 101) hx hb d_M_get_89 (by decide) (fun c_9 => ?_) (fun c_9 => ?_)
          · have hq := hq.2 c_9
            refine lv_iload_n hx hb d_M_get_101 rfl (lv_at hl 4 rfl) ?_
            refine lv_iconst (v := (4 : Int32)) hx hb d_M_get_102 (by decide) ?_
            refine lv_icmp_ne (tgt := 115) hx hb d_M_get_103 (by decide) (fun c_7 => ?_) (fun c_7 => ?_)
            · have hq := hq.2 c_7
              refine lv_aload_n hx hb d_M_get_115 rfl (lv_at hl 2 rfl) ?_
              refine mg_next X hC d_M_get_116 ?_
              refine lv_iload_n hx hb d_M_get_119 rfl (lv_at hl 1 rfl) ?_
              have hs_ := hq.1
              have hq := hq.2
              refine ml_next X hC hs_ d_M_get_120 ?_
              have hs_ := hq.1
              have hq := hq.2
              refine mt_held X hC hS hs_ d_M_get_121 (fun H locs hC hS => ?_)
              refine lv_aload_n hx hb d_M_get_122 rfl (lv_at hl 2 rfl) ?_
              refine lv_iconst (v := (0 : Int32)) hx hb d_M_get_123 (by decide) ?_
              refine lv_lconst (v := (0 : Int64)) hx hb d_M_get_124 (by decide) ?_
              refine kci (BB := fun u H => MW D A AM CM u H) (krV (b := (AM 0)) X hl.1 hS hC (c_M_tell l D A AM CM (ms_held M ((8 : Int32)).toNatClampNeg (m_next M ((m_held M (a1).toNatClampNeg)).toNatClampNeg)) (0 : Int32) (0 : Int64) _ hq) ki_M_tell wd_430 wd_432 ws_M_tell (mrecX X hC) ⟨rfl, rfl, Nat.le_of_ble_eq_true rfl, Nat.le_of_ble_eq_true rfl⟩ rfl rfl (Nat.le_of_ble_eq_true rfl) d_M_get_125 ⟨Nat.le_of_ble_eq_true rfl, Nat.le_of_ble_eq_true rfl⟩) hS (fun r125_5 K125_5 H locs hq hC hS => ?_)
              exact hE r125_5 K125_5 _ _ _ _ _ ls hq hC hS (Nat.le_of_ble_eq_true rfl) (Nat.le_of_ble_eq_true rfl) d_M_get_128
            · have hq := hq.1 c_7
              refine lv_aload_n hx hb d_M_get_106 rfl (lv_at hl 2 rfl) ?_
              refine mg_any X hC d_M_get_107 ?_
              refine lv_iload_n hx hb d_M_get_110 rfl (lv_at hl 1 rfl) ?_
              have hs_ := hq.1
              have hq := hq.2
              refine ml_any X hC hs_ d_M_get_111 ?_
              refine lv_goto (tgt := 121) hx hb d_M_get_112 (by decide) ?_
              have hs_ := hq.1
              have hq := hq.2
              refine mt_held X hC hS hs_ d_M_get_121 (fun H locs hC hS => ?_)
              refine lv_aload_n hx hb d_M_get_122 rfl (lv_at hl 2 rfl) ?_
              refine lv_iconst (v := (0 : Int32)) hx hb d_M_get_123 (by decide) ?_
              refine lv_lconst (v := (0 : Int64)) hx hb d_M_get_124 (by decide) ?_
              refine kci (BB := fun u H => MW D A AM CM u H) (krV (b := (AM 0)) X hl.1 hS hC (c_M_tell l D A AM CM (ms_held M ((8 : Int32)).toNatClampNeg (m_any M ((m_held M (a1).toNatClampNeg)).toNatClampNeg)) (0 : Int32) (0 : Int64) _ hq) ki_M_tell wd_430 wd_432 ws_M_tell (mrecX X hC) ⟨rfl, rfl, Nat.le_of_ble_eq_true rfl, Nat.le_of_ble_eq_true rfl⟩ rfl rfl (Nat.le_of_ble_eq_true rfl) d_M_get_125 ⟨Nat.le_of_ble_eq_true rfl, Nat.le_of_ble_eq_true rfl⟩) hS (fun r125_6 K125_6 H locs hq hC hS => ?_)
              exact hE r125_6 K125_6 _ _ _ _ _ ls hq hC hS (Nat.le_of_ble_eq_true rfl) (Nat.le_of_ble_eq_true rfl) d_M_get_128
          · have hq := hq.1 c_9
            refine lv_aload_n hx hb d_M_get_92 rfl (lv_at hl 2 rfl) ?_
            refine mg_text X hC d_M_get_93 ?_
            refine lv_iload_n hx hb d_M_get_96 rfl (lv_at hl 1 rfl) ?_
            have hs_ := hq.1
            have hq := hq.2
            refine ml_text X hC hs_ d_M_get_97 ?_
            refine lv_goto (tgt := 121) hx hb d_M_get_98 (by decide) ?_
            have hs_ := hq.1
            have hq := hq.2
            refine mt_held X hC hS hs_ d_M_get_121 (fun H locs hC hS => ?_)
            refine lv_aload_n hx hb d_M_get_122 rfl (lv_at hl 2 rfl) ?_
            refine lv_iconst (v := (0 : Int32)) hx hb d_M_get_123 (by decide) ?_
            refine lv_lconst (v := (0 : Int64)) hx hb d_M_get_124 (by decide) ?_
            refine kci (BB := fun u H => MW D A AM CM u H) (krV (b := (AM 0)) X hl.1 hS hC (c_M_tell l D A AM CM (ms_held M ((8 : Int32)).toNatClampNeg (m_text M ((m_held M (a1).toNatClampNeg)).toNatClampNeg)) (0 : Int32) (0 : Int64) _ hq) ki_M_tell wd_430 wd_432 ws_M_tell (mrecX X hC) ⟨rfl, rfl, Nat.le_of_ble_eq_true rfl, Nat.le_of_ble_eq_true rfl⟩ rfl rfl (Nat.le_of_ble_eq_true rfl) d_M_get_125 ⟨Nat.le_of_ble_eq_true rfl, Nat.le_of_ble_eq_true rfl⟩) hS (fun r125_8 K125_8 H locs hq hC hS => ?_)
            exact hE r125_8 K125_8 _ _ _ _ _ ls hq hC hS (Nat.le_of_ble_eq_true rfl) (Nat.le_of_ble_eq_true rfl) d_M_get_128
        · have hq := hq.2 c_14
          refine lv_aload_n hx hb d_M_get_57 rfl (lv_at hl 2 rfl) ?_
          refine lv_iload_n hx hb d_M_get_58 rfl (lv_at hl 1 rfl) ?_
          refine lv_iload_n hx hb d_M_get_59 rfl (lv_at hl 4 rfl) ?_
          refine kcv (BB := fun u H => MW D A AM CM u H) (krV (b := (AM 0)) X hl.1 hS hC (c_M_take l D A AM CM M (m_held M (a1).toNatClampNeg) a2 _ hq) ki_M_take wd_460 wd_462 ws_M_take (mrecX X hC) ⟨rfl, rfl, Nat.le_of_ble_eq_true rfl, Nat.le_of_ble_eq_true rfl⟩ rfl rfl (Nat.le_of_ble_eq_true rfl) d_M_get_60 ⟨Nat.le_of_ble_eq_true rfl, Nat.le_of_ble_eq_true rfl⟩) hS (fun K60_10 H locs hq hC hS => ?_)
          refine lv_aload_n hx hb d_M_get_63 rfl (lv_at hl 2 rfl) ?_
          refine mg_held X hC d_M_get_64 ?_
          refine lv_bipush (v := (8 : Int32)) hx hb d_M_get_67 (by decide) ?_
          refine lv_aload_n hx hb d_M_get_69 rfl (lv_at hl 2 rfl) ?_
          refine lv_iload_n hx hb d_M_get_70 rfl (lv_at hl 4 rfl) ?_
          refine kci (BB := fun (_ : Unit) H => MW D A AM CM K60_10 H) (krS X hl.1 hS hC (c_M_kindOf l D (tysM CM) A _ a2 _ hq) ki_M_kindOf wd_457 wd_458 ⟨rfl, rfl, Nat.le_of_ble_eq_true rfl, Nat.le_of_ble_eq_true rfl⟩ rfl rfl (Nat.le_of_ble_eq_true rfl) d_M_get_71 ⟨Nat.le_of_ble_eq_true rfl, Nat.le_of_ble_eq_true rfl⟩) hS (fun r71_11 _u H locs hq hC hS => ?_)
          refine kci (BB := fun u H => MW D A AM CM u H) (krV (b := (AM 0)) X hl.1 hS hC (c_M_box l D A AM CM K60_10 r71_11 _ hq) ki_M_box wd_437 wd_439 ws_M_box (mrecX X hC) ⟨rfl, rfl, Nat.le_of_ble_eq_true rfl, Nat.le_of_ble_eq_true rfl⟩ rfl rfl (Nat.le_of_ble_eq_true rfl) d_M_get_74 ⟨Nat.le_of_ble_eq_true rfl, Nat.le_of_ble_eq_true rfl⟩) hS (fun r74_12 K74_12 H locs hq hC hS => ?_)
          have hs_ := hq.1
          have hq := hq.2
          refine mt_held X hC hS hs_ d_M_get_77 (fun H locs hC hS => ?_)
          refine lv_goto (tgt := 122) hx hb d_M_get_78 (by decide) ?_
          refine lv_aload_n hx hb d_M_get_122 rfl (lv_at hl 2 rfl) ?_
          refine lv_iconst (v := (0 : Int32)) hx hb d_M_get_123 (by decide) ?_
          refine lv_lconst (v := (0 : Int64)) hx hb d_M_get_124 (by decide) ?_
          refine kci (BB := fun u H => MW D A AM CM u H) (krV (b := (AM 0)) X hl.1 hS hC (c_M_tell l D A AM CM (ms_held K74_12 ((8 : Int32)).toNatClampNeg r74_12) (0 : Int32) (0 : Int64) _ hq) ki_M_tell wd_430 wd_432 ws_M_tell (mrecX X hC) ⟨rfl, rfl, Nat.le_of_ble_eq_true rfl, Nat.le_of_ble_eq_true rfl⟩ rfl rfl (Nat.le_of_ble_eq_true rfl) d_M_get_125 ⟨Nat.le_of_ble_eq_true rfl, Nat.le_of_ble_eq_true rfl⟩) hS (fun r125_13 K125_13 H locs hq hC hS => ?_)
          exact hE r125_13 K125_13 _ _ _ _ _ ls hq hC hS (Nat.le_of_ble_eq_true rfl) (Nat.le_of_ble_eq_true rfl) d_M_get_128
      · have hq := hq.2 c_16
        refine lv_aload_n hx hb d_M_get_42 rfl (lv_at hl 2 rfl) ?_
        refine lv_iload hx hb d_M_get_43 (lv_at hl 0 rfl) ?_
        refine lv_lconst (v := (0 : Int64)) hx hb d_M_get_45 (by decide) ?_
        refine kci (BB := fun u H => MW D A AM CM u H) (krV (b := (AM 0)) X hl.1 hS hC (c_M_tell l D A AM CM M r32_3 (0 : Int64) _ hq) ki_M_tell wd_430 wd_432 ws_M_tell (mrecX X hC) ⟨rfl, rfl, Nat.le_of_ble_eq_true rfl, Nat.le_of_ble_eq_true rfl⟩ rfl rfl (Nat.le_of_ble_eq_true rfl) d_M_get_46 ⟨Nat.le_of_ble_eq_true rfl, Nat.le_of_ble_eq_true rfl⟩) hS (fun r46_15 K46_15 H locs hq hC hS => ?_)
        exact hE r46_15 K46_15 _ _ _ _ _ ls hq hC hS (Nat.le_of_ble_eq_true rfl) (Nat.le_of_ble_eq_true rfl) d_M_get_49
    · have hq := hq.1 c_17
      refine lv_iconst (v := (-1 : Int32)) hx hb d_M_get_20 (by decide) ?_
      exact hE (-1 : Int32) M _ _ _ _ _ ls hq hC hS (Nat.le_of_ble_eq_true rfl) (Nat.le_of_ble_eq_true rfl) d_M_get_21
def w_M_getAs (M : MT) (a1 : Int32) (a2 : Int32) (a3 : Int32) (post : Int32 → MT → Prop) : Prop := w_M_in a1 (0 : Int32) (8 : Int32) (fun r4_1 => ((r4_1 = (0 : Int32)) → (post (-1 : Int32) M)) ∧ (¬ (r4_1 = (0 : Int32)) → (w_M_in a2 (0 : Int32) (8 : Int32) (fun r14_2 => ((r14_2 = (0 : Int32)) → (post (-1 : Int32) M)) ∧ (¬ (r14_2 = (0 : Int32)) → (w_M_in a3 (0 : Int32) (7 : Int32) (fun r24_3 => ((r24_3 = (0 : Int32)) → (post (-1 : Int32) M)) ∧ (¬ (r24_3 = (0 : Int32)) → ((vp_in a1 9) ∧ (w_M_reach M (m_held M (a1).toNatClampNeg) a2 (fun r44_4 => ((r44_4 = (0 : Int32)) → (w_M_kindOf a2 (fun r63_5 => ((r63_5 < (0 : Int32)) → (w_M_tell M (2 : Int32) (0 : Int64) (fun r85_6 K85_6 => post r85_6 K85_6))) ∧ (¬ (r63_5 < (0 : Int32)) → (w_M_widens r63_5 a3 (fun r76_7 => ((r76_7 = (0 : Int32)) → (w_M_tell M (2 : Int32) (0 : Int64) (fun r85_12 K85_12 => post r85_12 K85_12))) ∧ (¬ (r76_7 = (0 : Int32)) → (w_M_take M (m_held M (a1).toNatClampNeg) a2 (fun K93_8 => w_M_convert K93_8 r63_5 a3 (fun K100_9 => w_M_told K100_9 a3 (fun r107_10 => w_M_tell K100_9 (0 : Int32) r107_10 (fun r110_11 K110_11 => post r110_11 K110_11)))))))))))) ∧ (¬ (r44_4 = (0 : Int32)) → (w_M_tell M r44_4 (0 : Int64) (fun r58_15 K58_15 => post r58_15 K58_15))))))))))))))
set_option maxHeartbeats 8000000 in
set_option maxRecDepth 100000 in
theorem c_M_getAs (l : Launch) (D : va_G) (A : Nat → Prop) (AM : Nat → Nat) (CM : Nat → ClassId) (M : MT) (a1 : Int32) (a2 : Int32) (a3 : Int32) (post : Int32 → MT → Prop) (hq : w_M_getAs M a1 a2 a3 post) : Met l y_M_getAs (kw y_M_getAs b_M_getAs 7 (Option.some Jvm.ClassFile.FieldType.int)) ({ frames := 1, cells := 0, slots := 0, locals := 23 }) (kP D (tysM CM) A [.ref (AM 0), .int a1, .int a2, .int a3] (MW D A AM CM M)) (va_Qi post (fun u t => MW D A AM CM u t.heap) A) 0 0 A := by
  refine kmet_i (BB := (fun u H => MW D A AM CM u H)) (lv := [(0, .ref (AM 0)), (1, .int a1), (2, .int a2), (3, .int a3)]) (by decide +kernel) rfl (Nat.le_of_ble_eq_true rfl) ?_
  intro p e s m args below meth c Q ls X hin hC hl hE
  have hx := X.x
  have hb := X.b
  have hS : va_S A s.heap s.heap [] := va_S.rf
  unfold w_M_getAs at hq
  refine lv_iload_n hx hb d_M_getAs_0 rfl (lv_at hl 1 rfl) ?_
  refine lv_iconst (v := (0 : Int32)) hx hb d_M_getAs_1 (by decide) ?_
  refine lv_bipush (v := (8 : Int32)) hx hb d_M_getAs_2 (by decide) ?_
  refine kci (BB := fun (_ : Unit) H => MW D A AM CM M H) (krS X hl.1 hS hC (c_M_in l D (tysM CM) A _ a1 (0 : Int32) (8 : Int32) _ hq) ki_M_in wd_422 wd_423 ⟨rfl, rfl, Nat.le_of_ble_eq_true rfl, Nat.le_of_ble_eq_true rfl⟩ rfl rfl (Nat.le_of_ble_eq_true rfl) d_M_getAs_4 ⟨Nat.le_of_ble_eq_true rfl, Nat.le_of_ble_eq_true rfl⟩) hS (fun r4_1 _u H locs hq hC hS => ?_)
  refine lv_if_eq (tgt := 30) hx hb d_M_getAs_7 (by decide) (fun c_19 => ?_) (fun c_19 => ?_)
  · have hq := hq.1 c_19
    refine lv_iconst (v := (-1 : Int32)) hx hb d_M_getAs_30 (by decide) ?_
    exact hE (-1 : Int32) M _ _ _ _ _ ls hq hC hS (Nat.le_of_ble_eq_true rfl) (Nat.le_of_ble_eq_true rfl) d_M_getAs_31
  · have hq := hq.2 c_19
    refine lv_iload_n hx hb d_M_getAs_10 rfl (lv_at hl 2 rfl) ?_
    refine lv_iconst (v := (0 : Int32)) hx hb d_M_getAs_11 (by decide) ?_
    refine lv_bipush (v := (8 : Int32)) hx hb d_M_getAs_12 (by decide) ?_
    refine kci (BB := fun (_ : Unit) H => MW D A AM CM M H) (krS X hl.1 hS hC (c_M_in l D (tysM CM) A _ a2 (0 : Int32) (8 : Int32) _ hq) ki_M_in wd_422 wd_423 ⟨rfl, rfl, Nat.le_of_ble_eq_true rfl, Nat.le_of_ble_eq_true rfl⟩ rfl rfl (Nat.le_of_ble_eq_true rfl) d_M_getAs_14 ⟨Nat.le_of_ble_eq_true rfl, Nat.le_of_ble_eq_true rfl⟩) hS (fun r14_2 _u H locs hq hC hS => ?_)
    refine lv_if_eq (tgt := 30) hx hb d_M_getAs_17 (by decide) (fun c_18 => ?_) (fun c_18 => ?_)
    · have hq := hq.1 c_18
      refine lv_iconst (v := (-1 : Int32)) hx hb d_M_getAs_30 (by decide) ?_
      exact hE (-1 : Int32) M _ _ _ _ _ ls hq hC hS (Nat.le_of_ble_eq_true rfl) (Nat.le_of_ble_eq_true rfl) d_M_getAs_31
    · have hq := hq.2 c_18
      refine lv_iload_n hx hb d_M_getAs_20 rfl (lv_at hl 3 rfl) ?_
      refine lv_iconst (v := (0 : Int32)) hx hb d_M_getAs_21 (by decide) ?_
      refine lv_bipush (v := (7 : Int32)) hx hb d_M_getAs_22 (by decide) ?_
      refine kci (BB := fun (_ : Unit) H => MW D A AM CM M H) (krS X hl.1 hS hC (c_M_in l D (tysM CM) A _ a3 (0 : Int32) (7 : Int32) _ hq) ki_M_in wd_422 wd_423 ⟨rfl, rfl, Nat.le_of_ble_eq_true rfl, Nat.le_of_ble_eq_true rfl⟩ rfl rfl (Nat.le_of_ble_eq_true rfl) d_M_getAs_24 ⟨Nat.le_of_ble_eq_true rfl, Nat.le_of_ble_eq_true rfl⟩) hS (fun r24_3 _u H locs hq hC hS => ?_)
      refine lv_if_ne (tgt := 32) hx hb d_M_getAs_27 (by decide) (fun c_17 => ?_) (fun c_17 => ?_)
      · have hq := hq.2 c_17
        refine lv_aload_n hx hb d_M_getAs_32 rfl (lv_at hl 0 rfl) ?_
        refine mg_held X hC d_M_getAs_33 ?_
        refine lv_iload_n hx hb d_M_getAs_36 rfl (lv_at hl 1 rfl) ?_
        have hs_ := hq.1
        have hq := hq.2
        refine ml_held X hC hs_ d_M_getAs_37 ?_
        refine lv_istore (lv' := [(4, .int (m_held M (a1).toNatClampNeg)), (0, .ref (AM 0)), (1, .int a1), (2, .int a2), (3, .int a3)]) hx hb d_M_getAs_38 hl (by decide) rfl (fun ls hl => ?_)
        refine lv_aload_n hx hb d_M_getAs_40 rfl (lv_at hl 1 rfl) ?_
        refine lv_iload hx hb d_M_getAs_41 (lv_at hl 0 rfl) ?_
        refine lv_iload_n hx hb d_M_getAs_43 rfl (lv_at hl 3 rfl) ?_
        refine kci (BB := fun (_ : Unit) H => MW D A AM CM M H) (krV (b := (AM 0)) X hl.1 hS hC (c_M_reach l D A AM CM M (m_held M (a1).toNatClampNeg) a2 _ hq) ki_M_reach wd_453 wd_455 ws_M_reach (mrecX X hC) ⟨rfl, rfl, Nat.le_of_ble_eq_true rfl, Nat.le_of_ble_eq_true rfl⟩ rfl rfl (Nat.le_of_ble_eq_true rfl) d_M_getAs_44 ⟨Nat.le_of_ble_eq_true rfl, Nat.le_of_ble_eq_true rfl⟩) hS (fun r44_4 _u H locs hq hC hS => ?_)
        refine lv_istore (lv' := [(5, .int r44_4), (4, .int (m_held M (a1).toNatClampNeg)), (0, .ref (AM 0)), (1, .int a1), (2, .int a2), (3, .int a3)]) hx hb d_M_getAs_47 hl (by decide) rfl (fun ls hl => ?_)
        refine lv_iload hx hb d_M_getAs_49 (lv_at hl 0 rfl) ?_
        refine lv_if_eq (tgt := 62) hx hb d_M_getAs_51 (by decide) (fun c_16 => ?_) (fun c_16 => ?_)
        · have hq := hq.1 c_16
          refine lv_iload_n hx hb d_M_getAs_62 rfl (lv_at hl 4 rfl) ?_
          refine kci (BB := fun (_ : Unit) H => MW D A AM CM M H) (krS X hl.1 hS hC (c_M_kindOf l D (tysM CM) A _ a2 _ hq) ki_M_kindOf wd_457 wd_458 ⟨rfl, rfl, Nat.le_of_ble_eq_true rfl, Nat.le_of_ble_eq_true rfl⟩ rfl rfl (Nat.le_of_ble_eq_true rfl) d_M_getAs_63 ⟨Nat.le_of_ble_eq_true rfl, Nat.le_of_ble_eq_true rfl⟩) hS (fun r63_5 _u H locs hq hC hS => ?_)
          refine lv_istore (lv' := [(6, .int r63_5), (5, .int r44_4), (4, .int (m_held M (a1).toNatClampNeg)), (0, .ref (AM 0)), (1, .int a1), (2, .int a2), (3, .int a3)]) hx hb d_M_getAs_66 hl (by decide) rfl (fun ls hl => ?_)
          refine lv_iload hx hb d_M_getAs_68 (lv_at hl 0 rfl) ?_
          refine lv_if_lt (tgt := 82) hx hb d_M_getAs_70 (by decide) (fun c_14 => ?_) (fun c_14 => ?_)
          · have hq := hq.1 c_14
            refine lv_aload_n hx hb d_M_getAs_82 rfl (lv_at hl 3 rfl) ?_
            refine lv_iconst (v := (2 : Int32)) hx hb d_M_getAs_83 (by decide) ?_
            refine lv_lconst (v := (0 : Int64)) hx hb d_M_getAs_84 (by decide) ?_
            refine kci (BB := fun u H => MW D A AM CM u H) (krV (b := (AM 0)) X hl.1 hS hC (c_M_tell l D A AM CM M (2 : Int32) (0 : Int64) _ hq) ki_M_tell wd_430 wd_432 ws_M_tell (mrecX X hC) ⟨rfl, rfl, Nat.le_of_ble_eq_true rfl, Nat.le_of_ble_eq_true rfl⟩ rfl rfl (Nat.le_of_ble_eq_true rfl) d_M_getAs_85 ⟨Nat.le_of_ble_eq_true rfl, Nat.le_of_ble_eq_true rfl⟩) hS (fun r85_6 K85_6 H locs hq hC hS => ?_)
            exact hE r85_6 K85_6 _ _ _ _ _ ls hq hC hS (Nat.le_of_ble_eq_true rfl) (Nat.le_of_ble_eq_true rfl) d_M_getAs_88
          · have hq := hq.2 c_14
            refine lv_iload hx hb d_M_getAs_73 (lv_at hl 0 rfl) ?_
            refine lv_iload_n hx hb d_M_getAs_75 rfl (lv_at hl 6 rfl) ?_
            refine kci (BB := fun (_ : Unit) H => MW D A AM CM M H) (krS X hl.1 hS hC (c_M_widens l D (tysM CM) A _ r63_5 a3 _ hq) ki_M_widens wd_469 wd_470 ⟨rfl, rfl, Nat.le_of_ble_eq_true rfl, Nat.le_of_ble_eq_true rfl⟩ rfl rfl (Nat.le_of_ble_eq_true rfl) d_M_getAs_76 ⟨Nat.le_of_ble_eq_true rfl, Nat.le_of_ble_eq_true rfl⟩) hS (fun r76_7 _u H locs hq hC hS => ?_)
            refine lv_if_ne (tgt := 89) hx hb d_M_getAs_79 (by decide) (fun c_13 => ?_) (fun c_13 => ?_)
            · have hq := hq.2 c_13
              refine lv_aload_n hx hb d_M_getAs_89 rfl (lv_at hl 3 rfl) ?_
              refine lv_iload hx hb d_M_getAs_90 (lv_at hl 2 rfl) ?_
              refine lv_iload_n hx hb d_M_getAs_92 rfl (lv_at hl 5 rfl) ?_
              refine kcv (BB := fun u H => MW D A AM CM u H) (krV (b := (AM 0)) X hl.1 hS hC (c_M_take l D A AM CM M (m_held M (a1).toNatClampNeg) a2 _ hq) ki_M_take wd_460 wd_462 ws_M_take (mrecX X hC) ⟨rfl, rfl, Nat.le_of_ble_eq_true rfl, Nat.le_of_ble_eq_true rfl⟩ rfl rfl (Nat.le_of_ble_eq_true rfl) d_M_getAs_93 ⟨Nat.le_of_ble_eq_true rfl, Nat.le_of_ble_eq_true rfl⟩) hS (fun K93_8 H locs hq hC hS => ?_)
              refine lv_aload_n hx hb d_M_getAs_96 rfl (lv_at hl 3 rfl) ?_
              refine lv_iload hx hb d_M_getAs_97 (lv_at hl 0 rfl) ?_
              refine lv_iload_n hx hb d_M_getAs_99 rfl (lv_at hl 6 rfl) ?_
              refine kcv (BB := fun u H => MW D A AM CM u H) (krV (b := (AM 0)) X hl.1 hS hC (c_M_convert l D A AM CM K93_8 r63_5 a3 _ hq) ki_M_convert wd_472 wd_474 ws_M_convert (mrecX X hC) ⟨rfl, rfl, Nat.le_of_ble_eq_true rfl, Nat.le_of_ble_eq_true rfl⟩ rfl rfl (Nat.le_of_ble_eq_true rfl) d_M_getAs_100 ⟨Nat.le_of_ble_eq_true rfl, Nat.le_of_ble_eq_true rfl⟩) hS (fun K100_9 H locs hq hC hS => ?_)
              refine lv_aload_n hx hb d_M_getAs_103 rfl (lv_at hl 3 rfl) ?_
              refine lv_iconst (v := (0 : Int32)) hx hb d_M_getAs_104 (by decide) ?_
              refine lv_aload_n hx hb d_M_getAs_105 rfl (lv_at hl 3 rfl) ?_
              refine lv_iload_n hx hb d_M_getAs_106 rfl (lv_at hl 6 rfl) ?_
              refine kcl_ (BB := fun (_ : Unit) H => MW D A AM CM K100_9 H) (krV (b := (AM 0)) X hl.1 hS hC (c_M_told l D A AM CM K100_9 a3 _ hq) ki_M_told wd_476 wd_478 ws_M_told (mrecX X hC) ⟨rfl, rfl, Nat.le_of_ble_eq_true rfl, Nat.le_of_ble_eq_true rfl⟩ rfl rfl (Nat.le_of_ble_eq_true rfl) d_M_getAs_107 ⟨Nat.le_of_ble_eq_true rfl, Nat.le_of_ble_eq_true rfl⟩) hS (fun r107_10 _u H locs hq hC hS => ?_)
              refine kci (BB := fun u H => MW D A AM CM u H) (krV (b := (AM 0)) X hl.1 hS hC (c_M_tell l D A AM CM K100_9 (0 : Int32) r107_10 _ hq) ki_M_tell wd_430 wd_432 ws_M_tell (mrecX X hC) ⟨rfl, rfl, Nat.le_of_ble_eq_true rfl, Nat.le_of_ble_eq_true rfl⟩ rfl rfl (Nat.le_of_ble_eq_true rfl) d_M_getAs_110 ⟨Nat.le_of_ble_eq_true rfl, Nat.le_of_ble_eq_true rfl⟩) hS (fun r110_11 K110_11 H locs hq hC hS => ?_)
              exact hE r110_11 K110_11 _ _ _ _ _ ls hq hC hS (Nat.le_of_ble_eq_true rfl) (Nat.le_of_ble_eq_true rfl) d_M_getAs_113
            · have hq := hq.1 c_13
              refine lv_aload_n hx hb d_M_getAs_82 rfl (lv_at hl 3 rfl) ?_
              refine lv_iconst (v := (2 : Int32)) hx hb d_M_getAs_83 (by decide) ?_
              refine lv_lconst (v := (0 : Int64)) hx hb d_M_getAs_84 (by decide) ?_
              refine kci (BB := fun u H => MW D A AM CM u H) (krV (b := (AM 0)) X hl.1 hS hC (c_M_tell l D A AM CM M (2 : Int32) (0 : Int64) _ hq) ki_M_tell wd_430 wd_432 ws_M_tell (mrecX X hC) ⟨rfl, rfl, Nat.le_of_ble_eq_true rfl, Nat.le_of_ble_eq_true rfl⟩ rfl rfl (Nat.le_of_ble_eq_true rfl) d_M_getAs_85 ⟨Nat.le_of_ble_eq_true rfl, Nat.le_of_ble_eq_true rfl⟩) hS (fun r85_12 K85_12 H locs hq hC hS => ?_)
              exact hE r85_12 K85_12 _ _ _ _ _ ls hq hC hS (Nat.le_of_ble_eq_true rfl) (Nat.le_of_ble_eq_true rfl) d_M_getAs_88
        · have hq := hq.2 c_16
          refine lv_aload_n hx hb d_M_getAs_54 rfl (lv_at hl 2 rfl) ?_
          refine lv_iload hx hb d_M_getAs_55 (lv_at hl 0 rfl) ?_
          refine lv_lconst (v := (0 : Int64)) hx hb d_M_getAs_57 (by decide) ?_
          refine kci (BB := fun u H => MW D A AM CM u H) (krV (b := (AM 0)) X hl.1 hS hC (c_M_tell l D A AM CM M r44_4 (0 : Int64) _ hq) ki_M_tell wd_430 wd_432 ws_M_tell (mrecX X hC) ⟨rfl, rfl, Nat.le_of_ble_eq_true rfl, Nat.le_of_ble_eq_true rfl⟩ rfl rfl (Nat.le_of_ble_eq_true rfl) d_M_getAs_58 ⟨Nat.le_of_ble_eq_true rfl, Nat.le_of_ble_eq_true rfl⟩) hS (fun r58_15 K58_15 H locs hq hC hS => ?_)
          exact hE r58_15 K58_15 _ _ _ _ _ ls hq hC hS (Nat.le_of_ble_eq_true rfl) (Nat.le_of_ble_eq_true rfl) d_M_getAs_61
      · have hq := hq.1 c_17
        refine lv_iconst (v := (-1 : Int32)) hx hb d_M_getAs_30 (by decide) ?_
        exact hE (-1 : Int32) M _ _ _ _ _ ls hq hC hS (Nat.le_of_ble_eq_true rfl) (Nat.le_of_ble_eq_true rfl) d_M_getAs_31
def w_M_fits (M : MT) (a1 : Int32) (a2 : Int32) (post : Int32 → Prop) : Prop := ((a2 = (3 : Int32)) → (((a1 = (0 : Int32)) → (z01 (1 : Int32) ∧ post (1 : Int32))) ∧ (¬ (a1 = (0 : Int32)) → ((vp_in a1 520) ∧ ((((m_sort M (a1).toNatClampNeg) = (9 : Int32)) → (z01 (1 : Int32) ∧ post (1 : Int32))) ∧ (¬ ((m_sort M (a1).toNatClampNeg) = (9 : Int32)) → (z01 (0 : Int32) ∧ post (0 : Int32)))))))) ∧ (¬ (a2 = (3 : Int32)) → (((a2 = (4 : Int32)) → (z01 (1 : Int32) ∧ post (1 : Int32))) ∧ (¬ (a2 = (4 : Int32)) → (((a1 = (0 : Int32)) → (z01 (1 : Int32) ∧ post (1 : Int32))) ∧ (¬ (a1 = (0 : Int32)) → (w_M_isItem M a1 (fun r37_1 => ((r37_1 = (0 : Int32)) → (z01 (0 : Int32) ∧ post (0 : Int32))) ∧ (¬ (r37_1 = (0 : Int32)) → (z01 (1 : Int32) ∧ post (1 : Int32))))))))))
set_option maxHeartbeats 8000000 in
set_option maxRecDepth 100000 in
theorem c_M_fits (l : Launch) (D : va_G) (A : Nat → Prop) (AM : Nat → Nat) (CM : Nat → ClassId) (M : MT) (a1 : Int32) (a2 : Int32) (post : Int32 → Prop) (hq : w_M_fits M a1 a2 post) : Met l y_M_fits (kw y_M_fits b_M_fits 3 (Option.some Jvm.ClassFile.FieldType.boolean)) ({ frames := 1, cells := 0, slots := 0, locals := 21 }) (kP D (tysM CM) A [.ref (AM 0), .int a1, .int a2] (MW D A AM CM M)) (va_Qi (fun r (_ : Unit) => post r) (fun _ t => MW D A AM CM M t.heap) A) 0 0 A := by
  refine kmet_z (BB := (fun (_ : Unit) H => MW D A AM CM M H)) (lv := [(0, .ref (AM 0)), (1, .int a1), (2, .int a2)]) (by decide +kernel) rfl (Nat.le_of_ble_eq_true rfl) ?_
  intro p e s m args below meth c Q ls X hin hC hl hE
  have hx := X.x
  have hb := X.b
  have hS : va_S A s.heap s.heap [] := va_S.rf
  unfold w_M_fits at hq
  refine lv_iload_n hx hb d_M_fits_0 rfl (lv_at hl 2 rfl) ?_
  refine lv_iconst (v := (3 : Int32)) hx hb d_M_fits_1 (by decide) ?_
  refine lv_icmp_ne (tgt := 26) hx hb d_M_fits_2 (by decide) (fun c_7 => ?_) (fun c_7 => ?_)
  · have hq := hq.2 c_7
    refine lv_iload_n hx hb d_M_fits_26 rfl (lv_at hl 2 rfl) ?_
    refine lv_iconst (v := (4 : Int32)) hx hb d_M_fits_27 (by decide) ?_
    refine lv_icmp_eq (tgt := 43) hx hb d_M_fits_28 (by decide) (fun c_4 => ?_) (fun c_4 => ?_)
    · have hq := hq.1 c_4
      refine lv_iconst (v := (1 : Int32)) hx hb d_M_fits_43 (by decide) ?_
      refine lv_goto (tgt := 48) hx hb d_M_fits_44 (by decide) ?_
      exact hE (1 : Int32) () _ _ _ _ _ ls hq hC hS (Nat.le_of_ble_eq_true rfl) (Nat.le_of_ble_eq_true rfl) d_M_fits_48
    · have hq := hq.2 c_4
      refine lv_iload_n hx hb d_M_fits_31 rfl (lv_at hl 1 rfl) ?_
      refine lv_if_eq (tgt := 43) hx hb d_M_fits_32 (by decide) (fun c_3 => ?_) (fun c_3 => ?_)
      · have hq := hq.1 c_3
        refine lv_iconst (v := (1 : Int32)) hx hb d_M_fits_43 (by decide) ?_
        refine lv_goto (tgt := 48) hx hb d_M_fits_44 (by decide) ?_
        exact hE (1 : Int32) () _ _ _ _ _ ls hq hC hS (Nat.le_of_ble_eq_true rfl) (Nat.le_of_ble_eq_true rfl) d_M_fits_48
      · have hq := hq.2 c_3
        refine lv_aload_n hx hb d_M_fits_35 rfl (lv_at hl 0 rfl) ?_
        refine lv_iload_n hx hb d_M_fits_36 rfl (lv_at hl 1 rfl) ?_
        refine kci (BB := fun (_ : Unit) H => MW D A AM CM M H) (krV (b := (AM 0)) X hl.1 hS hC (c_M_isItem l D A AM CM M a1 _ hq) ki_M_isItem wd_489 wd_491 ws_M_isItem (mrecX X hC) ⟨rfl, rfl, Nat.le_of_ble_eq_true rfl, Nat.le_of_ble_eq_true rfl⟩ rfl rfl (Nat.le_of_ble_eq_true rfl) d_M_fits_37 ⟨Nat.le_of_ble_eq_true rfl, Nat.le_of_ble_eq_true rfl⟩) hS (fun r37_1 _u H locs hq hC hS => ?_)
        refine lv_if_eq (tgt := 47) hx hb d_M_fits_40 (by decide) (fun c_2 => ?_) (fun c_2 => ?_)
        · have hq := hq.1 c_2
          refine lv_iconst (v := (0 : Int32)) hx hb d_M_fits_47 (by decide) ?_
          exact hE (0 : Int32) () _ _ _ _ _ ls hq hC hS (Nat.le_of_ble_eq_true rfl) (Nat.le_of_ble_eq_true rfl) d_M_fits_48
        · have hq := hq.2 c_2
          refine lv_iconst (v := (1 : Int32)) hx hb d_M_fits_43 (by decide) ?_
          refine lv_goto (tgt := 48) hx hb d_M_fits_44 (by decide) ?_
          exact hE (1 : Int32) () _ _ _ _ _ ls hq hC hS (Nat.le_of_ble_eq_true rfl) (Nat.le_of_ble_eq_true rfl) d_M_fits_48
  · have hq := hq.1 c_7
    refine lv_iload_n hx hb d_M_fits_5 rfl (lv_at hl 1 rfl) ?_
    refine lv_if_eq (tgt := 20) hx hb d_M_fits_6 (by decide) (fun c_6 => ?_) (fun c_6 => ?_)
    · have hq := hq.1 c_6
      refine lv_iconst (v := (1 : Int32)) hx hb d_M_fits_20 (by decide) ?_
      refine lv_goto (tgt := 25) hx hb d_M_fits_21 (by decide) ?_
      exact hE (1 : Int32) () _ _ _ _ _ ls hq hC hS (Nat.le_of_ble_eq_true rfl) (Nat.le_of_ble_eq_true rfl) d_M_fits_25
    · have hq := hq.2 c_6
      refine lv_aload_n hx hb d_M_fits_9 rfl (lv_at hl 0 rfl) ?_
      refine mg_sort X hC d_M_fits_10 ?_
      refine lv_iload_n hx hb d_M_fits_13 rfl (lv_at hl 1 rfl) ?_
      have hs_ := hq.1
      have hq := hq.2
      refine ml_sort X hC hs_ d_M_fits_14 ?_
      refine lv_bipush (v := (9 : Int32)) hx hb d_M_fits_15 (by decide) ?_
      refine lv_icmp_ne (tgt := 24) hx hb d_M_fits_17 (by decide) (fun c_5 => ?_) (fun c_5 => ?_)
      · have hq := hq.2 c_5
        refine lv_iconst (v := (0 : Int32)) hx hb d_M_fits_24 (by decide) ?_
        exact hE (0 : Int32) () _ _ _ _ _ ls hq hC hS (Nat.le_of_ble_eq_true rfl) (Nat.le_of_ble_eq_true rfl) d_M_fits_25
      · have hq := hq.1 c_5
        refine lv_iconst (v := (1 : Int32)) hx hb d_M_fits_20 (by decide) ?_
        refine lv_goto (tgt := 25) hx hb d_M_fits_21 (by decide) ?_
        exact hE (1 : Int32) () _ _ _ _ _ ls hq hC hS (Nat.le_of_ble_eq_true rfl) (Nat.le_of_ble_eq_true rfl) d_M_fits_25
def w_M_set_b30 (M_ : MT) (z1 : Int32) (z2 : Int32) (z3 : Int32) (post : Int32 → MT → Prop) : Prop := post (-1 : Int32) M_
def w_M_set_b248 (M_ : MT) (z1 : Int32) (z2 : Int32) (z3 : Int32) (z4 : Int32) (z5 : Int32) (z6 : Int32) (z7 : Int32) (post : Int32 → MT → Prop) : Prop := w_M_tell M_ (0 : Int32) (0 : Int64) (fun r251_7 K251_7 => post r251_7 K251_7)
def w_M_set_b230 (M_ : MT) (z1 : Int32) (z2 : Int32) (z3 : Int32) (z4 : Int32) (z5 : Int32) (z6 : Int32) (z7 : Int32) (post : Int32 → MT → Prop) : Prop := ((z2 = (8 : Int32)) → ((vp_in z4 520) ∧ (w_M_set_b248 (ms_extra M_ (z4).toNatClampNeg (m_wholeNow M_).toInt32) z1 z2 z3 z4 z5 z6 z7 post))) ∧ (¬ (z2 = (8 : Int32)) → (w_M_set_b248 M_ z1 z2 z3 z4 z5 z6 z7 post))
def w_M_set_b216 (M_ : MT) (z1 : Int32) (z2 : Int32) (z3 : Int32) (z4 : Int32) (z5 : Int32) (z6 : Int32) (z7 : Int32) (post : Int32 → MT → Prop) : Prop := ((z2 = (7 : Int32)) → (w_M_set_b230 (ms_shared M_ (m_wholeNow M_)) z1 z2 z3 z4 z5 z6 z7 post)) ∧ (¬ (z2 = (7 : Int32)) → (w_M_set_b230 M_ z1 z2 z3 z4 z5 z6 z7 post))
def w_M_set_b202 (M_ : MT) (z1 : Int32) (z2 : Int32) (z3 : Int32) (z4 : Int32) (z5 : Int32) (z6 : Int32) (z7 : Int32) (post : Int32 → MT → Prop) : Prop := ((z2 = (5 : Int32)) → ((vp_in z4 520) ∧ (w_M_set_b216 (ms_next M_ (z4).toNatClampNeg z5) z1 z2 z3 z4 z5 z6 z7 post))) ∧ (¬ (z2 = (5 : Int32)) → (w_M_set_b216 M_ z1 z2 z3 z4 z5 z6 z7 post))
def w_M_set_b188 (M_ : MT) (z1 : Int32) (z2 : Int32) (z3 : Int32) (z4 : Int32) (z5 : Int32) (z6 : Int32) (z7 : Int32) (post : Int32 → MT → Prop) : Prop := ((z2 = (4 : Int32)) → ((vp_in z4 520) ∧ (w_M_set_b202 (ms_any M_ (z4).toNatClampNeg z5) z1 z2 z3 z4 z5 z6 z7 post))) ∧ (¬ (z2 = (4 : Int32)) → (w_M_set_b202 M_ z1 z2 z3 z4 z5 z6 z7 post))
def w_M_set_b174 (M_ : MT) (z1 : Int32) (z2 : Int32) (z3 : Int32) (z4 : Int32) (z5 : Int32) (z6 : Int32) (z7 : Int32) (post : Int32 → MT → Prop) : Prop := ((z2 = (3 : Int32)) → ((vp_in z4 520) ∧ (w_M_set_b188 (ms_text M_ (z4).toNatClampNeg z5) z1 z2 z3 z4 z5 z6 z7 post))) ∧ (¬ (z2 = (3 : Int32)) → (w_M_set_b188 M_ z1 z2 z3 z4 z5 z6 z7 post))
def w_M_set_b158 (M_ : MT) (z1 : Int32) (z2 : Int32) (z3 : Int32) (z4 : Int32) (z5 : Int32) (z6 : Int32) (z7 : Int32) (post : Int32 → MT → Prop) : Prop := ((z2 = (2 : Int32)) → ((vp_in z4 520) ∧ (w_M_set_b174 (ms_real M_ (z4).toNatClampNeg (m_realNow M_)) z1 z2 z3 z4 z5 z6 z7 post))) ∧ (¬ (z2 = (2 : Int32)) → (w_M_set_b174 M_ z1 z2 z3 z4 z5 z6 z7 post))
def w_M_set_b141 (M_ : MT) (z1 : Int32) (z2 : Int32) (z3 : Int32) (z4 : Int32) (z5 : Int32) (z6 : Int32) (z7 : Int32) (post : Int32 → MT → Prop) : Prop := ((z2 = (1 : Int32)) → ((vp_in z4 520) ∧ (w_M_set_b158 (ms_small M_ (z4).toNatClampNeg (m_wholeNow M_).toInt32) z1 z2 z3 z4 z5 z6 z7 post))) ∧ (¬ (z2 = (1 : Int32)) → (w_M_set_b158 M_ z1 z2 z3 z4 z5 z6 z7 post))
def w_M_set_b126 (M_ : MT) (z1 : Int32) (z2 : Int32) (z3 : Int32) (z4 : Int32) (z5 : Int32) (z6 : Int32) (z7 : Int32) (post : Int32 → MT → Prop) : Prop := ((z2 = (0 : Int32)) → ((vp_in z4 520) ∧ (w_M_set_b141 (ms_whole M_ (z4).toNatClampNeg (m_wholeNow M_)) z1 z2 z3 z4 z5 z6 z7 post))) ∧ (¬ (z2 = (0 : Int32)) → (w_M_set_b141 M_ z1 z2 z3 z4 z5 z6 z7 post))
def w_M_set_b119 (M_ : MT) (z1 : Int32) (z2 : Int32) (z3 : Int32) (z4 : Int32) (z5 : Int32) (z6 : Int32) (z7 : Int32) (post : Int32 → MT → Prop) : Prop := w_M_tell M_ (2 : Int32) (0 : Int64) (fun r122_16 K122_16 => post r122_16 K122_16)
def w_M_set_b71 (M_ : MT) (z1 : Int32) (z2 : Int32) (z3 : Int32) (z4 : Int32) (z5 : Int32) (z6 : Int32) (post : Int32 → MT → Prop) : Prop := ((z6 = (0 : Int32)) → (w_M_kindOf z2 (fun r85_5 => (((0 : Int32) ≤ r85_5) → (w_M_unboxes M_ z5 r85_5 (fun r113_6 K113_6 => ((r113_6 = (0 : Int32)) → (w_M_set_b119 K113_6 z1 z2 z3 z4 z5 z6 r85_5 post)) ∧ (¬ (r113_6 = (0 : Int32)) → (w_M_set_b126 K113_6 z1 z2 z3 z4 z5 z6 r85_5 post))))) ∧ (¬ ((0 : Int32) ≤ r85_5) → (w_M_fits M_ z5 z2 (fun r99_18 => ((r99_18 = (0 : Int32)) → (w_M_set_b119 M_ z1 z2 z3 z4 z5 z6 r85_5 post)) ∧ (¬ (r99_18 = (0 : Int32)) → (w_M_set_b126 M_ z1 z2 z3 z4 z5 z6 r85_5 post)))))))) ∧ (¬ (z6 = (0 : Int32)) → (w_M_tell M_ z6 (0 : Int64) (fun r80_21 K80_21 => post r80_21 K80_21)))
def w_M_set (M : MT) (a1 : Int32) (a2 : Int32) (a3 : Int32) (post : Int32 → MT → Prop) : Prop := w_M_in a1 (0 : Int32) (8 : Int32) (fun r4_1 => ((r4_1 = (0 : Int32)) → (w_M_set_b30 M a1 a2 a3 post)) ∧ (¬ (r4_1 = (0 : Int32)) → (w_M_in a2 (0 : Int32) (8 : Int32) (fun r14_2 => ((r14_2 = (0 : Int32)) → (w_M_set_b30 M a1 a2 a3 post)) ∧ (¬ (r14_2 = (0 : Int32)) → (w_M_in a3 (0 : Int32) (8 : Int32) (fun r24_3 => ((r24_3 = (0 : Int32)) → (w_M_set_b30 M a1 a2 a3 post)) ∧ (¬ (r24_3 = (0 : Int32)) → ((vp_in a1 9) ∧ ((vp_in a3 9) ∧ (w_M_reach M (m_held M (a1).toNatClampNeg) a2 (fun r52_4 => ((r52_4 = (0 : Int32)) → (((a2 = (6 : Int32)) → (w_M_set_b71 M a1 a2 a3 (m_held M (a1).toNatClampNeg) (m_held M (a3).toNatClampNeg) (3 : Int32) post)) ∧ (¬ (a2 = (6 : Int32)) → (w_M_set_b71 M a1 a2 a3 (m_held M (a1).toNatClampNeg) (m_held M (a3).toNatClampNeg) r52_4 post)))) ∧ (¬ (r52_4 = (0 : Int32)) → (w_M_set_b71 M a1 a2 a3 (m_held M (a1).toNatClampNeg) (m_held M (a3).toNatClampNeg) r52_4 post))))))))))))))
set_option maxHeartbeats 8000000 in
set_option maxRecDepth 100000 in
theorem c_M_set (l : Launch) (D : va_G) (A : Nat → Prop) (AM : Nat → Nat) (CM : Nat → ClassId) (M : MT) (a1 : Int32) (a2 : Int32) (a3 : Int32) (post : Int32 → MT → Prop) (hq : w_M_set M a1 a2 a3 post) : Met l y_M_set (kw y_M_set b_M_set 8 (Option.some Jvm.ClassFile.FieldType.int)) ({ frames := 3, cells := 0, slots := 0, locals := 65 }) (kP D (tysM CM) A [.ref (AM 0), .int a1, .int a2, .int a3] (MW D A AM CM M)) (va_Qi post (fun u t => MW D A AM CM u t.heap) A) 0 0 A := by
  refine kmet_i (BB := (fun u H => MW D A AM CM u H)) (lv := [(0, .ref (AM 0)), (1, .int a1), (2, .int a2), (3, .int a3)]) (by decide +kernel) rfl (Nat.le_of_ble_eq_true rfl) ?_
  intro p e s m args below meth c Q ls X hin hC hl hE
  have hx := X.x
  have hb := X.b
  have hS : va_S A s.heap s.heap [] := va_S.rf
  have J30 : ∀ (M_ : MT) (z1 : Int32) (z2 : Int32) (z3 : Int32) (H : Heap) (locs : List Loc) (ls : Array Slot), w_M_set_b30 M_ z1 z2 z3 post → MW D A AM CM M_ H → va_S A s.heap H locs → lv_has ls 8 [(0, .ref (AM 0)), (1, .int z1), (2, .int z2), (3, .int z3)] → W p l e ({ frames := 3, cells := 0, slots := 0, locals := 65 }) s m args below meth c H locs 0 0 Q (F0 m 30 ls []) := by
    intro M_ z1 z2 z3 H locs ls hq hC hS hl
    unfold w_M_set_b30 at hq
    refine lv_iconst (v := (-1 : Int32)) hx hb d_M_set_30 (by decide) ?_
    exact hE (-1 : Int32) M_ _ _ _ _ _ ls hq hC hS (Nat.le_of_ble_eq_true rfl) (Nat.le_of_ble_eq_true rfl) d_M_set_31
  have J248 : ∀ (M_ : MT) (z1 : Int32) (z2 : Int32) (z3 : Int32) (z4 : Int32) (z5 : Int32) (z6 : Int32) (z7 : Int32) (H : Heap) (locs : List Loc) (ls : Array Slot), w_M_set_b248 M_ z1 z2 z3 z4 z5 z6 z7 post → MW D A AM CM M_ H → va_S A s.heap H locs → lv_has ls 8 [(0, .ref (AM 0)), (1, .int z1), (2, .int z2), (3, .int z3), (4, .int z4), (5, .int z5), (6, .int z6), (7, .int z7)] → W p l e ({ frames := 3, cells := 0, slots := 0, locals := 65 }) s m args below meth c H locs 0 0 Q (F0 m 248 ls []) := by
    intro M_ z1 z2 z3 z4 z5 z6 z7 H locs ls hq hC hS hl
    unfold w_M_set_b248 at hq
    refine lv_aload_n hx hb d_M_set_248 rfl (lv_at hl 0 rfl) ?_
    refine lv_iconst (v := (0 : Int32)) hx hb d_M_set_249 (by decide) ?_
    refine lv_lconst (v := (0 : Int64)) hx hb d_M_set_250 (by decide) ?_
    refine kci (BB := fun u H => MW D A AM CM u H) (krV (b := (AM 0)) X hl.1 hS hC (c_M_tell l D A AM CM M_ (0 : Int32) (0 : Int64) _ hq) ki_M_tell wd_430 wd_432 ws_M_tell (mrecX X hC) ⟨rfl, rfl, Nat.le_of_ble_eq_true rfl, Nat.le_of_ble_eq_true rfl⟩ rfl rfl (Nat.le_of_ble_eq_true rfl) d_M_set_251 ⟨Nat.le_of_ble_eq_true rfl, Nat.le_of_ble_eq_true rfl⟩) hS (fun r251_7 K251_7 H locs hq hC hS => ?_)
    exact hE r251_7 K251_7 _ _ _ _ _ ls hq hC hS (Nat.le_of_ble_eq_true rfl) (Nat.le_of_ble_eq_true rfl) d_M_set_254
  have J230 : ∀ (M_ : MT) (z1 : Int32) (z2 : Int32) (z3 : Int32) (z4 : Int32) (z5 : Int32) (z6 : Int32) (z7 : Int32) (H : Heap) (locs : List Loc) (ls : Array Slot), w_M_set_b230 M_ z1 z2 z3 z4 z5 z6 z7 post → MW D A AM CM M_ H → va_S A s.heap H locs → lv_has ls 8 [(0, .ref (AM 0)), (1, .int z1), (2, .int z2), (3, .int z3), (4, .int z4), (5, .int z5), (6, .int z6), (7, .int z7)] → W p l e ({ frames := 3, cells := 0, slots := 0, locals := 65 }) s m args below meth c H locs 0 0 Q (F0 m 230 ls []) := by
    intro M_ z1 z2 z3 z4 z5 z6 z7 H locs ls hq hC hS hl
    unfold w_M_set_b230 at hq
    refine lv_iload_n hx hb d_M_set_230 rfl (lv_at hl 2 rfl) ?_
    refine lv_bipush (v := (8 : Int32)) hx hb d_M_set_231 (by decide) ?_
    refine lv_icmp_ne (tgt := 248) hx hb d_M_set_233 (by decide) (fun c_8 => ?_) (fun c_8 => ?_)
    · have hq := hq.2 c_8
      exact J248 M_ z1 z2 z3 z4 z5 z6 z7 _ _ ls hq hC hS (lv_sub hl [0, 1, 2, 3, 4, 5, 6, 7] rfl)
    · have hq := hq.1 c_8
      refine lv_aload_n hx hb d_M_set_236 rfl (lv_at hl 0 rfl) ?_
      refine mg_extra X hC d_M_set_237 ?_
      refine lv_iload hx hb d_M_set_240 (lv_at hl 4 rfl) ?_
      refine lv_aload_n hx hb d_M_set_242 rfl (lv_at hl 0 rfl) ?_
      refine mg_wholeNow X hC d_M_set_243 ?_
      refine lv_l2i hx hb d_M_set_246 rfl ?_
      have hs_ := hq.1
      have hq := hq.2
      refine mt_extra X hC hS hs_ d_M_set_247 (fun H locs hC hS => ?_)
      exact J248 (ms_extra M_ (z4).toNatClampNeg (m_wholeNow M_).toInt32) z1 z2 z3 z4 z5 z6 z7 _ _ ls hq hC hS (lv_sub hl [0, 1, 2, 3, 4, 5, 6, 7] rfl)
  have J216 : ∀ (M_ : MT) (z1 : Int32) (z2 : Int32) (z3 : Int32) (z4 : Int32) (z5 : Int32) (z6 : Int32) (z7 : Int32) (H : Heap) (locs : List Loc) (ls : Array Slot), w_M_set_b216 M_ z1 z2 z3 z4 z5 z6 z7 post → MW D A AM CM M_ H → va_S A s.heap H locs → lv_has ls 8 [(0, .ref (AM 0)), (1, .int z1), (2, .int z2), (3, .int z3), (4, .int z4), (5, .int z5), (6, .int z6), (7, .int z7)] → W p l e ({ frames := 3, cells := 0, slots := 0, locals := 65 }) s m args below meth c H locs 0 0 Q (F0 m 216 ls []) := by
    intro M_ z1 z2 z3 z4 z5 z6 z7 H locs ls hq hC hS hl
    unfold w_M_set_b216 at hq
    refine lv_iload_n hx hb d_M_set_216 rfl (lv_at hl 2 rfl) ?_
    refine lv_bipush (v := (7 : Int32)) hx hb d_M_set_217 (by decide) ?_
    refine lv_icmp_ne (tgt := 230) hx hb d_M_set_219 (by decide) (fun c_9 => ?_) (fun c_9 => ?_)
    · have hq := hq.2 c_9
      exact J230 M_ z1 z2 z3 z4 z5 z6 z7 _ _ ls hq hC hS (lv_sub hl [0, 1, 2, 3, 4, 5, 6, 7] rfl)
    · have hq := hq.1 c_9
      refine lv_aload_n hx hb d_M_set_222 rfl (lv_at hl 0 rfl) ?_
      refine lv_aload_n hx hb d_M_set_223 rfl (lv_at hl 0 rfl) ?_
      refine mg_wholeNow X hC d_M_set_224 ?_
      refine mp_shared X hC hS d_M_set_227 (fun H locs hC hS => ?_)
      exact J230 (ms_shared M_ (m_wholeNow M_)) z1 z2 z3 z4 z5 z6 z7 _ _ ls hq hC hS (lv_sub hl [0, 1, 2, 3, 4, 5, 6, 7] rfl)
  have J202 : ∀ (M_ : MT) (z1 : Int32) (z2 : Int32) (z3 : Int32) (z4 : Int32) (z5 : Int32) (z6 : Int32) (z7 : Int32) (H : Heap) (locs : List Loc) (ls : Array Slot), w_M_set_b202 M_ z1 z2 z3 z4 z5 z6 z7 post → MW D A AM CM M_ H → va_S A s.heap H locs → lv_has ls 8 [(0, .ref (AM 0)), (1, .int z1), (2, .int z2), (3, .int z3), (4, .int z4), (5, .int z5), (6, .int z6), (7, .int z7)] → W p l e ({ frames := 3, cells := 0, slots := 0, locals := 65 }) s m args below meth c H locs 0 0 Q (F0 m 202 ls []) := by
    intro M_ z1 z2 z3 z4 z5 z6 z7 H locs ls hq hC hS hl
    unfold w_M_set_b202 at hq
    refine lv_iload_n hx hb d_M_set_202 rfl (lv_at hl 2 rfl) ?_
    refine lv_iconst (v := (5 : Int32)) hx hb d_M_set_203 (by decide) ?_
    refine lv_icmp_ne (tgt := 216) hx hb d_M_set_204 (by decide) (fun c_10 => ?_) (fun c_10 => ?_)
    · have hq := hq.2 c_10
      exact J216 M_ z1 z2 z3 z4 z5 z6 z7 _ _ ls hq hC hS (lv_sub hl [0, 1, 2, 3, 4, 5, 6, 7] rfl)
    · have hq := hq.1 c_10
      refine lv_aload_n hx hb d_M_set_207 rfl (lv_at hl 0 rfl) ?_
      refine mg_next X hC d_M_set_208 ?_
      refine lv_iload hx hb d_M_set_211 (lv_at hl 4 rfl) ?_
      refine lv_iload hx hb d_M_set_213 (lv_at hl 5 rfl) ?_
      have hs_ := hq.1
      have hq := hq.2
      refine mt_next X hC hS hs_ d_M_set_215 (fun H locs hC hS => ?_)
      exact J216 (ms_next M_ (z4).toNatClampNeg z5) z1 z2 z3 z4 z5 z6 z7 _ _ ls hq hC hS (lv_sub hl [0, 1, 2, 3, 4, 5, 6, 7] rfl)
  have J188 : ∀ (M_ : MT) (z1 : Int32) (z2 : Int32) (z3 : Int32) (z4 : Int32) (z5 : Int32) (z6 : Int32) (z7 : Int32) (H : Heap) (locs : List Loc) (ls : Array Slot), w_M_set_b188 M_ z1 z2 z3 z4 z5 z6 z7 post → MW D A AM CM M_ H → va_S A s.heap H locs → lv_has ls 8 [(0, .ref (AM 0)), (1, .int z1), (2, .int z2), (3, .int z3), (4, .int z4), (5, .int z5), (6, .int z6), (7, .int z7)] → W p l e ({ frames := 3, cells := 0, slots := 0, locals := 65 }) s m args below meth c H locs 0 0 Q (F0 m 188 ls []) := by
    intro M_ z1 z2 z3 z4 z5 z6 z7 H locs ls hq hC hS hl
    unfold w_M_set_b188 at hq
    refine lv_iload_n hx hb d_M_set_188 rfl (lv_at hl 2 rfl) ?_
    refine lv_iconst (v := (4 : Int32)) hx hb d_M_set_189 (by decide) ?_
    refine lv_icmp_ne (tgt := 202) hx hb d_M_set_190 (by decide) (fun c_11 => ?_) (fun c_11 => ?_)
    · have hq := hq.2 c_11
      exact J202 M_ z1 z2 z3 z4 z5 z6 z7 _ _ ls hq hC hS (lv_sub hl [0, 1, 2, 3, 4, 5, 6, 7] rfl)
    · have hq := hq.1 c_11
      refine lv_aload_n hx hb d_M_set_193 rfl (lv_at hl 0 rfl) ?_
      refine mg_any X hC d_M_set_194 ?_
      refine lv_iload hx hb d_M_set_197 (lv_at hl 4 rfl) ?_
      refine lv_iload hx hb d_M_set_199 (lv_at hl 5 rfl) ?_
      have hs_ := hq.1
      have hq := hq.2
      refine mt_any X hC hS hs_ d_M_set_201 (fun H locs hC hS => ?_)
      exact J202 (ms_any M_ (z4).toNatClampNeg z5) z1 z2 z3 z4 z5 z6 z7 _ _ ls hq hC hS (lv_sub hl [0, 1, 2, 3, 4, 5, 6, 7] rfl)
  have J174 : ∀ (M_ : MT) (z1 : Int32) (z2 : Int32) (z3 : Int32) (z4 : Int32) (z5 : Int32) (z6 : Int32) (z7 : Int32) (H : Heap) (locs : List Loc) (ls : Array Slot), w_M_set_b174 M_ z1 z2 z3 z4 z5 z6 z7 post → MW D A AM CM M_ H → va_S A s.heap H locs → lv_has ls 8 [(0, .ref (AM 0)), (1, .int z1), (2, .int z2), (3, .int z3), (4, .int z4), (5, .int z5), (6, .int z6), (7, .int z7)] → W p l e ({ frames := 3, cells := 0, slots := 0, locals := 65 }) s m args below meth c H locs 0 0 Q (F0 m 174 ls []) := by
    intro M_ z1 z2 z3 z4 z5 z6 z7 H locs ls hq hC hS hl
    unfold w_M_set_b174 at hq
    refine lv_iload_n hx hb d_M_set_174 rfl (lv_at hl 2 rfl) ?_
    refine lv_iconst (v := (3 : Int32)) hx hb d_M_set_175 (by decide) ?_
    refine lv_icmp_ne (tgt := 188) hx hb d_M_set_176 (by decide) (fun c_12 => ?_) (fun c_12 => ?_)
    · have hq := hq.2 c_12
      exact J188 M_ z1 z2 z3 z4 z5 z6 z7 _ _ ls hq hC hS (lv_sub hl [0, 1, 2, 3, 4, 5, 6, 7] rfl)
    · have hq := hq.1 c_12
      refine lv_aload_n hx hb d_M_set_179 rfl (lv_at hl 0 rfl) ?_
      refine mg_text X hC d_M_set_180 ?_
      refine lv_iload hx hb d_M_set_183 (lv_at hl 4 rfl) ?_
      refine lv_iload hx hb d_M_set_185 (lv_at hl 5 rfl) ?_
      have hs_ := hq.1
      have hq := hq.2
      refine mt_text X hC hS hs_ d_M_set_187 (fun H locs hC hS => ?_)
      exact J188 (ms_text M_ (z4).toNatClampNeg z5) z1 z2 z3 z4 z5 z6 z7 _ _ ls hq hC hS (lv_sub hl [0, 1, 2, 3, 4, 5, 6, 7] rfl)
  have J158 : ∀ (M_ : MT) (z1 : Int32) (z2 : Int32) (z3 : Int32) (z4 : Int32) (z5 : Int32) (z6 : Int32) (z7 : Int32) (H : Heap) (locs : List Loc) (ls : Array Slot), w_M_set_b158 M_ z1 z2 z3 z4 z5 z6 z7 post → MW D A AM CM M_ H → va_S A s.heap H locs → lv_has ls 8 [(0, .ref (AM 0)), (1, .int z1), (2, .int z2), (3, .int z3), (4, .int z4), (5, .int z5), (6, .int z6), (7, .int z7)] → W p l e ({ frames := 3, cells := 0, slots := 0, locals := 65 }) s m args below meth c H locs 0 0 Q (F0 m 158 ls []) := by
    intro M_ z1 z2 z3 z4 z5 z6 z7 H locs ls hq hC hS hl
    unfold w_M_set_b158 at hq
    refine lv_iload_n hx hb d_M_set_158 rfl (lv_at hl 2 rfl) ?_
    refine lv_iconst (v := (2 : Int32)) hx hb d_M_set_159 (by decide) ?_
    refine lv_icmp_ne (tgt := 174) hx hb d_M_set_160 (by decide) (fun c_13 => ?_) (fun c_13 => ?_)
    · have hq := hq.2 c_13
      exact J174 M_ z1 z2 z3 z4 z5 z6 z7 _ _ ls hq hC hS (lv_sub hl [0, 1, 2, 3, 4, 5, 6, 7] rfl)
    · have hq := hq.1 c_13
      refine lv_aload_n hx hb d_M_set_163 rfl (lv_at hl 0 rfl) ?_
      refine mg_real X hC d_M_set_164 ?_
      refine lv_iload hx hb d_M_set_167 (lv_at hl 4 rfl) ?_
      refine lv_aload_n hx hb d_M_set_169 rfl (lv_at hl 0 rfl) ?_
      refine mg_realNow X hC d_M_set_170 ?_
      have hs_ := hq.1
      have hq := hq.2
      refine mt_real X hC hS hs_ d_M_set_173 (fun H locs hC hS => ?_)
      exact J174 (ms_real M_ (z4).toNatClampNeg (m_realNow M_)) z1 z2 z3 z4 z5 z6 z7 _ _ ls hq hC hS (lv_sub hl [0, 1, 2, 3, 4, 5, 6, 7] rfl)
  have J141 : ∀ (M_ : MT) (z1 : Int32) (z2 : Int32) (z3 : Int32) (z4 : Int32) (z5 : Int32) (z6 : Int32) (z7 : Int32) (H : Heap) (locs : List Loc) (ls : Array Slot), w_M_set_b141 M_ z1 z2 z3 z4 z5 z6 z7 post → MW D A AM CM M_ H → va_S A s.heap H locs → lv_has ls 8 [(0, .ref (AM 0)), (1, .int z1), (2, .int z2), (3, .int z3), (4, .int z4), (5, .int z5), (6, .int z6), (7, .int z7)] → W p l e ({ frames := 3, cells := 0, slots := 0, locals := 65 }) s m args below meth c H locs 0 0 Q (F0 m 141 ls []) := by
    intro M_ z1 z2 z3 z4 z5 z6 z7 H locs ls hq hC hS hl
    unfold w_M_set_b141 at hq
    refine lv_iload_n hx hb d_M_set_141 rfl (lv_at hl 2 rfl) ?_
    refine lv_iconst (v := (1 : Int32)) hx hb d_M_set_142 (by decide) ?_
    refine lv_icmp_ne (tgt := 158) hx hb d_M_set_143 (by decide) (fun c_14 => ?_) (fun c_14 => ?_)
    · have hq := hq.2 c_14
      exact J158 M_ z1 z2 z3 z4 z5 z6 z7 _ _ ls hq hC hS (lv_sub hl [0, 1, 2, 3, 4, 5, 6, 7] rfl)
    · have hq := hq.1 c_14
      refine lv_aload_n hx hb d_M_set_146 rfl (lv_at hl 0 rfl) ?_
      refine mg_small X hC d_M_set_147 ?_
      refine lv_iload hx hb d_M_set_150 (lv_at hl 4 rfl) ?_
      refine lv_aload_n hx hb d_M_set_152 rfl (lv_at hl 0 rfl) ?_
      refine mg_wholeNow X hC d_M_set_153 ?_
      refine lv_l2i hx hb d_M_set_156 rfl ?_
      have hs_ := hq.1
      have hq := hq.2
      refine mt_small X hC hS hs_ d_M_set_157 (fun H locs hC hS => ?_)
      exact J158 (ms_small M_ (z4).toNatClampNeg (m_wholeNow M_).toInt32) z1 z2 z3 z4 z5 z6 z7 _ _ ls hq hC hS (lv_sub hl [0, 1, 2, 3, 4, 5, 6, 7] rfl)
  have J126 : ∀ (M_ : MT) (z1 : Int32) (z2 : Int32) (z3 : Int32) (z4 : Int32) (z5 : Int32) (z6 : Int32) (z7 : Int32) (H : Heap) (locs : List Loc) (ls : Array Slot), w_M_set_b126 M_ z1 z2 z3 z4 z5 z6 z7 post → MW D A AM CM M_ H → va_S A s.heap H locs → lv_has ls 8 [(0, .ref (AM 0)), (1, .int z1), (2, .int z2), (3, .int z3), (4, .int z4), (5, .int z5), (6, .int z6), (7, .int z7)] → W p l e ({ frames := 3, cells := 0, slots := 0, locals := 65 }) s m args below meth c H locs 0 0 Q (F0 m 126 ls []) := by
    intro M_ z1 z2 z3 z4 z5 z6 z7 H locs ls hq hC hS hl
    unfold w_M_set_b126 at hq
    refine lv_iload_n hx hb d_M_set_126 rfl (lv_at hl 2 rfl) ?_
    refine lv_if_ne (tgt := 141) hx hb d_M_set_127 (by decide) (fun c_15 => ?_) (fun c_15 => ?_)
    · have hq := hq.2 c_15
      exact J141 M_ z1 z2 z3 z4 z5 z6 z7 _ _ ls hq hC hS (lv_sub hl [0, 1, 2, 3, 4, 5, 6, 7] rfl)
    · have hq := hq.1 c_15
      refine lv_aload_n hx hb d_M_set_130 rfl (lv_at hl 0 rfl) ?_
      refine mg_whole X hC d_M_set_131 ?_
      refine lv_iload hx hb d_M_set_134 (lv_at hl 4 rfl) ?_
      refine lv_aload_n hx hb d_M_set_136 rfl (lv_at hl 0 rfl) ?_
      refine mg_wholeNow X hC d_M_set_137 ?_
      have hs_ := hq.1
      have hq := hq.2
      refine mt_whole X hC hS hs_ d_M_set_140 (fun H locs hC hS => ?_)
      exact J141 (ms_whole M_ (z4).toNatClampNeg (m_wholeNow M_)) z1 z2 z3 z4 z5 z6 z7 _ _ ls hq hC hS (lv_sub hl [0, 1, 2, 3, 4, 5, 6, 7] rfl)
  have J119 : ∀ (M_ : MT) (z1 : Int32) (z2 : Int32) (z3 : Int32) (z4 : Int32) (z5 : Int32) (z6 : Int32) (z7 : Int32) (H : Heap) (locs : List Loc) (ls : Array Slot), w_M_set_b119 M_ z1 z2 z3 z4 z5 z6 z7 post → MW D A AM CM M_ H → va_S A s.heap H locs → lv_has ls 8 [(0, .ref (AM 0)), (1, .int z1), (2, .int z2), (3, .int z3), (4, .int z4), (5, .int z5), (6, .int z6), (7, .int z7)] → W p l e ({ frames := 3, cells := 0, slots := 0, locals := 65 }) s m args below meth c H locs 0 0 Q (F0 m 119 ls []) := by
    intro M_ z1 z2 z3 z4 z5 z6 z7 H locs ls hq hC hS hl
    unfold w_M_set_b119 at hq
    refine lv_aload_n hx hb d_M_set_119 rfl (lv_at hl 0 rfl) ?_
    refine lv_iconst (v := (2 : Int32)) hx hb d_M_set_120 (by decide) ?_
    refine lv_lconst (v := (0 : Int64)) hx hb d_M_set_121 (by decide) ?_
    refine kci (BB := fun u H => MW D A AM CM u H) (krV (b := (AM 0)) X hl.1 hS hC (c_M_tell l D A AM CM M_ (2 : Int32) (0 : Int64) _ hq) ki_M_tell wd_430 wd_432 ws_M_tell (mrecX X hC) ⟨rfl, rfl, Nat.le_of_ble_eq_true rfl, Nat.le_of_ble_eq_true rfl⟩ rfl rfl (Nat.le_of_ble_eq_true rfl) d_M_set_122 ⟨Nat.le_of_ble_eq_true rfl, Nat.le_of_ble_eq_true rfl⟩) hS (fun r122_16 K122_16 H locs hq hC hS => ?_)
    exact hE r122_16 K122_16 _ _ _ _ _ ls hq hC hS (Nat.le_of_ble_eq_true rfl) (Nat.le_of_ble_eq_true rfl) d_M_set_125
  have J71 : ∀ (M_ : MT) (z1 : Int32) (z2 : Int32) (z3 : Int32) (z4 : Int32) (z5 : Int32) (z6 : Int32) (H : Heap) (locs : List Loc) (ls : Array Slot), w_M_set_b71 M_ z1 z2 z3 z4 z5 z6 post → MW D A AM CM M_ H → va_S A s.heap H locs → lv_has ls 8 [(0, .ref (AM 0)), (1, .int z1), (2, .int z2), (3, .int z3), (4, .int z4), (5, .int z5), (6, .int z6)] → W p l e ({ frames := 3, cells := 0, slots := 0, locals := 65 }) s m args below meth c H locs 0 0 Q (F0 m 71 ls []) := by
    intro M_ z1 z2 z3 z4 z5 z6 H locs ls hq hC hS hl
    unfold w_M_set_b71 at hq
    refine lv_iload hx hb d_M_set_71 (lv_at hl 6 rfl) ?_
    refine lv_if_eq (tgt := 84) hx hb d_M_set_73 (by decide) (fun c_22 => ?_) (fun c_22 => ?_)
    · have hq := hq.1 c_22
      refine lv_iload_n hx hb d_M_set_84 rfl (lv_at hl 2 rfl) ?_
      refine kci (BB := fun (_ : Unit) H => MW D A AM CM M_ H) (krS X hl.1 hS hC (c_M_kindOf l D (tysM CM) A _ z2 _ hq) ki_M_kindOf wd_457 wd_458 ⟨rfl, rfl, Nat.le_of_ble_eq_true rfl, Nat.le_of_ble_eq_true rfl⟩ rfl rfl (Nat.le_of_ble_eq_true rfl) d_M_set_85 ⟨Nat.le_of_ble_eq_true rfl, Nat.le_of_ble_eq_true rfl⟩) hS (fun r85_5 _u H locs hq hC hS => ?_)
      refine lv_istore (lv' := [(7, .int r85_5), (0, .ref (AM 0)), (1, .int z1), (2, .int z2), (3, .int z3), (4, .int z4), (5, .int z5), (6, .int z6)]) hx hb d_M_set_88 hl (by decide) rfl (fun ls hl => ?_)
      refine lv_iload hx hb d_M_set_90 (lv_at hl 0 rfl) ?_
      refine lv_if_ge (tgt := 108) hx hb d_M_set_92 (by decide) (fun c_20 => ?_) (fun c_20 => ?_)
      · have hq := hq.1 c_20
        refine lv_aload_n hx hb d_M_set_108 rfl (lv_at hl 1 rfl) ?_
        refine lv_iload hx hb d_M_set_109 (lv_at hl 6 rfl) ?_
        refine lv_iload hx hb d_M_set_111 (lv_at hl 0 rfl) ?_
        refine kci (BB := fun u H => MW D A AM CM u H) (krV (b := (AM 0)) X hl.1 hS hC (c_M_unboxes l D A AM CM M_ z5 r85_5 _ hq) ki_M_unboxes wd_493 wd_495 ws_M_unboxes (mrecX X hC) ⟨rfl, rfl, Nat.le_of_ble_eq_true rfl, Nat.le_of_ble_eq_true rfl⟩ rfl rfl (Nat.le_of_ble_eq_true rfl) d_M_set_113 ⟨Nat.le_of_ble_eq_true rfl, Nat.le_of_ble_eq_true rfl⟩) hS (fun r113_6 K113_6 H locs hq hC hS => ?_)
        refine lv_if_ne (tgt := 126) hx hb d_M_set_116 (by decide) (fun c_17 => ?_) (fun c_17 => ?_)
        · have hq := hq.2 c_17
          exact J126 K113_6 z1 z2 z3 z4 z5 z6 r85_5 _ _ ls hq hC hS (lv_sub hl [1, 2, 3, 4, 5, 6, 7, 0] rfl)
        · have hq := hq.1 c_17
          exact J119 K113_6 z1 z2 z3 z4 z5 z6 r85_5 _ _ ls hq hC hS (lv_sub hl [1, 2, 3, 4, 5, 6, 7, 0] rfl)
      · have hq := hq.2 c_20
        refine lv_aload_n hx hb d_M_set_95 rfl (lv_at hl 1 rfl) ?_
        refine lv_iload hx hb d_M_set_96 (lv_at hl 6 rfl) ?_
        refine lv_iload_n hx hb d_M_set_98 rfl (lv_at hl 3 rfl) ?_
        refine kci (BB := fun (_ : Unit) H => MW D A AM CM M_ H) (krV (b := (AM 0)) X hl.1 hS hC (c_M_fits l D A AM CM M_ z5 z2 _ hq) ki_M_fits wd_485 wd_487 ws_M_fits (mrecX X hC) ⟨rfl, rfl, Nat.le_of_ble_eq_true rfl, Nat.le_of_ble_eq_true rfl⟩ rfl rfl (Nat.le_of_ble_eq_true rfl) d_M_set_99 ⟨Nat.le_of_ble_eq_true rfl, Nat.le_of_ble_eq_true rfl⟩) hS (fun r99_18 _u H locs hq hC hS => ?_)
        refine lv_if_ne (tgt := 126) hx hb d_M_set_102 (by decide) (fun c_19 => ?_) (fun c_19 => ?_)
        · have hq := hq.2 c_19
          exact J126 M_ z1 z2 z3 z4 z5 z6 r85_5 _ _ ls hq hC hS (lv_sub hl [1, 2, 3, 4, 5, 6, 7, 0] rfl)
        · have hq := hq.1 c_19
          refine lv_goto (tgt := 119) hx hb d_M_set_105 (by decide) ?_
          exact J119 M_ z1 z2 z3 z4 z5 z6 r85_5 _ _ ls hq hC hS (lv_sub hl [1, 2, 3, 4, 5, 6, 7, 0] rfl)
    · have hq := hq.2 c_22
      refine lv_aload_n hx hb d_M_set_76 rfl (lv_at hl 0 rfl) ?_
      refine lv_iload hx hb d_M_set_77 (lv_at hl 6 rfl) ?_
      refine lv_lconst (v := (0 : Int64)) hx hb d_M_set_79 (by decide) ?_
      refine kci (BB := fun u H => MW D A AM CM u H) (krV (b := (AM 0)) X hl.1 hS hC (c_M_tell l D A AM CM M_ z6 (0 : Int64) _ hq) ki_M_tell wd_430 wd_432 ws_M_tell (mrecX X hC) ⟨rfl, rfl, Nat.le_of_ble_eq_true rfl, Nat.le_of_ble_eq_true rfl⟩ rfl rfl (Nat.le_of_ble_eq_true rfl) d_M_set_80 ⟨Nat.le_of_ble_eq_true rfl, Nat.le_of_ble_eq_true rfl⟩) hS (fun r80_21 K80_21 H locs hq hC hS => ?_)
      exact hE r80_21 K80_21 _ _ _ _ _ ls hq hC hS (Nat.le_of_ble_eq_true rfl) (Nat.le_of_ble_eq_true rfl) d_M_set_83
  unfold w_M_set at hq
  refine lv_iload_n hx hb d_M_set_0 rfl (lv_at hl 1 rfl) ?_
  refine lv_iconst (v := (0 : Int32)) hx hb d_M_set_1 (by decide) ?_
  refine lv_bipush (v := (8 : Int32)) hx hb d_M_set_2 (by decide) ?_
  refine kci (BB := fun (_ : Unit) H => MW D A AM CM M H) (krS X hl.1 hS hC (c_M_in l D (tysM CM) A _ a1 (0 : Int32) (8 : Int32) _ hq) ki_M_in wd_422 wd_423 ⟨rfl, rfl, Nat.le_of_ble_eq_true rfl, Nat.le_of_ble_eq_true rfl⟩ rfl rfl (Nat.le_of_ble_eq_true rfl) d_M_set_4 ⟨Nat.le_of_ble_eq_true rfl, Nat.le_of_ble_eq_true rfl⟩) hS (fun r4_1 _u H locs hq hC hS => ?_)
  refine lv_if_eq (tgt := 30) hx hb d_M_set_7 (by decide) (fun c_27 => ?_) (fun c_27 => ?_)
  · have hq := hq.1 c_27
    exact J30 M a1 a2 a3 _ _ ls hq hC hS (lv_sub hl [0, 1, 2, 3] rfl)
  · have hq := hq.2 c_27
    refine lv_iload_n hx hb d_M_set_10 rfl (lv_at hl 2 rfl) ?_
    refine lv_iconst (v := (0 : Int32)) hx hb d_M_set_11 (by decide) ?_
    refine lv_bipush (v := (8 : Int32)) hx hb d_M_set_12 (by decide) ?_
    refine kci (BB := fun (_ : Unit) H => MW D A AM CM M H) (krS X hl.1 hS hC (c_M_in l D (tysM CM) A _ a2 (0 : Int32) (8 : Int32) _ hq) ki_M_in wd_422 wd_423 ⟨rfl, rfl, Nat.le_of_ble_eq_true rfl, Nat.le_of_ble_eq_true rfl⟩ rfl rfl (Nat.le_of_ble_eq_true rfl) d_M_set_14 ⟨Nat.le_of_ble_eq_true rfl, Nat.le_of_ble_eq_true rfl⟩) hS (fun r14_2 _u H locs hq hC hS => ?_)
    refine lv_if_eq (tgt := 30) hx hb d_M_set_17 (by decide) (fun c_26 => ?_) (fun c_26 => ?_)
    · have hq := hq.1 c_26
      exact J30 M a1 a2 a3 _ _ ls hq hC hS (lv_sub hl [0, 1, 2, 3] rfl)
    · have hq := hq.2 c_26
      refine lv_iload_n hx hb d_M_set_20 rfl (lv_at hl 3 rfl) ?_
      refine lv_iconst (v := (0 : Int32)) hx hb d_M_set_21 (by decide) ?_
      refine lv_bipush (v := (8 : Int32)) hx hb d_M_set_22 (by decide) ?_
      refine kci (BB := fun (_ : Unit) H => MW D A AM CM M H) (krS X hl.1 hS hC (c_M_in l D (tysM CM) A _ a3 (0 : Int32) (8 : Int32) _ hq) ki_M_in wd_422 wd_423 ⟨rfl, rfl, Nat.le_of_ble_eq_true rfl, Nat.le_of_ble_eq_true rfl⟩ rfl rfl (Nat.le_of_ble_eq_true rfl) d_M_set_24 ⟨Nat.le_of_ble_eq_true rfl, Nat.le_of_ble_eq_true rfl⟩) hS (fun r24_3 _u H locs hq hC hS => ?_)
      refine lv_if_ne (tgt := 32) hx hb d_M_set_27 (by decide) (fun c_25 => ?_) (fun c_25 => ?_)
      · have hq := hq.2 c_25
        refine lv_aload_n hx hb d_M_set_32 rfl (lv_at hl 0 rfl) ?_
        refine mg_held X hC d_M_set_33 ?_
        refine lv_iload_n hx hb d_M_set_36 rfl (lv_at hl 1 rfl) ?_
        have hs_ := hq.1
        have hq := hq.2
        refine ml_held X hC hs_ d_M_set_37 ?_
        refine lv_istore (lv' := [(4, .int (m_held M (a1).toNatClampNeg)), (0, .ref (AM 0)), (1, .int a1), (2, .int a2), (3, .int a3)]) hx hb d_M_set_38 hl (by decide) rfl (fun ls hl => ?_)
        refine lv_aload_n hx hb d_M_set_40 rfl (lv_at hl 1 rfl) ?_
        refine mg_held X hC d_M_set_41 ?_
        refine lv_iload_n hx hb d_M_set_44 rfl (lv_at hl 4 rfl) ?_
        have hs_ := hq.1
        have hq := hq.2
        refine ml_held X hC hs_ d_M_set_45 ?_
        refine lv_istore (lv' := [(5, .int (m_held M (a3).toNatClampNeg)), (4, .int (m_held M (a1).toNatClampNeg)), (0, .ref (AM 0)), (1, .int a1), (2, .int a2), (3, .int a3)]) hx hb d_M_set_46 hl (by decide) rfl (fun ls hl => ?_)
        refine lv_aload_n hx hb d_M_set_48 rfl (lv_at hl 2 rfl) ?_
        refine lv_iload hx hb d_M_set_49 (lv_at hl 1 rfl) ?_
        refine lv_iload_n hx hb d_M_set_51 rfl (lv_at hl 4 rfl) ?_
        refine kci (BB := fun (_ : Unit) H => MW D A AM CM M H) (krV (b := (AM 0)) X hl.1 hS hC (c_M_reach l D A AM CM M (m_held M (a1).toNatClampNeg) a2 _ hq) ki_M_reach wd_453 wd_455 ws_M_reach (mrecX X hC) ⟨rfl, rfl, Nat.le_of_ble_eq_true rfl, Nat.le_of_ble_eq_true rfl⟩ rfl rfl (Nat.le_of_ble_eq_true rfl) d_M_set_52 ⟨Nat.le_of_ble_eq_true rfl, Nat.le_of_ble_eq_true rfl⟩) hS (fun r52_4 _u H locs hq hC hS => ?_)
        refine lv_istore (lv' := [(6, .int r52_4), (5, .int (m_held M (a3).toNatClampNeg)), (4, .int (m_held M (a1).toNatClampNeg)), (0, .ref (AM 0)), (1, .int a1), (2, .int a2), (3, .int a3)]) hx hb d_M_set_55 hl (by decide) rfl (fun ls hl => ?_)
        refine lv_iload hx hb d_M_set_57 (lv_at hl 0 rfl) ?_
        refine lv_if_ne (tgt := 71) hx hb d_M_set_59 (by decide) (fun c_24 => ?_) (fun c_24 => ?_)
        · have hq := hq.2 c_24
          exact J71 M a1 a2 a3 (m_held M (a1).toNatClampNeg) (m_held M (a3).toNatClampNeg) r52_4 _ _ ls hq hC hS (lv_sub hl [3, 4, 5, 6, 2, 1, 0] rfl)
        · have hq := hq.1 c_24
          refine lv_iload_n hx hb d_M_set_62 rfl (lv_at hl 5 rfl) ?_
          refine lv_bipush (v := (6 : Int32)) hx hb d_M_set_63 (by decide) ?_
          refine lv_icmp_ne (tgt := 71) hx hb d_M_set_65 (by decide) (fun c_23 => ?_) (fun c_23 => ?_)
          · have hq := hq.2 c_23
            exact J71 M a1 a2 a3 (m_held M (a1).toNatClampNeg) (m_held M (a3).toNatClampNeg) r52_4 _ _ ls hq hC hS (lv_sub hl [3, 4, 5, 6, 2, 1, 0] rfl)
          · have hq := hq.1 c_23
            refine lv_iconst (v := (3 : Int32)) hx hb d_M_set_68 (by decide) ?_
            refine lv_istore (lv' := [(6, .int (3 : Int32)), (5, .int (m_held M (a3).toNatClampNeg)), (4, .int (m_held M (a1).toNatClampNeg)), (0, .ref (AM 0)), (1, .int a1), (2, .int a2), (3, .int a3)]) hx hb d_M_set_69 hl (by decide) rfl (fun ls hl => ?_)
            exact J71 M a1 a2 a3 (m_held M (a1).toNatClampNeg) (m_held M (a3).toNatClampNeg) (3 : Int32) _ _ ls hq hC hS (lv_sub hl [3, 4, 5, 6, 2, 1, 0] rfl)
      · have hq := hq.1 c_25
        exact J30 M a1 a2 a3 _ _ ls hq hC hS (lv_sub hl [0, 1, 2, 3] rfl)
def w_M_answer (M : MT) (a1 : Int32) (a2 : Int64) (post : Int32 → MT → Prop) : Prop := w_M_box (ms_wholeNow M a2) a1 (fun r13_1 K13_1 => (vp_in (8 : Int32) 9) ∧ (w_M_tell (ms_held K13_1 ((8 : Int32)).toNatClampNeg r13_1) (0 : Int32) (0 : Int64) (fun r20_2 K20_2 => post r20_2 K20_2)))
set_option maxHeartbeats 8000000 in
set_option maxRecDepth 100000 in
theorem c_M_answer (l : Launch) (D : va_G) (A : Nat → Prop) (AM : Nat → Nat) (CM : Nat → ClassId) (M : MT) (a1 : Int32) (a2 : Int64) (post : Int32 → MT → Prop) (hq : w_M_answer M a1 a2 post) : Met l y_M_answer (kw y_M_answer b_M_answer 4 (Option.some Jvm.ClassFile.FieldType.int)) ({ frames := 2, cells := 0, slots := 0, locals := 43 }) (kP D (tysM CM) A [.ref (AM 0), .int a1, .long a2] (MW D A AM CM M)) (va_Qi post (fun u t => MW D A AM CM u t.heap) A) 0 0 A := by
  refine kmet_i (BB := (fun u H => MW D A AM CM u H)) (lv := [(0, .ref (AM 0)), (1, .int a1), (2, .long a2)]) (by decide +kernel) rfl (Nat.le_of_ble_eq_true rfl) ?_
  intro p e s m args below meth c Q ls X hin hC hl hE
  have hx := X.x
  have hb := X.b
  have hS : va_S A s.heap s.heap [] := va_S.rf
  unfold w_M_answer at hq
  refine lv_aload_n hx hb d_M_answer_0 rfl (lv_at hl 0 rfl) ?_
  refine lv_lload_n hx hb d_M_answer_1 rfl (lv_at hl 2 rfl) ?_
  refine mp_wholeNow X hC hS d_M_answer_2 (fun H locs hC hS => ?_)
  refine lv_aload_n hx hb d_M_answer_5 rfl (lv_at hl 0 rfl) ?_
  refine mg_held X hC d_M_answer_6 ?_
  refine lv_bipush (v := (8 : Int32)) hx hb d_M_answer_9 (by decide) ?_
  refine lv_aload_n hx hb d_M_answer_11 rfl (lv_at hl 0 rfl) ?_
  refine lv_iload_n hx hb d_M_answer_12 rfl (lv_at hl 1 rfl) ?_
  refine kci (BB := fun u H => MW D A AM CM u H) (krV (b := (AM 0)) X hl.1 hS hC (c_M_box l D A AM CM (ms_wholeNow M a2) a1 _ hq) ki_M_box wd_437 wd_439 ws_M_box (mrecX X hC) ⟨rfl, rfl, Nat.le_of_ble_eq_true rfl, Nat.le_of_ble_eq_true rfl⟩ rfl rfl (Nat.le_of_ble_eq_true rfl) d_M_answer_13 ⟨Nat.le_of_ble_eq_true rfl, Nat.le_of_ble_eq_true rfl⟩) hS (fun r13_1 K13_1 H locs hq hC hS => ?_)
  have hs_ := hq.1
  have hq := hq.2
  refine mt_held X hC hS hs_ d_M_answer_16 (fun H locs hC hS => ?_)
  refine lv_aload_n hx hb d_M_answer_17 rfl (lv_at hl 0 rfl) ?_
  refine lv_iconst (v := (0 : Int32)) hx hb d_M_answer_18 (by decide) ?_
  refine lv_lconst (v := (0 : Int64)) hx hb d_M_answer_19 (by decide) ?_
  refine kci (BB := fun u H => MW D A AM CM u H) (krV (b := (AM 0)) X hl.1 hS hC (c_M_tell l D A AM CM (ms_held K13_1 ((8 : Int32)).toNatClampNeg r13_1) (0 : Int32) (0 : Int64) _ hq) ki_M_tell wd_430 wd_432 ws_M_tell (mrecX X hC) ⟨rfl, rfl, Nat.le_of_ble_eq_true rfl, Nat.le_of_ble_eq_true rfl⟩ rfl rfl (Nat.le_of_ble_eq_true rfl) d_M_answer_20 ⟨Nat.le_of_ble_eq_true rfl, Nat.le_of_ble_eq_true rfl⟩) hS (fun r20_2 K20_2 H locs hq hC hS => ?_)
  exact hE r20_2 K20_2 _ _ _ _ _ ls hq hC hS (Nat.le_of_ble_eq_true rfl) (Nat.le_of_ble_eq_true rfl) d_M_answer_23
def w_M_sum (M : MT) (a1 : Int32) (a2 : Int32) (a3 : Int32) (post : Int32 → MT → Prop) : Prop := w_M_unboxes M a2 (4 : Int32) (fun r3_1 K3_1 => ((r3_1 = (0 : Int32)) → (w_M_tell K3_1 (2 : Int32) (0 : Int64) (fun r12_6 K12_6 => post r12_6 K12_6))) ∧ (¬ (r3_1 = (0 : Int32)) → (w_M_unboxes K3_1 a3 (5 : Int32) (fun r25_2 K25_2 => ((r25_2 = (0 : Int32)) → (w_M_tell K25_2 (2 : Int32) (0 : Int64) (fun r34_4 K34_4 => post r34_4 K34_4))) ∧ (¬ (r25_2 = (0 : Int32)) → ((vp_in a1 520) ∧ (w_M_answer K25_2 (5 : Int32) (((m_wholeNow K3_1) + (m_wholeNow K25_2)) + (m_whole K25_2 (a1).toNatClampNeg)) (fun r54_3 K54_3 => post r54_3 K54_3))))))))
set_option maxHeartbeats 8000000 in
set_option maxRecDepth 100000 in
theorem c_M_sum (l : Launch) (D : va_G) (A : Nat → Prop) (AM : Nat → Nat) (CM : Nat → ClassId) (M : MT) (a1 : Int32) (a2 : Int32) (a3 : Int32) (post : Int32 → MT → Prop) (hq : w_M_sum M a1 a2 a3 post) : Met l y_M_sum (kw y_M_sum b_M_sum 6 (Option.some Jvm.ClassFile.FieldType.int)) ({ frames := 3, cells := 0, slots := 0, locals := 66 }) (kP D (tysM CM) A [.ref (AM 0), .int a1, .int a2, .int a3] (MW D A AM CM M)) (va_Qi post (fun u t => MW D A AM CM u t.heap) A) 0 0 A := by
  refine kmet_i (BB := (fun u H => MW D A AM CM u H)) (lv := [(0, .ref (AM 0)), (1, .int a1), (2, .int a2), (3, .int a3)]) (by decide +kernel) rfl (Nat.le_of_ble_eq_true rfl) ?_
  intro p e s m args below meth c Q ls X hin hC hl hE
  have hx := X.x
  have hb := X.b
  have hS : va_S A s.heap s.heap [] := va_S.rf
  unfold w_M_sum at hq
  refine lv_aload_n hx hb d_M_sum_0 rfl (lv_at hl 0 rfl) ?_
  refine lv_iload_n hx hb d_M_sum_1 rfl (lv_at hl 2 rfl) ?_
  refine lv_iconst (v := (4 : Int32)) hx hb d_M_sum_2 (by decide) ?_
  refine kci (BB := fun u H => MW D A AM CM u H) (krV (b := (AM 0)) X hl.1 hS hC (c_M_unboxes l D A AM CM M a2 (4 : Int32) _ hq) ki_M_unboxes wd_493 wd_495 ws_M_unboxes (mrecX X hC) ⟨rfl, rfl, Nat.le_of_ble_eq_true rfl, Nat.le_of_ble_eq_true rfl⟩ rfl rfl (Nat.le_of_ble_eq_true rfl) d_M_sum_3 ⟨Nat.le_of_ble_eq_true rfl, Nat.le_of_ble_eq_true rfl⟩) hS (fun r3_1 K3_1 H locs hq hC hS => ?_)
  refine lv_if_ne (tgt := 16) hx hb d_M_sum_6 (by decide) (fun c_7 => ?_) (fun c_7 => ?_)
  · have hq := hq.2 c_7
    refine lv_aload_n hx hb d_M_sum_16 rfl (lv_at hl 0 rfl) ?_
    refine mg_wholeNow X hC d_M_sum_17 ?_
    refine lv_lstore (lv' := [(4, .long (m_wholeNow K3_1)), (0, .ref (AM 0)), (1, .int a1), (2, .int a2), (3, .int a3)]) hx hb d_M_sum_20 hl (by decide) rfl (fun ls hl => ?_)
    refine lv_aload_n hx hb d_M_sum_22 rfl (lv_at hl 1 rfl) ?_
    refine lv_iload_n hx hb d_M_sum_23 rfl (lv_at hl 4 rfl) ?_
    refine lv_iconst (v := (5 : Int32)) hx hb d_M_sum_24 (by decide) ?_
    refine kci (BB := fun u H => MW D A AM CM u H) (krV (b := (AM 0)) X hl.1 hS hC (c_M_unboxes l D A AM CM K3_1 a3 (5 : Int32) _ hq) ki_M_unboxes wd_493 wd_495 ws_M_unboxes (mrecX X hC) ⟨rfl, rfl, Nat.le_of_ble_eq_true rfl, Nat.le_of_ble_eq_true rfl⟩ rfl rfl (Nat.le_of_ble_eq_true rfl) d_M_sum_25 ⟨Nat.le_of_ble_eq_true rfl, Nat.le_of_ble_eq_true rfl⟩) hS (fun r25_2 K25_2 H locs hq hC hS => ?_)
    refine lv_if_ne (tgt := 38) hx hb d_M_sum_28 (by decide) (fun c_5 => ?_) (fun c_5 => ?_)
    · have hq := hq.2 c_5
      refine lv_aload_n hx hb d_M_sum_38 rfl (lv_at hl 1 rfl) ?_
      refine lv_iconst (v := (5 : Int32)) hx hb d_M_sum_39 (by decide) ?_
      refine lv_lload hx hb d_M_sum_40 (lv_at hl 0 rfl) ?_
      refine lv_aload_n hx hb d_M_sum_42 rfl (lv_at hl 1 rfl) ?_
      refine mg_wholeNow X hC d_M_sum_43 ?_
      refine lv_ladd hx hb d_M_sum_46 ?_
      refine lv_aload_n hx hb d_M_sum_47 rfl (lv_at hl 1 rfl) ?_
      refine mg_whole X hC d_M_sum_48 ?_
      refine lv_iload_n hx hb d_M_sum_51 rfl (lv_at hl 2 rfl) ?_
      have hs_ := hq.1
      have hq := hq.2
      refine ml_whole X hC hs_ d_M_sum_52 ?_
      refine lv_ladd hx hb d_M_sum_53 ?_
      refine kci (BB := fun u H => MW D A AM CM u H) (krV (b := (AM 0)) X hl.1 hS hC (c_M_answer l D A AM CM K25_2 (5 : Int32) (((m_wholeNow K3_1) + (m_wholeNow K25_2)) + (m_whole K25_2 (a1).toNatClampNeg)) _ hq) ki_M_answer wd_509 wd_511 ws_M_answer (mrecX X hC) ⟨rfl, rfl, Nat.le_of_ble_eq_true rfl, Nat.le_of_ble_eq_true rfl⟩ rfl rfl (Nat.le_of_ble_eq_true rfl) d_M_sum_54 ⟨Nat.le_of_ble_eq_true rfl, Nat.le_of_ble_eq_true rfl⟩) hS (fun r54_3 K54_3 H locs hq hC hS => ?_)
      exact hE r54_3 K54_3 _ _ _ _ _ ls hq hC hS (Nat.le_of_ble_eq_true rfl) (Nat.le_of_ble_eq_true rfl) d_M_sum_57
    · have hq := hq.1 c_5
      refine lv_aload_n hx hb d_M_sum_31 rfl (lv_at hl 1 rfl) ?_
      refine lv_iconst (v := (2 : Int32)) hx hb d_M_sum_32 (by decide) ?_
      refine lv_lconst (v := (0 : Int64)) hx hb d_M_sum_33 (by decide) ?_
      refine kci (BB := fun u H => MW D A AM CM u H) (krV (b := (AM 0)) X hl.1 hS hC (c_M_tell l D A AM CM K25_2 (2 : Int32) (0 : Int64) _ hq) ki_M_tell wd_430 wd_432 ws_M_tell (mrecX X hC) ⟨rfl, rfl, Nat.le_of_ble_eq_true rfl, Nat.le_of_ble_eq_true rfl⟩ rfl rfl (Nat.le_of_ble_eq_true rfl) d_M_sum_34 ⟨Nat.le_of_ble_eq_true rfl, Nat.le_of_ble_eq_true rfl⟩) hS (fun r34_4 K34_4 H locs hq hC hS => ?_)
      exact hE r34_4 K34_4 _ _ _ _ _ ls hq hC hS (Nat.le_of_ble_eq_true rfl) (Nat.le_of_ble_eq_true rfl) d_M_sum_37
  · have hq := hq.1 c_7
    refine lv_aload_n hx hb d_M_sum_9 rfl (lv_at hl 0 rfl) ?_
    refine lv_iconst (v := (2 : Int32)) hx hb d_M_sum_10 (by decide) ?_
    refine lv_lconst (v := (0 : Int64)) hx hb d_M_sum_11 (by decide) ?_
    refine kci (BB := fun u H => MW D A AM CM u H) (krV (b := (AM 0)) X hl.1 hS hC (c_M_tell l D A AM CM K3_1 (2 : Int32) (0 : Int64) _ hq) ki_M_tell wd_430 wd_432 ws_M_tell (mrecX X hC) ⟨rfl, rfl, Nat.le_of_ble_eq_true rfl, Nat.le_of_ble_eq_true rfl⟩ rfl rfl (Nat.le_of_ble_eq_true rfl) d_M_sum_12 ⟨Nat.le_of_ble_eq_true rfl, Nat.le_of_ble_eq_true rfl⟩) hS (fun r12_6 K12_6 H locs hq hC hS => ?_)
    exact hE r12_6 K12_6 _ _ _ _ _ ls hq hC hS (Nat.le_of_ble_eq_true rfl) (Nat.le_of_ble_eq_true rfl) d_M_sum_15
def w_M_tag (M : MT) (a1 : Int32) (a2 : Int32) (post : Int32 → MT → Prop) : Prop := ((a1 = (0 : Int32)) → (((a1 = (0 : Int32)) → (w_M_tell M (4 : Int32) (2 : Int64) (fun r31_2 K31_2 => post r31_2 K31_2))) ∧ (¬ (a1 = (0 : Int32)) → ((vp_in a1 520) ∧ ((vp_in a2 520) ∧ (w_M_answer M (4 : Int32) (((100 : Int64) * (m_whole M (a1).toNatClampNeg)) + (m_sort M (a2).toNatClampNeg).toInt64) (fun r55_1 K55_1 => post r55_1 K55_1))))))) ∧ (¬ (a1 = (0 : Int32)) → ((vp_in a1 520) ∧ ((((m_sort M (a1).toNatClampNeg) = (9 : Int32)) → (((a1 = (0 : Int32)) → (w_M_tell M (4 : Int32) (2 : Int64) (fun r31_5 K31_5 => post r31_5 K31_5))) ∧ (¬ (a1 = (0 : Int32)) → ((vp_in a1 520) ∧ ((vp_in a2 520) ∧ (w_M_answer M (4 : Int32) (((100 : Int64) * (m_whole M (a1).toNatClampNeg)) + (m_sort M (a2).toNatClampNeg).toInt64) (fun r55_4 K55_4 => post r55_4 K55_4))))))) ∧ (¬ ((m_sort M (a1).toNatClampNeg) = (9 : Int32)) → (w_M_tell M (2 : Int32) (0 : Int64) (fun r18_7 K18_7 => post r18_7 K18_7))))))
set_option maxHeartbeats 8000000 in
set_option maxRecDepth 100000 in
theorem c_M_tag (l : Launch) (D : va_G) (A : Nat → Prop) (AM : Nat → Nat) (CM : Nat → ClassId) (M : MT) (a1 : Int32) (a2 : Int32) (post : Int32 → MT → Prop) (hq : w_M_tag M a1 a2 post) : Met l y_M_tag (kw y_M_tag b_M_tag 3 (Option.some Jvm.ClassFile.FieldType.int)) ({ frames := 3, cells := 0, slots := 0, locals := 66 }) (kP D (tysM CM) A [.ref (AM 0), .int a1, .int a2] (MW D A AM CM M)) (va_Qi post (fun u t => MW D A AM CM u t.heap) A) 0 0 A := by
  refine kmet_i (BB := (fun u H => MW D A AM CM u H)) (lv := [(0, .ref (AM 0)), (1, .int a1), (2, .int a2)]) (by decide +kernel) rfl (Nat.le_of_ble_eq_true rfl) ?_
  intro p e s m args below meth c Q ls X hin hC hl hE
  have hx := X.x
  have hb := X.b
  have hS : va_S A s.heap s.heap [] := va_S.rf
  unfold w_M_tag at hq
  refine lv_iload_n hx hb d_M_tag_0 rfl (lv_at hl 1 rfl) ?_
  refine lv_if_eq (tgt := 22) hx hb d_M_tag_1 (by decide) (fun c_9 => ?_) (fun c_9 => ?_)
  · have hq := hq.1 c_9
    refine lv_iload_n hx hb d_M_tag_22 rfl (lv_at hl 1 rfl) ?_
    refine lv_if_ne (tgt := 35) hx hb d_M_tag_23 (by decide) (fun c_3 => ?_) (fun c_3 => ?_)
    · have hq := hq.2 c_3
      refine lv_aload_n hx hb d_M_tag_35 rfl (lv_at hl 0 rfl) ?_
      refine lv_iconst (v := (4 : Int32)) hx hb d_M_tag_36 (by decide) ?_
      refine lv_ldc2 hx hb X.o (X.t _ wd_371) d_M_tag_37 ?_
      refine lv_aload_n hx hb d_M_tag_40 rfl (lv_at hl 0 rfl) ?_
      refine mg_whole X hC d_M_tag_41 ?_
      refine lv_iload_n hx hb d_M_tag_44 rfl (lv_at hl 1 rfl) ?_
      have hs_ := hq.1
      have hq := hq.2
      refine ml_whole X hC hs_ d_M_tag_45 ?_
      refine lv_lmul hx hb d_M_tag_46 ?_
      refine lv_aload_n hx hb d_M_tag_47 rfl (lv_at hl 0 rfl) ?_
      refine mg_sort X hC d_M_tag_48 ?_
      refine lv_iload_n hx hb d_M_tag_51 rfl (lv_at hl 2 rfl) ?_
      have hs_ := hq.1
      have hq := hq.2
      refine ml_sort X hC hs_ d_M_tag_52 ?_
      refine lv_i2l hx hb d_M_tag_53 rfl ?_
      refine lv_ladd hx hb d_M_tag_54 ?_
      refine kci (BB := fun u H => MW D A AM CM u H) (krV (b := (AM 0)) X hl.1 hS hC (c_M_answer l D A AM CM M (4 : Int32) (((100 : Int64) * (m_whole M (a1).toNatClampNeg)) + (m_sort M (a2).toNatClampNeg).toInt64) _ hq) ki_M_answer wd_509 wd_511 ws_M_answer (mrecX X hC) ⟨rfl, rfl, Nat.le_of_ble_eq_true rfl, Nat.le_of_ble_eq_true rfl⟩ rfl rfl (Nat.le_of_ble_eq_true rfl) d_M_tag_55 ⟨Nat.le_of_ble_eq_true rfl, Nat.le_of_ble_eq_true rfl⟩) hS (fun r55_1 K55_1 H locs hq hC hS => ?_)
      exact hE r55_1 K55_1 _ _ _ _ _ ls hq hC hS (Nat.le_of_ble_eq_true rfl) (Nat.le_of_ble_eq_true rfl) d_M_tag_58
    · have hq := hq.1 c_3
      refine lv_aload_n hx hb d_M_tag_26 rfl (lv_at hl 0 rfl) ?_
      refine lv_iconst (v := (4 : Int32)) hx hb d_M_tag_27 (by decide) ?_
      refine lv_ldc2 hx hb X.o (X.t _ wd_517) d_M_tag_28 ?_
      refine kci (BB := fun u H => MW D A AM CM u H) (krV (b := (AM 0)) X hl.1 hS hC (c_M_tell l D A AM CM M (4 : Int32) (2 : Int64) _ hq) ki_M_tell wd_430 wd_432 ws_M_tell (mrecX X hC) ⟨rfl, rfl, Nat.le_of_ble_eq_true rfl, Nat.le_of_ble_eq_true rfl⟩ rfl rfl (Nat.le_of_ble_eq_true rfl) d_M_tag_31 ⟨Nat.le_of_ble_eq_true rfl, Nat.le_of_ble_eq_true rfl⟩) hS (fun r31_2 K31_2 H locs hq hC hS => ?_)
      exact hE r31_2 K31_2 _ _ _ _ _ ls hq hC hS (Nat.le_of_ble_eq_true rfl) (Nat.le_of_ble_eq_true rfl) d_M_tag_34
  · have hq := hq.2 c_9
    refine lv_aload_n hx hb d_M_tag_4 rfl (lv_at hl 0 rfl) ?_
    refine mg_sort X hC d_M_tag_5 ?_
    refine lv_iload_n hx hb d_M_tag_8 rfl (lv_at hl 1 rfl) ?_
    have hs_ := hq.1
    have hq := hq.2
    refine ml_sort X hC hs_ d_M_tag_9 ?_
    refine lv_bipush (v := (9 : Int32)) hx hb d_M_tag_10 (by decide) ?_
    refine lv_icmp_eq (tgt := 22) hx hb d_M_tag_12 (by decide) (fun c_8 => ?_) (fun c_8 => ?_)
    · have hq := hq.1 c_8
      refine lv_iload_n hx hb d_M_tag_22 rfl (lv_at hl 1 rfl) ?_
      refine lv_if_ne (tgt := 35) hx hb d_M_tag_23 (by decide) (fun c_6 => ?_) (fun c_6 => ?_)
      · have hq := hq.2 c_6
        refine lv_aload_n hx hb d_M_tag_35 rfl (lv_at hl 0 rfl) ?_
        refine lv_iconst (v := (4 : Int32)) hx hb d_M_tag_36 (by decide) ?_
        refine lv_ldc2 hx hb X.o (X.t _ wd_371) d_M_tag_37 ?_
        refine lv_aload_n hx hb d_M_tag_40 rfl (lv_at hl 0 rfl) ?_
        refine mg_whole X hC d_M_tag_41 ?_
        refine lv_iload_n hx hb d_M_tag_44 rfl (lv_at hl 1 rfl) ?_
        have hs_ := hq.1
        have hq := hq.2
        refine ml_whole X hC hs_ d_M_tag_45 ?_
        refine lv_lmul hx hb d_M_tag_46 ?_
        refine lv_aload_n hx hb d_M_tag_47 rfl (lv_at hl 0 rfl) ?_
        refine mg_sort X hC d_M_tag_48 ?_
        refine lv_iload_n hx hb d_M_tag_51 rfl (lv_at hl 2 rfl) ?_
        have hs_ := hq.1
        have hq := hq.2
        refine ml_sort X hC hs_ d_M_tag_52 ?_
        refine lv_i2l hx hb d_M_tag_53 rfl ?_
        refine lv_ladd hx hb d_M_tag_54 ?_
        refine kci (BB := fun u H => MW D A AM CM u H) (krV (b := (AM 0)) X hl.1 hS hC (c_M_answer l D A AM CM M (4 : Int32) (((100 : Int64) * (m_whole M (a1).toNatClampNeg)) + (m_sort M (a2).toNatClampNeg).toInt64) _ hq) ki_M_answer wd_509 wd_511 ws_M_answer (mrecX X hC) ⟨rfl, rfl, Nat.le_of_ble_eq_true rfl, Nat.le_of_ble_eq_true rfl⟩ rfl rfl (Nat.le_of_ble_eq_true rfl) d_M_tag_55 ⟨Nat.le_of_ble_eq_true rfl, Nat.le_of_ble_eq_true rfl⟩) hS (fun r55_4 K55_4 H locs hq hC hS => ?_)
        exact hE r55_4 K55_4 _ _ _ _ _ ls hq hC hS (Nat.le_of_ble_eq_true rfl) (Nat.le_of_ble_eq_true rfl) d_M_tag_58
      · have hq := hq.1 c_6
        refine lv_aload_n hx hb d_M_tag_26 rfl (lv_at hl 0 rfl) ?_
        refine lv_iconst (v := (4 : Int32)) hx hb d_M_tag_27 (by decide) ?_
        refine lv_ldc2 hx hb X.o (X.t _ wd_517) d_M_tag_28 ?_
        refine kci (BB := fun u H => MW D A AM CM u H) (krV (b := (AM 0)) X hl.1 hS hC (c_M_tell l D A AM CM M (4 : Int32) (2 : Int64) _ hq) ki_M_tell wd_430 wd_432 ws_M_tell (mrecX X hC) ⟨rfl, rfl, Nat.le_of_ble_eq_true rfl, Nat.le_of_ble_eq_true rfl⟩ rfl rfl (Nat.le_of_ble_eq_true rfl) d_M_tag_31 ⟨Nat.le_of_ble_eq_true rfl, Nat.le_of_ble_eq_true rfl⟩) hS (fun r31_5 K31_5 H locs hq hC hS => ?_)
        exact hE r31_5 K31_5 _ _ _ _ _ ls hq hC hS (Nat.le_of_ble_eq_true rfl) (Nat.le_of_ble_eq_true rfl) d_M_tag_34
    · have hq := hq.2 c_8
      refine lv_aload_n hx hb d_M_tag_15 rfl (lv_at hl 0 rfl) ?_
      refine lv_iconst (v := (2 : Int32)) hx hb d_M_tag_16 (by decide) ?_
      refine lv_lconst (v := (0 : Int64)) hx hb d_M_tag_17 (by decide) ?_
      refine kci (BB := fun u H => MW D A AM CM u H) (krV (b := (AM 0)) X hl.1 hS hC (c_M_tell l D A AM CM M (2 : Int32) (0 : Int64) _ hq) ki_M_tell wd_430 wd_432 ws_M_tell (mrecX X hC) ⟨rfl, rfl, Nat.le_of_ble_eq_true rfl, Nat.le_of_ble_eq_true rfl⟩ rfl rfl (Nat.le_of_ble_eq_true rfl) d_M_tag_18 ⟨Nat.le_of_ble_eq_true rfl, Nat.le_of_ble_eq_true rfl⟩) hS (fun r18_7 K18_7 H locs hq hC hS => ?_)
      exact hE r18_7 K18_7 _ _ _ _ _ ls hq hC hS (Nat.le_of_ble_eq_true rfl) (Nat.le_of_ble_eq_true rfl) d_M_tag_21
def w_M_twice (M : MT) (a1 : Int32) (post : Int32 → MT → Prop) : Prop := w_M_unboxes M a1 (7 : Int32) (fun r4_1 K4_1 => ((r4_1 = (0 : Int32)) → (w_M_tell K4_1 (2 : Int32) (0 : Int64) (fun r13_4 K13_4 => post r13_4 K13_4))) ∧ (¬ (r4_1 = (0 : Int32)) → ((vf_n64 (FP.dadd (m_realNow K4_1) (m_realNow K4_1))) ∧ (w_M_box (ms_realNow K4_1 (FP.dadd (m_realNow K4_1) (m_realNow K4_1))) (7 : Int32) (fun r39_2 K39_2 => (vp_in (8 : Int32) 9) ∧ (w_M_tell (ms_held K39_2 ((8 : Int32)).toNatClampNeg r39_2) (0 : Int32) (0 : Int64) (fun r46_3 K46_3 => post r46_3 K46_3)))))))
set_option maxHeartbeats 8000000 in
set_option maxRecDepth 100000 in
theorem c_M_twice (l : Launch) (D : va_G) (A : Nat → Prop) (AM : Nat → Nat) (CM : Nat → ClassId) (M : MT) (a1 : Int32) (post : Int32 → MT → Prop) (hq : w_M_twice M a1 post) : Met l y_M_twice (kw y_M_twice b_M_twice 2 (Option.some Jvm.ClassFile.FieldType.int)) ({ frames := 3, cells := 0, slots := 0, locals := 65 }) (kP D (tysM CM) A [.ref (AM 0), .int a1] (MW D A AM CM M)) (va_Qi post (fun u t => MW D A AM CM u t.heap) A) 0 0 A := by
  refine kmet_i (BB := (fun u H => MW D A AM CM u H)) (lv := [(0, .ref (AM 0)), (1, .int a1)]) (by decide +kernel) rfl (Nat.le_of_ble_eq_true rfl) ?_
  intro p e s m args below meth c Q ls X hin hC hl hE
  have hx := X.x
  have hb := X.b
  have hS : va_S A s.heap s.heap [] := va_S.rf
  unfold w_M_twice at hq
  refine lv_aload_n hx hb d_M_twice_0 rfl (lv_at hl 0 rfl) ?_
  refine lv_iload_n hx hb d_M_twice_1 rfl (lv_at hl 1 rfl) ?_
  refine lv_bipush (v := (7 : Int32)) hx hb d_M_twice_2 (by decide) ?_
  refine kci (BB := fun u H => MW D A AM CM u H) (krV (b := (AM 0)) X hl.1 hS hC (c_M_unboxes l D A AM CM M a1 (7 : Int32) _ hq) ki_M_unboxes wd_493 wd_495 ws_M_unboxes (mrecX X hC) ⟨rfl, rfl, Nat.le_of_ble_eq_true rfl, Nat.le_of_ble_eq_true rfl⟩ rfl rfl (Nat.le_of_ble_eq_true rfl) d_M_twice_4 ⟨Nat.le_of_ble_eq_true rfl, Nat.le_of_ble_eq_true rfl⟩) hS (fun r4_1 K4_1 H locs hq hC hS => ?_)
  refine lv_if_ne (tgt := 17) hx hb d_M_twice_7 (by decide) (fun c_5 => ?_) (fun c_5 => ?_)
  · have hq := hq.2 c_5
    refine lv_aload_n hx hb d_M_twice_17 rfl (lv_at hl 0 rfl) ?_
    refine lv_aload_n hx hb d_M_twice_18 rfl (lv_at hl 0 rfl) ?_
    refine mg_realNow X hC d_M_twice_19 ?_
    refine lv_aload_n hx hb d_M_twice_22 rfl (lv_at hl 0 rfl) ?_
    refine mg_realNow X hC d_M_twice_23 ?_
    have hs_ := hq.1
    have hq := hq.2
    refine lv_dadd hx hb d_M_twice_26 hs_ ?_
    refine mp_realNow X hC hS d_M_twice_27 (fun H locs hC hS => ?_)
    refine lv_aload_n hx hb d_M_twice_30 rfl (lv_at hl 0 rfl) ?_
    refine mg_held X hC d_M_twice_31 ?_
    refine lv_bipush (v := (8 : Int32)) hx hb d_M_twice_34 (by decide) ?_
    refine lv_aload_n hx hb d_M_twice_36 rfl (lv_at hl 0 rfl) ?_
    refine lv_bipush (v := (7 : Int32)) hx hb d_M_twice_37 (by decide) ?_
    refine kci (BB := fun u H => MW D A AM CM u H) (krV (b := (AM 0)) X hl.1 hS hC (c_M_box l D A AM CM (ms_realNow K4_1 (FP.dadd (m_realNow K4_1) (m_realNow K4_1))) (7 : Int32) _ hq) ki_M_box wd_437 wd_439 ws_M_box (mrecX X hC) ⟨rfl, rfl, Nat.le_of_ble_eq_true rfl, Nat.le_of_ble_eq_true rfl⟩ rfl rfl (Nat.le_of_ble_eq_true rfl) d_M_twice_39 ⟨Nat.le_of_ble_eq_true rfl, Nat.le_of_ble_eq_true rfl⟩) hS (fun r39_2 K39_2 H locs hq hC hS => ?_)
    have hs_ := hq.1
    have hq := hq.2
    refine mt_held X hC hS hs_ d_M_twice_42 (fun H locs hC hS => ?_)
    refine lv_aload_n hx hb d_M_twice_43 rfl (lv_at hl 0 rfl) ?_
    refine lv_iconst (v := (0 : Int32)) hx hb d_M_twice_44 (by decide) ?_
    refine lv_lconst (v := (0 : Int64)) hx hb d_M_twice_45 (by decide) ?_
    refine kci (BB := fun u H => MW D A AM CM u H) (krV (b := (AM 0)) X hl.1 hS hC (c_M_tell l D A AM CM (ms_held K39_2 ((8 : Int32)).toNatClampNeg r39_2) (0 : Int32) (0 : Int64) _ hq) ki_M_tell wd_430 wd_432 ws_M_tell (mrecX X hC) ⟨rfl, rfl, Nat.le_of_ble_eq_true rfl, Nat.le_of_ble_eq_true rfl⟩ rfl rfl (Nat.le_of_ble_eq_true rfl) d_M_twice_46 ⟨Nat.le_of_ble_eq_true rfl, Nat.le_of_ble_eq_true rfl⟩) hS (fun r46_3 K46_3 H locs hq hC hS => ?_)
    exact hE r46_3 K46_3 _ _ _ _ _ ls hq hC hS (Nat.le_of_ble_eq_true rfl) (Nat.le_of_ble_eq_true rfl) d_M_twice_49
  · have hq := hq.1 c_5
    refine lv_aload_n hx hb d_M_twice_10 rfl (lv_at hl 0 rfl) ?_
    refine lv_iconst (v := (2 : Int32)) hx hb d_M_twice_11 (by decide) ?_
    refine lv_lconst (v := (0 : Int64)) hx hb d_M_twice_12 (by decide) ?_
    refine kci (BB := fun u H => MW D A AM CM u H) (krV (b := (AM 0)) X hl.1 hS hC (c_M_tell l D A AM CM K4_1 (2 : Int32) (0 : Int64) _ hq) ki_M_tell wd_430 wd_432 ws_M_tell (mrecX X hC) ⟨rfl, rfl, Nat.le_of_ble_eq_true rfl, Nat.le_of_ble_eq_true rfl⟩ rfl rfl (Nat.le_of_ble_eq_true rfl) d_M_twice_13 ⟨Nat.le_of_ble_eq_true rfl, Nat.le_of_ble_eq_true rfl⟩) hS (fun r13_4 K13_4 H locs hq hC hS => ?_)
    exact hE r13_4 K13_4 _ _ _ _ _ ls hq hC hS (Nat.le_of_ble_eq_true rfl) (Nat.le_of_ble_eq_true rfl) d_M_twice_16
def w_M_div (M : MT) (a1 : Int32) (a2 : Int32) (post : Int32 → MT → Prop) : Prop := w_M_unboxes M a1 (4 : Int32) (fun r3_1 K3_1 => ((r3_1 = (0 : Int32)) → (w_M_tell K3_1 (2 : Int32) (0 : Int64) (fun r12_10 K12_10 => post r12_10 K12_10))) ∧ (¬ (r3_1 = (0 : Int32)) → (w_M_unboxes K3_1 a2 (4 : Int32) (fun r25_2 K25_2 => ((r25_2 = (0 : Int32)) → (w_M_tell K25_2 (2 : Int32) (0 : Int64) (fun r34_8 K34_8 => post r34_8 K34_8))) ∧ (¬ (r25_2 = (0 : Int32)) → ((((m_wholeNow K25_2).toInt32 = (0 : Int32)) → (w_M_tell K25_2 (4 : Int32) (1 : Int64) (fun r53_6 K53_6 => post r53_6 K53_6))) ∧ (¬ ((m_wholeNow K25_2).toInt32 = (0 : Int32)) → ((((m_wholeNow K25_2).toInt32 = (-1 : Int32)) → (w_M_answer K25_2 (4 : Int32) (-(m_wholeNow K3_1).toInt32).toInt64 (fun r76_4 K76_4 => post r76_4 K76_4))) ∧ (¬ ((m_wholeNow K25_2).toInt32 = (-1 : Int32)) → ((¬ (m_wholeNow K25_2).toInt32 = (0 : Int32)) ∧ (w_M_answer K25_2 (4 : Int32) ((m_wholeNow K3_1).toInt32 / (m_wholeNow K25_2).toInt32).toInt64 (fun r76_3 K76_3 => post r76_3 K76_3))))))))))))
set_option maxHeartbeats 8000000 in
set_option maxRecDepth 100000 in
theorem c_M_div (l : Launch) (D : va_G) (A : Nat → Prop) (AM : Nat → Nat) (CM : Nat → ClassId) (M : MT) (a1 : Int32) (a2 : Int32) (post : Int32 → MT → Prop) (hq : w_M_div M a1 a2 post) : Met l y_M_div (kw y_M_div b_M_div 5 (Option.some Jvm.ClassFile.FieldType.int)) ({ frames := 3, cells := 0, slots := 0, locals := 66 }) (kP D (tysM CM) A [.ref (AM 0), .int a1, .int a2] (MW D A AM CM M)) (va_Qi post (fun u t => MW D A AM CM u t.heap) A) 0 0 A := by
  refine kmet_i (BB := (fun u H => MW D A AM CM u H)) (lv := [(0, .ref (AM 0)), (1, .int a1), (2, .int a2)]) (by decide +kernel) rfl (Nat.le_of_ble_eq_true rfl) ?_
  intro p e s m args below meth c Q ls X hin hC hl hE
  have hx := X.x
  have hb := X.b
  have hS : va_S A s.heap s.heap [] := va_S.rf
  unfold w_M_div at hq
  refine lv_aload_n hx hb d_M_div_0 rfl (lv_at hl 0 rfl) ?_
  refine lv_iload_n hx hb d_M_div_1 rfl (lv_at hl 1 rfl) ?_
  refine lv_iconst (v := (4 : Int32)) hx hb d_M_div_2 (by decide) ?_
  refine kci (BB := fun u H => MW D A AM CM u H) (krV (b := (AM 0)) X hl.1 hS hC (c_M_unboxes l D A AM CM M a1 (4 : Int32) _ hq) ki_M_unboxes wd_493 wd_495 ws_M_unboxes (mrecX X hC) ⟨rfl, rfl, Nat.le_of_ble_eq_true rfl, Nat.le_of_ble_eq_true rfl⟩ rfl rfl (Nat.le_of_ble_eq_true rfl) d_M_div_3 ⟨Nat.le_of_ble_eq_true rfl, Nat.le_of_ble_eq_true rfl⟩) hS (fun r3_1 K3_1 H locs hq hC hS => ?_)
  refine lv_if_ne (tgt := 16) hx hb d_M_div_6 (by decide) (fun c_11 => ?_) (fun c_11 => ?_)
  · have hq := hq.2 c_11
    refine lv_aload_n hx hb d_M_div_16 rfl (lv_at hl 0 rfl) ?_
    refine mg_wholeNow X hC d_M_div_17 ?_
    refine lv_l2i hx hb d_M_div_20 rfl ?_
    refine lv_istore_n (lv' := [(3, .int (m_wholeNow K3_1).toInt32), (0, .ref (AM 0)), (1, .int a1), (2, .int a2)]) hx hb d_M_div_21 rfl hl (by decide) rfl (fun ls hl => ?_)
    refine lv_aload_n hx hb d_M_div_22 rfl (lv_at hl 1 rfl) ?_
    refine lv_iload_n hx hb d_M_div_23 rfl (lv_at hl 3 rfl) ?_
    refine lv_iconst (v := (4 : Int32)) hx hb d_M_div_24 (by decide) ?_
    refine kci (BB := fun u H => MW D A AM CM u H) (krV (b := (AM 0)) X hl.1 hS hC (c_M_unboxes l D A AM CM K3_1 a2 (4 : Int32) _ hq) ki_M_unboxes wd_493 wd_495 ws_M_unboxes (mrecX X hC) ⟨rfl, rfl, Nat.le_of_ble_eq_true rfl, Nat.le_of_ble_eq_true rfl⟩ rfl rfl (Nat.le_of_ble_eq_true rfl) d_M_div_25 ⟨Nat.le_of_ble_eq_true rfl, Nat.le_of_ble_eq_true rfl⟩) hS (fun r25_2 K25_2 H locs hq hC hS => ?_)
    refine lv_if_ne (tgt := 38) hx hb d_M_div_28 (by decide) (fun c_9 => ?_) (fun c_9 => ?_)
    · have hq := hq.2 c_9
      refine lv_aload_n hx hb d_M_div_38 rfl (lv_at hl 1 rfl) ?_
      refine mg_wholeNow X hC d_M_div_39 ?_
      refine lv_l2i hx hb d_M_div_42 rfl ?_
      refine lv_istore (lv' := [(4, .int (m_wholeNow K25_2).toInt32), (3, .int (m_wholeNow K3_1).toInt32), (0, .ref (AM 0)), (1, .int a1), (2, .int a2)]) hx hb d_M_div_43 hl (by decide) rfl (fun ls hl => ?_)
      refine lv_iload hx hb d_M_div_45 (lv_at hl 0 rfl) ?_
      refine lv_if_ne (tgt := 57) hx hb d_M_div_47 (by decide) (fun c_7 => ?_) (fun c_7 => ?_)
      · have hq := hq.2 c_7
        refine lv_aload_n hx hb d_M_div_57 rfl (lv_at hl 2 rfl) ?_
        refine lv_iconst (v := (4 : Int32)) hx hb d_M_div_58 (by decide) ?_
        refine lv_iload hx hb d_M_div_59 (lv_at hl 0 rfl) ?_
        refine lv_iconst (v := (-1 : Int32)) hx hb d_M_div_61 (by decide) ?_
        refine lv_icmp_ne (tgt := 71) hx hb d_M_div_62 (by decide) (fun c_5 => ?_) (fun c_5 => ?_)
        · have hq := hq.2 c_5
          refine lv_iload_n hx hb d_M_div_71 rfl (lv_at hl 1 rfl) ?_
          refine lv_iload hx hb d_M_div_72 (lv_at hl 0 rfl) ?_
          have hs_ := hq.1
          have hq := hq.2
          refine lv_idiv hx hb d_M_div_74 hs_ ?_
          refine lv_i2l hx hb d_M_div_75 rfl ?_
          refine kci (BB := fun u H => MW D A AM CM u H) (krV (b := (AM 0)) X hl.1 hS hC (c_M_answer l D A AM CM K25_2 (4 : Int32) ((m_wholeNow K3_1).toInt32 / (m_wholeNow K25_2).toInt32).toInt64 _ hq) ki_M_answer wd_509 wd_511 ws_M_answer (mrecX X hC) ⟨rfl, rfl, Nat.le_of_ble_eq_true rfl, Nat.le_of_ble_eq_true rfl⟩ rfl rfl (Nat.le_of_ble_eq_true rfl) d_M_div_76 ⟨Nat.le_of_ble_eq_true rfl, Nat.le_of_ble_eq_true rfl⟩) hS (fun r76_3 K76_3 H locs hq hC hS => ?_)
          exact hE r76_3 K76_3 _ _ _ _ _ ls hq hC hS (Nat.le_of_ble_eq_true rfl) (Nat.le_of_ble_eq_true rfl) d_M_div_79
        · have hq := hq.1 c_5
          refine lv_iload_n hx hb d_M_div_65 rfl (lv_at hl 1 rfl) ?_
          refine lv_ineg hx hb d_M_div_66 ?_
          refine lv_i2l hx hb d_M_div_67 rfl ?_
          refine lv_goto (tgt := 76) hx hb d_M_div_68 (by decide) ?_
          refine kci (BB := fun u H => MW D A AM CM u H) (krV (b := (AM 0)) X hl.1 hS hC (c_M_answer l D A AM CM K25_2 (4 : Int32) (-(m_wholeNow K3_1).toInt32).toInt64 _ hq) ki_M_answer wd_509 wd_511 ws_M_answer (mrecX X hC) ⟨rfl, rfl, Nat.le_of_ble_eq_true rfl, Nat.le_of_ble_eq_true rfl⟩ rfl rfl (Nat.le_of_ble_eq_true rfl) d_M_div_76 ⟨Nat.le_of_ble_eq_true rfl, Nat.le_of_ble_eq_true rfl⟩) hS (fun r76_4 K76_4 H locs hq hC hS => ?_)
          exact hE r76_4 K76_4 _ _ _ _ _ ls hq hC hS (Nat.le_of_ble_eq_true rfl) (Nat.le_of_ble_eq_true rfl) d_M_div_79
      · have hq := hq.1 c_7
        refine lv_aload_n hx hb d_M_div_50 rfl (lv_at hl 2 rfl) ?_
        refine lv_iconst (v := (4 : Int32)) hx hb d_M_div_51 (by decide) ?_
        refine lv_lconst (v := (1 : Int64)) hx hb d_M_div_52 (by decide) ?_
        refine kci (BB := fun u H => MW D A AM CM u H) (krV (b := (AM 0)) X hl.1 hS hC (c_M_tell l D A AM CM K25_2 (4 : Int32) (1 : Int64) _ hq) ki_M_tell wd_430 wd_432 ws_M_tell (mrecX X hC) ⟨rfl, rfl, Nat.le_of_ble_eq_true rfl, Nat.le_of_ble_eq_true rfl⟩ rfl rfl (Nat.le_of_ble_eq_true rfl) d_M_div_53 ⟨Nat.le_of_ble_eq_true rfl, Nat.le_of_ble_eq_true rfl⟩) hS (fun r53_6 K53_6 H locs hq hC hS => ?_)
        exact hE r53_6 K53_6 _ _ _ _ _ ls hq hC hS (Nat.le_of_ble_eq_true rfl) (Nat.le_of_ble_eq_true rfl) d_M_div_56
    · have hq := hq.1 c_9
      refine lv_aload_n hx hb d_M_div_31 rfl (lv_at hl 1 rfl) ?_
      refine lv_iconst (v := (2 : Int32)) hx hb d_M_div_32 (by decide) ?_
      refine lv_lconst (v := (0 : Int64)) hx hb d_M_div_33 (by decide) ?_
      refine kci (BB := fun u H => MW D A AM CM u H) (krV (b := (AM 0)) X hl.1 hS hC (c_M_tell l D A AM CM K25_2 (2 : Int32) (0 : Int64) _ hq) ki_M_tell wd_430 wd_432 ws_M_tell (mrecX X hC) ⟨rfl, rfl, Nat.le_of_ble_eq_true rfl, Nat.le_of_ble_eq_true rfl⟩ rfl rfl (Nat.le_of_ble_eq_true rfl) d_M_div_34 ⟨Nat.le_of_ble_eq_true rfl, Nat.le_of_ble_eq_true rfl⟩) hS (fun r34_8 K34_8 H locs hq hC hS => ?_)
      exact hE r34_8 K34_8 _ _ _ _ _ ls hq hC hS (Nat.le_of_ble_eq_true rfl) (Nat.le_of_ble_eq_true rfl) d_M_div_37
  · have hq := hq.1 c_11
    refine lv_aload_n hx hb d_M_div_9 rfl (lv_at hl 0 rfl) ?_
    refine lv_iconst (v := (2 : Int32)) hx hb d_M_div_10 (by decide) ?_
    refine lv_lconst (v := (0 : Int64)) hx hb d_M_div_11 (by decide) ?_
    refine kci (BB := fun u H => MW D A AM CM u H) (krV (b := (AM 0)) X hl.1 hS hC (c_M_tell l D A AM CM K3_1 (2 : Int32) (0 : Int64) _ hq) ki_M_tell wd_430 wd_432 ws_M_tell (mrecX X hC) ⟨rfl, rfl, Nat.le_of_ble_eq_true rfl, Nat.le_of_ble_eq_true rfl⟩ rfl rfl (Nat.le_of_ble_eq_true rfl) d_M_div_12 ⟨Nat.le_of_ble_eq_true rfl, Nat.le_of_ble_eq_true rfl⟩) hS (fun r12_10 K12_10 H locs hq hC hS => ?_)
    exact hE r12_10 K12_10 _ _ _ _ _ ls hq hC hS (Nat.le_of_ble_eq_true rfl) (Nat.le_of_ble_eq_true rfl) d_M_div_15
def w_M_pick (M : MT) (a1 : Int32) (a2 : Int32) (post : Int32 → MT → Prop) : Prop := ((a2 = (0 : Int32)) → (((a2 = (0 : Int32)) → (w_M_tell M (4 : Int32) (2 : Int64) (fun r28_4 K28_4 => post r28_4 K28_4))) ∧ (¬ (a2 = (0 : Int32)) → ((vp_in a2 520) ∧ ((vp_in a1 520) ∧ ((((m_sort M (a1).toNatClampNeg) = (11 : Int32)) → ((vp_in a1 520) ∧ (w_M_answer M (4 : Int32) ((m_extra M (a1).toNatClampNeg) + (m_whole M (a2).toNatClampNeg).toInt32).toInt64 (fun r75_2 K75_2 => post r75_2 K75_2)))) ∧ (¬ ((m_sort M (a1).toNatClampNeg) = (11 : Int32)) → ((vp_in a1 520) ∧ (w_M_answer M (4 : Int32) ((m_whole M (a1).toNatClampNeg).toInt32 - (m_whole M (a2).toNatClampNeg).toInt32).toInt64 (fun r75_1 K75_1 => post r75_1 K75_1)))))))))) ∧ (¬ (a2 = (0 : Int32)) → (w_M_isItem M a2 (fun r6_6 => ((r6_6 = (0 : Int32)) → (w_M_tell M (2 : Int32) (0 : Int64) (fun r15_12 K15_12 => post r15_12 K15_12))) ∧ (¬ (r6_6 = (0 : Int32)) → (((a2 = (0 : Int32)) → (w_M_tell M (4 : Int32) (2 : Int64) (fun r28_10 K28_10 => post r28_10 K28_10))) ∧ (¬ (a2 = (0 : Int32)) → ((vp_in a2 520) ∧ ((vp_in a1 520) ∧ ((((m_sort M (a1).toNatClampNeg) = (11 : Int32)) → ((vp_in a1 520) ∧ (w_M_answer M (4 : Int32) ((m_extra M (a1).toNatClampNeg) + (m_whole M (a2).toNatClampNeg).toInt32).toInt64 (fun r75_8 K75_8 => post r75_8 K75_8)))) ∧ (¬ ((m_sort M (a1).toNatClampNeg) = (11 : Int32)) → ((vp_in a1 520) ∧ (w_M_answer M (4 : Int32) ((m_whole M (a1).toNatClampNeg).toInt32 - (m_whole M (a2).toNatClampNeg).toInt32).toInt64 (fun r75_7 K75_7 => post r75_7 K75_7)))))))))))))
set_option maxHeartbeats 8000000 in
set_option maxRecDepth 100000 in
theorem c_M_pick (l : Launch) (D : va_G) (A : Nat → Prop) (AM : Nat → Nat) (CM : Nat → ClassId) (M : MT) (a1 : Int32) (a2 : Int32) (post : Int32 → MT → Prop) (hq : w_M_pick M a1 a2 post) : Met l y_M_pick (kw y_M_pick b_M_pick 4 (Option.some Jvm.ClassFile.FieldType.int)) ({ frames := 3, cells := 0, slots := 0, locals := 66 }) (kP D (tysM CM) A [.ref (AM 0), .int a1, .int a2] (MW D A AM CM M)) (va_Qi post (fun u t => MW D A AM CM u t.heap) A) 0 0 A := by
  refine kmet_i (BB := (fun u H => MW D A AM CM u H)) (lv := [(0, .ref (AM 0)), (1, .int a1), (2, .int a2)]) (by decide +kernel) rfl (Nat.le_of_ble_eq_true rfl) ?_
  intro p e s m args below meth c Q ls X hin hC hl hE
  have hx := X.x
  have hb := X.b
  have hS : va_S A s.heap s.heap [] := va_S.rf
  unfold w_M_pick at hq
  refine lv_iload_n hx hb d_M_pick_0 rfl (lv_at hl 2 rfl) ?_
  refine lv_if_eq (tgt := 19) hx hb d_M_pick_1 (by decide) (fun c_14 => ?_) (fun c_14 => ?_)
  · have hq := hq.1 c_14
    refine lv_iload_n hx hb d_M_pick_19 rfl (lv_at hl 2 rfl) ?_
    refine lv_if_ne (tgt := 32) hx hb d_M_pick_20 (by decide) (fun c_5 => ?_) (fun c_5 => ?_)
    · have hq := hq.2 c_5
      refine lv_aload_n hx hb d_M_pick_32 rfl (lv_at hl 0 rfl) ?_
      refine mg_whole X hC d_M_pick_33 ?_
      refine lv_iload_n hx hb d_M_pick_36 rfl (lv_at hl 2 rfl) ?_
      have hs_ := hq.1
      have hq := hq.2
      refine ml_whole X hC hs_ d_M_pick_37 ?_
      refine lv_l2i hx hb d_M_pick_38 rfl ?_
      refine lv_istore_n (lv' := [(3, .int (m_whole M (a2).toNatClampNeg).toInt32), (0, .ref (AM 0)), (1, .int a1), (2, .int a2)]) hx hb d_M_pick_39 rfl hl (by decide) rfl (fun ls hl => ?_)
      refine lv_aload_n hx hb d_M_pick_40 rfl (lv_at hl 1 rfl) ?_
      refine lv_iconst (v := (4 : Int32)) hx hb d_M_pick_41 (by decide) ?_
      refine lv_aload_n hx hb d_M_pick_42 rfl (lv_at hl 1 rfl) ?_
      refine mg_sort X hC d_M_pick_43 ?_
      refine lv_iload_n hx hb d_M_pick_46 rfl (lv_at hl 2 rfl) ?_
      have hs_ := hq.1
      have hq := hq.2
      refine ml_sort X hC hs_ d_M_pick_47 ?_
      refine lv_bipush (v := (11 : Int32)) hx hb d_M_pick_48 (by decide) ?_
      refine lv_icmp_ne (tgt := 65) hx hb d_M_pick_50 (by decide) (fun c_3 => ?_) (fun c_3 => ?_)
      · have hq := hq.2 c_3
        refine lv_aload_n hx hb d_M_pick_65 rfl (lv_at hl 1 rfl) ?_
        refine mg_whole X hC d_M_pick_66 ?_
        refine lv_iload_n hx hb d_M_pick_69 rfl (lv_at hl 2 rfl) ?_
        have hs_ := hq.1
        have hq := hq.2
        refine ml_whole X hC hs_ d_M_pick_70 ?_
        refine lv_l2i hx hb d_M_pick_71 rfl ?_
        refine lv_iload_n hx hb d_M_pick_72 rfl (lv_at hl 0 rfl) ?_
        refine lv_isub hx hb d_M_pick_73 ?_
        refine lv_i2l hx hb d_M_pick_74 rfl ?_
        refine kci (BB := fun u H => MW D A AM CM u H) (krV (b := (AM 0)) X hl.1 hS hC (c_M_answer l D A AM CM M (4 : Int32) ((m_whole M (a1).toNatClampNeg).toInt32 - (m_whole M (a2).toNatClampNeg).toInt32).toInt64 _ hq) ki_M_answer wd_509 wd_511 ws_M_answer (mrecX X hC) ⟨rfl, rfl, Nat.le_of_ble_eq_true rfl, Nat.le_of_ble_eq_true rfl⟩ rfl rfl (Nat.le_of_ble_eq_true rfl) d_M_pick_75 ⟨Nat.le_of_ble_eq_true rfl, Nat.le_of_ble_eq_true rfl⟩) hS (fun r75_1 K75_1 H locs hq hC hS => ?_)
        exact hE r75_1 K75_1 _ _ _ _ _ ls hq hC hS (Nat.le_of_ble_eq_true rfl) (Nat.le_of_ble_eq_true rfl) d_M_pick_78
      · have hq := hq.1 c_3
        refine lv_aload_n hx hb d_M_pick_53 rfl (lv_at hl 1 rfl) ?_
        refine mg_extra X hC d_M_pick_54 ?_
        refine lv_iload_n hx hb d_M_pick_57 rfl (lv_at hl 2 rfl) ?_
        have hs_ := hq.1
        have hq := hq.2
        refine ml_extra X hC hs_ d_M_pick_58 ?_
        refine lv_iload_n hx hb d_M_pick_59 rfl (lv_at hl 0 rfl) ?_
        refine lv_iadd hx hb d_M_pick_60 ?_
        refine lv_i2l hx hb d_M_pick_61 rfl ?_
        refine lv_goto (tgt := 75) hx hb d_M_pick_62 (by decide) ?_
        refine kci (BB := fun u H => MW D A AM CM u H) (krV (b := (AM 0)) X hl.1 hS hC (c_M_answer l D A AM CM M (4 : Int32) ((m_extra M (a1).toNatClampNeg) + (m_whole M (a2).toNatClampNeg).toInt32).toInt64 _ hq) ki_M_answer wd_509 wd_511 ws_M_answer (mrecX X hC) ⟨rfl, rfl, Nat.le_of_ble_eq_true rfl, Nat.le_of_ble_eq_true rfl⟩ rfl rfl (Nat.le_of_ble_eq_true rfl) d_M_pick_75 ⟨Nat.le_of_ble_eq_true rfl, Nat.le_of_ble_eq_true rfl⟩) hS (fun r75_2 K75_2 H locs hq hC hS => ?_)
        exact hE r75_2 K75_2 _ _ _ _ _ ls hq hC hS (Nat.le_of_ble_eq_true rfl) (Nat.le_of_ble_eq_true rfl) d_M_pick_78
    · have hq := hq.1 c_5
      refine lv_aload_n hx hb d_M_pick_23 rfl (lv_at hl 0 rfl) ?_
      refine lv_iconst (v := (4 : Int32)) hx hb d_M_pick_24 (by decide) ?_
      refine lv_ldc2 hx hb X.o (X.t _ wd_517) d_M_pick_25 ?_
      refine kci (BB := fun u H => MW D A AM CM u H) (krV (b := (AM 0)) X hl.1 hS hC (c_M_tell l D A AM CM M (4 : Int32) (2 : Int64) _ hq) ki_M_tell wd_430 wd_432 ws_M_tell (mrecX X hC) ⟨rfl, rfl, Nat.le_of_ble_eq_true rfl, Nat.le_of_ble_eq_true rfl⟩ rfl rfl (Nat.le_of_ble_eq_true rfl) d_M_pick_28 ⟨Nat.le_of_ble_eq_true rfl, Nat.le_of_ble_eq_true rfl⟩) hS (fun r28_4 K28_4 H locs hq hC hS => ?_)
      exact hE r28_4 K28_4 _ _ _ _ _ ls hq hC hS (Nat.le_of_ble_eq_true rfl) (Nat.le_of_ble_eq_true rfl) d_M_pick_31
  · have hq := hq.2 c_14
    refine lv_aload_n hx hb d_M_pick_4 rfl (lv_at hl 0 rfl) ?_
    refine lv_iload_n hx hb d_M_pick_5 rfl (lv_at hl 2 rfl) ?_
    refine kci (BB := fun (_ : Unit) H => MW D A AM CM M H) (krV (b := (AM 0)) X hl.1 hS hC (c_M_isItem l D A AM CM M a2 _ hq) ki_M_isItem wd_489 wd_491 ws_M_isItem (mrecX X hC) ⟨rfl, rfl, Nat.le_of_ble_eq_true rfl, Nat.le_of_ble_eq_true rfl⟩ rfl rfl (Nat.le_of_ble_eq_true rfl) d_M_pick_6 ⟨Nat.le_of_ble_eq_true rfl, Nat.le_of_ble_eq_true rfl⟩) hS (fun r6_6 _u H locs hq hC hS => ?_)
    refine lv_if_ne (tgt := 19) hx hb d_M_pick_9 (by decide) (fun c_13 => ?_) (fun c_13 => ?_)
    · have hq := hq.2 c_13
      refine lv_iload_n hx hb d_M_pick_19 rfl (lv_at hl 2 rfl) ?_
      refine lv_if_ne (tgt := 32) hx hb d_M_pick_20 (by decide) (fun c_11 => ?_) (fun c_11 => ?_)
      · have hq := hq.2 c_11
        refine lv_aload_n hx hb d_M_pick_32 rfl (lv_at hl 0 rfl) ?_
        refine mg_whole X hC d_M_pick_33 ?_
        refine lv_iload_n hx hb d_M_pick_36 rfl (lv_at hl 2 rfl) ?_
        have hs_ := hq.1
        have hq := hq.2
        refine ml_whole X hC hs_ d_M_pick_37 ?_
        refine lv_l2i hx hb d_M_pick_38 rfl ?_
        refine lv_istore_n (lv' := [(3, .int (m_whole M (a2).toNatClampNeg).toInt32), (0, .ref (AM 0)), (1, .int a1), (2, .int a2)]) hx hb d_M_pick_39 rfl hl (by decide) rfl (fun ls hl => ?_)
        refine lv_aload_n hx hb d_M_pick_40 rfl (lv_at hl 1 rfl) ?_
        refine lv_iconst (v := (4 : Int32)) hx hb d_M_pick_41 (by decide) ?_
        refine lv_aload_n hx hb d_M_pick_42 rfl (lv_at hl 1 rfl) ?_
        refine mg_sort X hC d_M_pick_43 ?_
        refine lv_iload_n hx hb d_M_pick_46 rfl (lv_at hl 2 rfl) ?_
        have hs_ := hq.1
        have hq := hq.2
        refine ml_sort X hC hs_ d_M_pick_47 ?_
        refine lv_bipush (v := (11 : Int32)) hx hb d_M_pick_48 (by decide) ?_
        refine lv_icmp_ne (tgt := 65) hx hb d_M_pick_50 (by decide) (fun c_9 => ?_) (fun c_9 => ?_)
        · have hq := hq.2 c_9
          refine lv_aload_n hx hb d_M_pick_65 rfl (lv_at hl 1 rfl) ?_
          refine mg_whole X hC d_M_pick_66 ?_
          refine lv_iload_n hx hb d_M_pick_69 rfl (lv_at hl 2 rfl) ?_
          have hs_ := hq.1
          have hq := hq.2
          refine ml_whole X hC hs_ d_M_pick_70 ?_
          refine lv_l2i hx hb d_M_pick_71 rfl ?_
          refine lv_iload_n hx hb d_M_pick_72 rfl (lv_at hl 0 rfl) ?_
          refine lv_isub hx hb d_M_pick_73 ?_
          refine lv_i2l hx hb d_M_pick_74 rfl ?_
          refine kci (BB := fun u H => MW D A AM CM u H) (krV (b := (AM 0)) X hl.1 hS hC (c_M_answer l D A AM CM M (4 : Int32) ((m_whole M (a1).toNatClampNeg).toInt32 - (m_whole M (a2).toNatClampNeg).toInt32).toInt64 _ hq) ki_M_answer wd_509 wd_511 ws_M_answer (mrecX X hC) ⟨rfl, rfl, Nat.le_of_ble_eq_true rfl, Nat.le_of_ble_eq_true rfl⟩ rfl rfl (Nat.le_of_ble_eq_true rfl) d_M_pick_75 ⟨Nat.le_of_ble_eq_true rfl, Nat.le_of_ble_eq_true rfl⟩) hS (fun r75_7 K75_7 H locs hq hC hS => ?_)
          exact hE r75_7 K75_7 _ _ _ _ _ ls hq hC hS (Nat.le_of_ble_eq_true rfl) (Nat.le_of_ble_eq_true rfl) d_M_pick_78
        · have hq := hq.1 c_9
          refine lv_aload_n hx hb d_M_pick_53 rfl (lv_at hl 1 rfl) ?_
          refine mg_extra X hC d_M_pick_54 ?_
          refine lv_iload_n hx hb d_M_pick_57 rfl (lv_at hl 2 rfl) ?_
          have hs_ := hq.1
          have hq := hq.2
          refine ml_extra X hC hs_ d_M_pick_58 ?_
          refine lv_iload_n hx hb d_M_pick_59 rfl (lv_at hl 0 rfl) ?_
          refine lv_iadd hx hb d_M_pick_60 ?_
          refine lv_i2l hx hb d_M_pick_61 rfl ?_
          refine lv_goto (tgt := 75) hx hb d_M_pick_62 (by decide) ?_
          refine kci (BB := fun u H => MW D A AM CM u H) (krV (b := (AM 0)) X hl.1 hS hC (c_M_answer l D A AM CM M (4 : Int32) ((m_extra M (a1).toNatClampNeg) + (m_whole M (a2).toNatClampNeg).toInt32).toInt64 _ hq) ki_M_answer wd_509 wd_511 ws_M_answer (mrecX X hC) ⟨rfl, rfl, Nat.le_of_ble_eq_true rfl, Nat.le_of_ble_eq_true rfl⟩ rfl rfl (Nat.le_of_ble_eq_true rfl) d_M_pick_75 ⟨Nat.le_of_ble_eq_true rfl, Nat.le_of_ble_eq_true rfl⟩) hS (fun r75_8 K75_8 H locs hq hC hS => ?_)
          exact hE r75_8 K75_8 _ _ _ _ _ ls hq hC hS (Nat.le_of_ble_eq_true rfl) (Nat.le_of_ble_eq_true rfl) d_M_pick_78
      · have hq := hq.1 c_11
        refine lv_aload_n hx hb d_M_pick_23 rfl (lv_at hl 0 rfl) ?_
        refine lv_iconst (v := (4 : Int32)) hx hb d_M_pick_24 (by decide) ?_
        refine lv_ldc2 hx hb X.o (X.t _ wd_517) d_M_pick_25 ?_
        refine kci (BB := fun u H => MW D A AM CM u H) (krV (b := (AM 0)) X hl.1 hS hC (c_M_tell l D A AM CM M (4 : Int32) (2 : Int64) _ hq) ki_M_tell wd_430 wd_432 ws_M_tell (mrecX X hC) ⟨rfl, rfl, Nat.le_of_ble_eq_true rfl, Nat.le_of_ble_eq_true rfl⟩ rfl rfl (Nat.le_of_ble_eq_true rfl) d_M_pick_28 ⟨Nat.le_of_ble_eq_true rfl, Nat.le_of_ble_eq_true rfl⟩) hS (fun r28_10 K28_10 H locs hq hC hS => ?_)
        exact hE r28_10 K28_10 _ _ _ _ _ ls hq hC hS (Nat.le_of_ble_eq_true rfl) (Nat.le_of_ble_eq_true rfl) d_M_pick_31
    · have hq := hq.1 c_13
      refine lv_aload_n hx hb d_M_pick_12 rfl (lv_at hl 0 rfl) ?_
      refine lv_iconst (v := (2 : Int32)) hx hb d_M_pick_13 (by decide) ?_
      refine lv_lconst (v := (0 : Int64)) hx hb d_M_pick_14 (by decide) ?_
      refine kci (BB := fun u H => MW D A AM CM u H) (krV (b := (AM 0)) X hl.1 hS hC (c_M_tell l D A AM CM M (2 : Int32) (0 : Int64) _ hq) ki_M_tell wd_430 wd_432 ws_M_tell (mrecX X hC) ⟨rfl, rfl, Nat.le_of_ble_eq_true rfl, Nat.le_of_ble_eq_true rfl⟩ rfl rfl (Nat.le_of_ble_eq_true rfl) d_M_pick_15 ⟨Nat.le_of_ble_eq_true rfl, Nat.le_of_ble_eq_true rfl⟩) hS (fun r15_12 K15_12 H locs hq hC hS => ?_)
      exact hE r15_12 K15_12 _ _ _ _ _ ls hq hC hS (Nat.le_of_ble_eq_true rfl) (Nat.le_of_ble_eq_true rfl) d_M_pick_18
def w_M_self (M : MT) (a1 : Int32) (a2 : Int32) (post : Int32 → MT → Prop) : Prop := w_M_unboxes M a2 (3 : Int32) (fun r3_1 K3_1 => ((r3_1 = (0 : Int32)) → (w_M_tell K3_1 (2 : Int32) (0 : Int64) (fun r12_3 K12_3 => post r12_3 K12_3))) ∧ (¬ (r3_1 = (0 : Int32)) → ((vp_in a1 520) ∧ ((vp_in (8 : Int32) 9) ∧ (w_M_tell (ms_held (ms_small K3_1 (a1).toNatClampNeg (m_wholeNow K3_1).toInt32.toInt8.toInt32) ((8 : Int32)).toNatClampNeg a1) (0 : Int32) (0 : Int64) (fun r39_2 K39_2 => post r39_2 K39_2))))))
set_option maxHeartbeats 8000000 in
set_option maxRecDepth 100000 in
theorem c_M_self (l : Launch) (D : va_G) (A : Nat → Prop) (AM : Nat → Nat) (CM : Nat → ClassId) (M : MT) (a1 : Int32) (a2 : Int32) (post : Int32 → MT → Prop) (hq : w_M_self M a1 a2 post) : Met l y_M_self (kw y_M_self b_M_self 3 (Option.some Jvm.ClassFile.FieldType.int)) ({ frames := 3, cells := 0, slots := 0, locals := 65 }) (kP D (tysM CM) A [.ref (AM 0), .int a1, .int a2] (MW D A AM CM M)) (va_Qi post (fun u t => MW D A AM CM u t.heap) A) 0 0 A := by
  refine kmet_i (BB := (fun u H => MW D A AM CM u H)) (lv := [(0, .ref (AM 0)), (1, .int a1), (2, .int a2)]) (by decide +kernel) rfl (Nat.le_of_ble_eq_true rfl) ?_
  intro p e s m args below meth c Q ls X hin hC hl hE
  have hx := X.x
  have hb := X.b
  have hS : va_S A s.heap s.heap [] := va_S.rf
  unfold w_M_self at hq
  refine lv_aload_n hx hb d_M_self_0 rfl (lv_at hl 0 rfl) ?_
  refine lv_iload_n hx hb d_M_self_1 rfl (lv_at hl 2 rfl) ?_
  refine lv_iconst (v := (3 : Int32)) hx hb d_M_self_2 (by decide) ?_
  refine kci (BB := fun u H => MW D A AM CM u H) (krV (b := (AM 0)) X hl.1 hS hC (c_M_unboxes l D A AM CM M a2 (3 : Int32) _ hq) ki_M_unboxes wd_493 wd_495 ws_M_unboxes (mrecX X hC) ⟨rfl, rfl, Nat.le_of_ble_eq_true rfl, Nat.le_of_ble_eq_true rfl⟩ rfl rfl (Nat.le_of_ble_eq_true rfl) d_M_self_3 ⟨Nat.le_of_ble_eq_true rfl, Nat.le_of_ble_eq_true rfl⟩) hS (fun r3_1 K3_1 H locs hq hC hS => ?_)
  refine lv_if_ne (tgt := 16) hx hb d_M_self_6 (by decide) (fun c_4 => ?_) (fun c_4 => ?_)
  · have hq := hq.2 c_4
    refine lv_aload_n hx hb d_M_self_16 rfl (lv_at hl 0 rfl) ?_
    refine mg_small X hC d_M_self_17 ?_
    refine lv_iload_n hx hb d_M_self_20 rfl (lv_at hl 1 rfl) ?_
    refine lv_aload_n hx hb d_M_self_21 rfl (lv_at hl 0 rfl) ?_
    refine mg_wholeNow X hC d_M_self_22 ?_
    refine lv_l2i hx hb d_M_self_25 rfl ?_
    refine lv_i2b hx hb d_M_self_26 rfl ?_
    have hs_ := hq.1
    have hq := hq.2
    refine mt_small X hC hS hs_ d_M_self_27 (fun H locs hC hS => ?_)
    refine lv_aload_n hx hb d_M_self_28 rfl (lv_at hl 0 rfl) ?_
    refine mg_held X hC d_M_self_29 ?_
    refine lv_bipush (v := (8 : Int32)) hx hb d_M_self_32 (by decide) ?_
    refine lv_iload_n hx hb d_M_self_34 rfl (lv_at hl 1 rfl) ?_
    have hs_ := hq.1
    have hq := hq.2
    refine mt_held X hC hS hs_ d_M_self_35 (fun H locs hC hS => ?_)
    refine lv_aload_n hx hb d_M_self_36 rfl (lv_at hl 0 rfl) ?_
    refine lv_iconst (v := (0 : Int32)) hx hb d_M_self_37 (by decide) ?_
    refine lv_lconst (v := (0 : Int64)) hx hb d_M_self_38 (by decide) ?_
    refine kci (BB := fun u H => MW D A AM CM u H) (krV (b := (AM 0)) X hl.1 hS hC (c_M_tell l D A AM CM (ms_held (ms_small K3_1 (a1).toNatClampNeg (m_wholeNow K3_1).toInt32.toInt8.toInt32) ((8 : Int32)).toNatClampNeg a1) (0 : Int32) (0 : Int64) _ hq) ki_M_tell wd_430 wd_432 ws_M_tell (mrecX X hC) ⟨rfl, rfl, Nat.le_of_ble_eq_true rfl, Nat.le_of_ble_eq_true rfl⟩ rfl rfl (Nat.le_of_ble_eq_true rfl) d_M_self_39 ⟨Nat.le_of_ble_eq_true rfl, Nat.le_of_ble_eq_true rfl⟩) hS (fun r39_2 K39_2 H locs hq hC hS => ?_)
    exact hE r39_2 K39_2 _ _ _ _ _ ls hq hC hS (Nat.le_of_ble_eq_true rfl) (Nat.le_of_ble_eq_true rfl) d_M_self_42
  · have hq := hq.1 c_4
    refine lv_aload_n hx hb d_M_self_9 rfl (lv_at hl 0 rfl) ?_
    refine lv_iconst (v := (2 : Int32)) hx hb d_M_self_10 (by decide) ?_
    refine lv_lconst (v := (0 : Int64)) hx hb d_M_self_11 (by decide) ?_
    refine kci (BB := fun u H => MW D A AM CM u H) (krV (b := (AM 0)) X hl.1 hS hC (c_M_tell l D A AM CM K3_1 (2 : Int32) (0 : Int64) _ hq) ki_M_tell wd_430 wd_432 ws_M_tell (mrecX X hC) ⟨rfl, rfl, Nat.le_of_ble_eq_true rfl, Nat.le_of_ble_eq_true rfl⟩ rfl rfl (Nat.le_of_ble_eq_true rfl) d_M_self_12 ⟨Nat.le_of_ble_eq_true rfl, Nat.le_of_ble_eq_true rfl⟩) hS (fun r12_3 K12_3 H locs hq hC hS => ?_)
    exact hE r12_3 K12_3 _ _ _ _ _ ls hq hC hS (Nat.le_of_ble_eq_true rfl) (Nat.le_of_ble_eq_true rfl) d_M_self_15
def w_M_invoke_b39 (M_ : MT) (z1 : Int32) (z2 : Int32) (z3 : Int32) (z4 : Int32) (post : Int32 → MT → Prop) : Prop := post (-1 : Int32) M_
def w_M_invoke_b125 (M_ : MT) (z1 : Int32) (z2 : Int32) (z3 : Int32) (z4 : Int32) (z5 : Int32) (z6 : Int32) (z7 : Int32) (post : Int32 → MT → Prop) : Prop := ((z3 = (2 : Int32)) → (((z2 = (0 : Int32)) → (w_M_sum M_ z5 z6 z7 (fun r156_14 K156_14 => post r156_14 K156_14))) ∧ (¬ (z2 = (0 : Int32)) → (((z2 = (1 : Int32)) → (w_M_tag M_ z6 z7 (fun r170_12 K170_12 => post r170_12 K170_12))) ∧ (¬ (z2 = (1 : Int32)) → (((z2 = (2 : Int32)) → (w_M_twice M_ z6 (fun r182_10 K182_10 => post r182_10 K182_10))) ∧ (¬ (z2 = (2 : Int32)) → (((z2 = (3 : Int32)) → (w_M_div M_ z6 z7 (fun r196_8 K196_8 => post r196_8 K196_8))) ∧ (¬ (z2 = (3 : Int32)) → (((z2 = (4 : Int32)) → (w_M_pick M_ z5 z6 (fun r210_6 K210_6 => post r210_6 K210_6))) ∧ (¬ (z2 = (4 : Int32)) → (w_M_self M_ z5 z6 (fun r221_5 K221_5 => post r221_5 K221_5))))))))))))) ∧ (¬ (z3 = (2 : Int32)) → (w_M_tell M_ (2 : Int32) (0 : Int64) (fun r141_16 K141_16 => post r141_16 K141_16)))
def w_M_invoke_b111 (M_ : MT) (z1 : Int32) (z2 : Int32) (z3 : Int32) (z4 : Int32) (z5 : Int32) (z6 : Int32) (z7 : Int32) (post : Int32 → MT → Prop) : Prop := ((z2 = (0 : Int32)) → (w_M_invoke_b125 M_ z1 z2 z3 z4 z5 z6 z7 post)) ∧ (¬ (z2 = (0 : Int32)) → (((z2 = (1 : Int32)) → (w_M_invoke_b125 M_ z1 z2 z3 z4 z5 z6 z7 post)) ∧ (¬ (z2 = (1 : Int32)) → (((z2 = (3 : Int32)) → (w_M_invoke_b125 M_ z1 z2 z3 z4 z5 z6 z7 post)) ∧ (¬ (z2 = (3 : Int32)) → (((z3 = (1 : Int32)) → (((z2 = (0 : Int32)) → (w_M_sum M_ z5 z6 z7 (fun r156_27 K156_27 => post r156_27 K156_27))) ∧ (¬ (z2 = (0 : Int32)) → (((z2 = (1 : Int32)) → (w_M_tag M_ z6 z7 (fun r170_25 K170_25 => post r170_25 K170_25))) ∧ (¬ (z2 = (1 : Int32)) → (((z2 = (2 : Int32)) → (w_M_twice M_ z6 (fun r182_23 K182_23 => post r182_23 K182_23))) ∧ (¬ (z2 = (2 : Int32)) → (((z2 = (3 : Int32)) → (w_M_div M_ z6 z7 (fun r196_21 K196_21 => post r196_21 K196_21))) ∧ (¬ (z2 = (3 : Int32)) → (((z2 = (4 : Int32)) → (w_M_pick M_ z5 z6 (fun r210_19 K210_19 => post r210_19 K210_19))) ∧ (¬ (z2 = (4 : Int32)) → (w_M_self M_ z5 z6 (fun r221_18 K221_18 => post r221_18 K221_18))))))))))))) ∧ (¬ (z3 = (1 : Int32)) → (w_M_tell M_ (2 : Int32) (0 : Int64) (fun r141_29 K141_29 => post r141_29 K141_29)))))))))
def w_M_invoke_b90 (M_ : MT) (z1 : Int32) (z2 : Int32) (z3 : Int32) (z4 : Int32) (z5 : Int32) (z6 : Int32) (z7 : Int32) (post : Int32 → MT → Prop) : Prop := ((z2 = (2 : Int32)) → (w_M_invoke_b111 M_ z1 z2 z3 z4 z5 z6 z7 post)) ∧ (¬ (z2 = (2 : Int32)) → (w_M_isItem M_ z5 (fun r98_34 => ((r98_34 = (0 : Int32)) → (w_M_tell M_ (2 : Int32) (0 : Int64) (fun r107_35 K107_35 => post r107_35 K107_35))) ∧ (¬ (r98_34 = (0 : Int32)) → (w_M_invoke_b111 M_ z1 z2 z3 z4 z5 z6 z7 post)))))
def w_M_invoke (M : MT) (a1 : Int32) (a2 : Int32) (a3 : Int32) (a4 : Int32) (post : Int32 → MT → Prop) : Prop := w_M_in a1 (0 : Int32) (8 : Int32) (fun r4_1 => ((r4_1 = (0 : Int32)) → (w_M_invoke_b39 M a1 a2 a3 a4 post)) ∧ (¬ (r4_1 = (0 : Int32)) → (w_M_in a2 (0 : Int32) (5 : Int32) (fun r13_2 => ((r13_2 = (0 : Int32)) → (w_M_invoke_b39 M a1 a2 a3 a4 post)) ∧ (¬ (r13_2 = (0 : Int32)) → (w_M_in a3 (0 : Int32) (2 : Int32) (fun r22_3 => ((r22_3 = (0 : Int32)) → (w_M_invoke_b39 M a1 a2 a3 a4 post)) ∧ (¬ (r22_3 = (0 : Int32)) → (w_M_in a4 (0 : Int32) (80 : Int32) (fun r33_4 => ((r33_4 = (0 : Int32)) → (w_M_invoke_b39 M a1 a2 a3 a4 post)) ∧ (¬ (r33_4 = (0 : Int32)) → ((vp_in a1 9) ∧ ((¬ (9 : Int32) = (0 : Int32)) ∧ ((vp_in (a4 / (9 : Int32)) 9) ∧ ((¬ (9 : Int32) = (0 : Int32)) ∧ ((vp_in (a4 - a4 / (9 : Int32) * (9 : Int32)) 9) ∧ (((a2 = (2 : Int32)) → (w_M_invoke_b90 M a1 a2 a3 a4 (m_held M (a1).toNatClampNeg) (m_held M ((a4 / (9 : Int32))).toNatClampNeg) (m_held M ((a4 - a4 / (9 : Int32) * (9 : Int32))).toNatClampNeg) post)) ∧ (¬ (a2 = (2 : Int32)) → ((((m_held M (a1).toNatClampNeg) = (0 : Int32)) → (w_M_tell M (1 : Int32) (0 : Int64) (fun r86_38 K86_38 => post r86_38 K86_38))) ∧ (¬ ((m_held M (a1).toNatClampNeg) = (0 : Int32)) → (w_M_invoke_b90 M a1 a2 a3 a4 (m_held M (a1).toNatClampNeg) (m_held M ((a4 / (9 : Int32))).toNatClampNeg) (m_held M ((a4 - a4 / (9 : Int32) * (9 : Int32))).toNatClampNeg) post)))))))))))))))))))))
set_option maxHeartbeats 8000000 in
set_option maxRecDepth 100000 in
theorem c_M_invoke (l : Launch) (D : va_G) (A : Nat → Prop) (AM : Nat → Nat) (CM : Nat → ClassId) (M : MT) (a1 : Int32) (a2 : Int32) (a3 : Int32) (a4 : Int32) (post : Int32 → MT → Prop) (hq : w_M_invoke M a1 a2 a3 a4 post) : Met l y_M_invoke (kw y_M_invoke b_M_invoke 9 (Option.some Jvm.ClassFile.FieldType.int)) ({ frames := 4, cells := 0, slots := 0, locals := 91 }) (kP D (tysM CM) A [.ref (AM 0), .int a1, .int a2, .int a3, .int a4] (MW D A AM CM M)) (va_Qi post (fun u t => MW D A AM CM u t.heap) A) 0 0 A := by
  refine kmet_i (BB := (fun u H => MW D A AM CM u H)) (lv := [(0, .ref (AM 0)), (1, .int a1), (2, .int a2), (3, .int a3), (4, .int a4)]) (by decide +kernel) rfl (Nat.le_of_ble_eq_true rfl) ?_
  intro p e s m args below meth c Q ls X hin hC hl hE
  have hx := X.x
  have hb := X.b
  have hS : va_S A s.heap s.heap [] := va_S.rf
  have J39 : ∀ (M_ : MT) (z1 : Int32) (z2 : Int32) (z3 : Int32) (z4 : Int32) (H : Heap) (locs : List Loc) (ls : Array Slot), w_M_invoke_b39 M_ z1 z2 z3 z4 post → MW D A AM CM M_ H → va_S A s.heap H locs → lv_has ls 9 [(0, .ref (AM 0)), (1, .int z1), (2, .int z2), (3, .int z3), (4, .int z4)] → W p l e ({ frames := 4, cells := 0, slots := 0, locals := 91 }) s m args below meth c H locs 0 0 Q (F0 m 39 ls []) := by
    intro M_ z1 z2 z3 z4 H locs ls hq hC hS hl
    unfold w_M_invoke_b39 at hq
    refine lv_iconst (v := (-1 : Int32)) hx hb d_M_invoke_39 (by decide) ?_
    exact hE (-1 : Int32) M_ _ _ _ _ _ ls hq hC hS (Nat.le_of_ble_eq_true rfl) (Nat.le_of_ble_eq_true rfl) d_M_invoke_40
  have J125 : ∀ (M_ : MT) (z1 : Int32) (z2 : Int32) (z3 : Int32) (z4 : Int32) (z5 : Int32) (z6 : Int32) (z7 : Int32) (H : Heap) (locs : List Loc) (ls : Array Slot), w_M_invoke_b125 M_ z1 z2 z3 z4 z5 z6 z7 post → MW D A AM CM M_ H → va_S A s.heap H locs → lv_has ls 9 [(0, .ref (AM 0)), (1, .int z1), (2, .int z2), (3, .int z3), (4, .int z4), (5, .int z5), (6, .int z6), (7, .int z7)] → W p l e ({ frames := 4, cells := 0, slots := 0, locals := 91 }) s m args below meth c H locs 0 0 Q (F0 m 125 ls []) := by
    intro M_ z1 z2 z3 z4 z5 z6 z7 H locs ls hq hC hS hl
    unfold w_M_invoke_b125 at hq
    refine lv_iconst (v := (2 : Int32)) hx hb d_M_invoke_125 (by decide) ?_
    refine lv_goto (tgt := 130) hx hb d_M_invoke_126 (by decide) ?_
    refine lv_istore (lv' := [(8, .int (2 : Int32)), (0, .ref (AM 0)), (1, .int z1), (2, .int z2), (3, .int z3), (4, .int z4), (5, .int z5), (6, .int z6), (7, .int z7)]) hx hb d_M_invoke_130 hl (by decide) rfl (fun ls hl => ?_)
    refine lv_iload_n hx hb d_M_invoke_132 rfl (lv_at hl 4 rfl) ?_
    refine lv_iload hx hb d_M_invoke_133 (lv_at hl 0 rfl) ?_
    refine lv_icmp_eq (tgt := 145) hx hb d_M_invoke_135 (by decide) (fun c_17 => ?_) (fun c_17 => ?_)
    · have hq := hq.1 c_17
      refine lv_iload_n hx hb d_M_invoke_145 rfl (lv_at hl 3 rfl) ?_
      refine lv_if_ne (tgt := 160) hx hb d_M_invoke_146 (by decide) (fun c_15 => ?_) (fun c_15 => ?_)
      · have hq := hq.2 c_15
        refine lv_iload_n hx hb d_M_invoke_160 rfl (lv_at hl 3 rfl) ?_
        refine lv_iconst (v := (1 : Int32)) hx hb d_M_invoke_161 (by decide) ?_
        refine lv_icmp_ne (tgt := 174) hx hb d_M_invoke_162 (by decide) (fun c_13 => ?_) (fun c_13 => ?_)
        · have hq := hq.2 c_13
          refine lv_iload_n hx hb d_M_invoke_174 rfl (lv_at hl 3 rfl) ?_
          refine lv_iconst (v := (2 : Int32)) hx hb d_M_invoke_175 (by decide) ?_
          refine lv_icmp_ne (tgt := 186) hx hb d_M_invoke_176 (by decide) (fun c_11 => ?_) (fun c_11 => ?_)
          · have hq := hq.2 c_11
            refine lv_iload_n hx hb d_M_invoke_186 rfl (lv_at hl 3 rfl) ?_
            refine lv_iconst (v := (3 : Int32)) hx hb d_M_invoke_187 (by decide) ?_
            refine lv_icmp_ne (tgt := 200) hx hb d_M_invoke_188 (by decide) (fun c_9 => ?_) (fun c_9 => ?_)
            · have hq := hq.2 c_9
              refine lv_iload_n hx hb d_M_invoke_200 rfl (lv_at hl 3 rfl) ?_
              refine lv_iconst (v := (4 : Int32)) hx hb d_M_invoke_201 (by decide) ?_
              refine lv_icmp_ne (tgt := 216) hx hb d_M_invoke_202 (by decide) (fun c_7 => ?_) (fun c_7 => ?_)
              · have hq := hq.2 c_7
                refine lv_aload_n hx hb d_M_invoke_216 rfl (lv_at hl 1 rfl) ?_
                refine lv_iload hx hb d_M_invoke_217 (lv_at hl 6 rfl) ?_
                refine lv_iload hx hb d_M_invoke_219 (lv_at hl 7 rfl) ?_
                refine kci (BB := fun u H => MW D A AM CM u H) (krV (b := (AM 0)) X hl.1 hS hC (c_M_self l D A AM CM M_ z5 z6 _ hq) ki_M_self wd_530 wd_532 ws_M_self (mrecX X hC) ⟨rfl, rfl, Nat.le_of_ble_eq_true rfl, Nat.le_of_ble_eq_true rfl⟩ rfl rfl (Nat.le_of_ble_eq_true rfl) d_M_invoke_221 ⟨Nat.le_of_ble_eq_true rfl, Nat.le_of_ble_eq_true rfl⟩) hS (fun r221_5 K221_5 H locs hq hC hS => ?_)
                exact hE r221_5 K221_5 _ _ _ _ _ ls hq hC hS (Nat.le_of_ble_eq_true rfl) (Nat.le_of_ble_eq_true rfl) d_M_invoke_224
              · have hq := hq.1 c_7
                refine lv_aload_n hx hb d_M_invoke_205 rfl (lv_at hl 1 rfl) ?_
                refine lv_iload hx hb d_M_invoke_206 (lv_at hl 6 rfl) ?_
                refine lv_iload hx hb d_M_invoke_208 (lv_at hl 7 rfl) ?_
                refine kci (BB := fun u H => MW D A AM CM u H) (krV (b := (AM 0)) X hl.1 hS hC (c_M_pick l D A AM CM M_ z5 z6 _ hq) ki_M_pick wd_526 wd_528 ws_M_pick (mrecX X hC) ⟨rfl, rfl, Nat.le_of_ble_eq_true rfl, Nat.le_of_ble_eq_true rfl⟩ rfl rfl (Nat.le_of_ble_eq_true rfl) d_M_invoke_210 ⟨Nat.le_of_ble_eq_true rfl, Nat.le_of_ble_eq_true rfl⟩) hS (fun r210_6 K210_6 H locs hq hC hS => ?_)
                refine lv_goto (tgt := 224) hx hb d_M_invoke_213 (by decide) ?_
                exact hE r210_6 K210_6 _ _ _ _ _ ls hq hC hS (Nat.le_of_ble_eq_true rfl) (Nat.le_of_ble_eq_true rfl) d_M_invoke_224
            · have hq := hq.1 c_9
              refine lv_aload_n hx hb d_M_invoke_191 rfl (lv_at hl 1 rfl) ?_
              refine lv_iload hx hb d_M_invoke_192 (lv_at hl 7 rfl) ?_
              refine lv_iload hx hb d_M_invoke_194 (lv_at hl 8 rfl) ?_
              refine kci (BB := fun u H => MW D A AM CM u H) (krV (b := (AM 0)) X hl.1 hS hC (c_M_div l D A AM CM M_ z6 z7 _ hq) ki_M_div wd_522 wd_524 ws_M_div (mrecX X hC) ⟨rfl, rfl, Nat.le_of_ble_eq_true rfl, Nat.le_of_ble_eq_true rfl⟩ rfl rfl (Nat.le_of_ble_eq_true rfl) d_M_invoke_196 ⟨Nat.le_of_ble_eq_true rfl, Nat.le_of_ble_eq_true rfl⟩) hS (fun r196_8 K196_8 H locs hq hC hS => ?_)
              exact hE r196_8 K196_8 _ _ _ _ _ ls hq hC hS (Nat.le_of_ble_eq_true rfl) (Nat.le_of_ble_eq_true rfl) d_M_invoke_199
          · have hq := hq.1 c_11
            refine lv_aload_n hx hb d_M_invoke_179 rfl (lv_at hl 1 rfl) ?_
            refine lv_iload hx hb d_M_invoke_180 (lv_at hl 7 rfl) ?_
            refine kci (BB := fun u H => MW D A AM CM u H) (krV (b := (AM 0)) X hl.1 hS hC (c_M_twice l D A AM CM M_ z6 _ hq) ki_M_twice wd_518 wd_520 ws_M_twice (mrecX X hC) ⟨rfl, rfl, Nat.le_of_ble_eq_true rfl, Nat.le_of_ble_eq_true rfl⟩ rfl rfl (Nat.le_of_ble_eq_true rfl) d_M_invoke_182 ⟨Nat.le_of_ble_eq_true rfl, Nat.le_of_ble_eq_true rfl⟩) hS (fun r182_10 K182_10 H locs hq hC hS => ?_)
            exact hE r182_10 K182_10 _ _ _ _ _ ls hq hC hS (Nat.le_of_ble_eq_true rfl) (Nat.le_of_ble_eq_true rfl) d_M_invoke_185
        · have hq := hq.1 c_13
          refine lv_aload_n hx hb d_M_invoke_165 rfl (lv_at hl 1 rfl) ?_
          refine lv_iload hx hb d_M_invoke_166 (lv_at hl 7 rfl) ?_
          refine lv_iload hx hb d_M_invoke_168 (lv_at hl 8 rfl) ?_
          refine kci (BB := fun u H => MW D A AM CM u H) (krV (b := (AM 0)) X hl.1 hS hC (c_M_tag l D A AM CM M_ z6 z7 _ hq) ki_M_tag wd_513 wd_515 ws_M_tag (mrecX X hC) ⟨rfl, rfl, Nat.le_of_ble_eq_true rfl, Nat.le_of_ble_eq_true rfl⟩ rfl rfl (Nat.le_of_ble_eq_true rfl) d_M_invoke_170 ⟨Nat.le_of_ble_eq_true rfl, Nat.le_of_ble_eq_true rfl⟩) hS (fun r170_12 K170_12 H locs hq hC hS => ?_)
          exact hE r170_12 K170_12 _ _ _ _ _ ls hq hC hS (Nat.le_of_ble_eq_true rfl) (Nat.le_of_ble_eq_true rfl) d_M_invoke_173
      · have hq := hq.1 c_15
        refine lv_aload_n hx hb d_M_invoke_149 rfl (lv_at hl 1 rfl) ?_
        refine lv_iload hx hb d_M_invoke_150 (lv_at hl 6 rfl) ?_
        refine lv_iload hx hb d_M_invoke_152 (lv_at hl 7 rfl) ?_
        refine lv_iload hx hb d_M_invoke_154 (lv_at hl 8 rfl) ?_
        refine kci (BB := fun u H => MW D A AM CM u H) (krV (b := (AM 0)) X hl.1 hS hC (c_M_sum l D A AM CM M_ z5 z6 z7 _ hq) ki_M_sum wd_505 wd_507 ws_M_sum (mrecX X hC) ⟨rfl, rfl, Nat.le_of_ble_eq_true rfl, Nat.le_of_ble_eq_true rfl⟩ rfl rfl (Nat.le_of_ble_eq_true rfl) d_M_invoke_156 ⟨Nat.le_of_ble_eq_true rfl, Nat.le_of_ble_eq_true rfl⟩) hS (fun r156_14 K156_14 H locs hq hC hS => ?_)
        exact hE r156_14 K156_14 _ _ _ _ _ ls hq hC hS (Nat.le_of_ble_eq_true rfl) (Nat.le_of_ble_eq_true rfl) d_M_invoke_159
    · have hq := hq.2 c_17
      refine lv_aload_n hx hb d_M_invoke_138 rfl (lv_at hl 1 rfl) ?_
      refine lv_iconst (v := (2 : Int32)) hx hb d_M_invoke_139 (by decide) ?_
      refine lv_lconst (v := (0 : Int64)) hx hb d_M_invoke_140 (by decide) ?_
      refine kci (BB := fun u H => MW D A AM CM u H) (krV (b := (AM 0)) X hl.1 hS hC (c_M_tell l D A AM CM M_ (2 : Int32) (0 : Int64) _ hq) ki_M_tell wd_430 wd_432 ws_M_tell (mrecX X hC) ⟨rfl, rfl, Nat.le_of_ble_eq_true rfl, Nat.le_of_ble_eq_true rfl⟩ rfl rfl (Nat.le_of_ble_eq_true rfl) d_M_invoke_141 ⟨Nat.le_of_ble_eq_true rfl, Nat.le_of_ble_eq_true rfl⟩) hS (fun r141_16 K141_16 H locs hq hC hS => ?_)
      exact hE r141_16 K141_16 _ _ _ _ _ ls hq hC hS (Nat.le_of_ble_eq_true rfl) (Nat.le_of_ble_eq_true rfl) d_M_invoke_144
  have J111 : ∀ (M_ : MT) (z1 : Int32) (z2 : Int32) (z3 : Int32) (z4 : Int32) (z5 : Int32) (z6 : Int32) (z7 : Int32) (H : Heap) (locs : List Loc) (ls : Array Slot), w_M_invoke_b111 M_ z1 z2 z3 z4 z5 z6 z7 post → MW D A AM CM M_ H → va_S A s.heap H locs → lv_has ls 9 [(0, .ref (AM 0)), (1, .int z1), (2, .int z2), (3, .int z3), (4, .int z4), (5, .int z5), (6, .int z6), (7, .int z7)] → W p l e ({ frames := 4, cells := 0, slots := 0, locals := 91 }) s m args below meth c H locs 0 0 Q (F0 m 111 ls []) := by
    intro M_ z1 z2 z3 z4 z5 z6 z7 H locs ls hq hC hS hl
    unfold w_M_invoke_b111 at hq
    refine lv_iload_n hx hb d_M_invoke_111 rfl (lv_at hl 2 rfl) ?_
    refine lv_if_eq (tgt := 125) hx hb d_M_invoke_112 (by decide) (fun c_33 => ?_) (fun c_33 => ?_)
    · have hq := hq.1 c_33
      exact J125 M_ z1 z2 z3 z4 z5 z6 z7 _ _ ls hq hC hS (lv_sub hl [0, 1, 2, 3, 4, 5, 6, 7] rfl)
    · have hq := hq.2 c_33
      refine lv_iload_n hx hb d_M_invoke_115 rfl (lv_at hl 2 rfl) ?_
      refine lv_iconst (v := (1 : Int32)) hx hb d_M_invoke_116 (by decide) ?_
      refine lv_icmp_eq (tgt := 125) hx hb d_M_invoke_117 (by decide) (fun c_32 => ?_) (fun c_32 => ?_)
      · have hq := hq.1 c_32
        exact J125 M_ z1 z2 z3 z4 z5 z6 z7 _ _ ls hq hC hS (lv_sub hl [0, 1, 2, 3, 4, 5, 6, 7] rfl)
      · have hq := hq.2 c_32
        refine lv_iload_n hx hb d_M_invoke_120 rfl (lv_at hl 2 rfl) ?_
        refine lv_iconst (v := (3 : Int32)) hx hb d_M_invoke_121 (by decide) ?_
        refine lv_icmp_ne (tgt := 129) hx hb d_M_invoke_122 (by decide) (fun c_31 => ?_) (fun c_31 => ?_)
        · have hq := hq.2 c_31
          refine lv_iconst (v := (1 : Int32)) hx hb d_M_invoke_129 (by decide) ?_
          refine lv_istore (lv' := [(8, .int (1 : Int32)), (0, .ref (AM 0)), (1, .int z1), (2, .int z2), (3, .int z3), (4, .int z4), (5, .int z5), (6, .int z6), (7, .int z7)]) hx hb d_M_invoke_130 hl (by decide) rfl (fun ls hl => ?_)
          refine lv_iload_n hx hb d_M_invoke_132 rfl (lv_at hl 4 rfl) ?_
          refine lv_iload hx hb d_M_invoke_133 (lv_at hl 0 rfl) ?_
          refine lv_icmp_eq (tgt := 145) hx hb d_M_invoke_135 (by decide) (fun c_30 => ?_) (fun c_30 => ?_)
          · have hq := hq.1 c_30
            refine lv_iload_n hx hb d_M_invoke_145 rfl (lv_at hl 3 rfl) ?_
            refine lv_if_ne (tgt := 160) hx hb d_M_invoke_146 (by decide) (fun c_28 => ?_) (fun c_28 => ?_)
            · have hq := hq.2 c_28
              refine lv_iload_n hx hb d_M_invoke_160 rfl (lv_at hl 3 rfl) ?_
              refine lv_iconst (v := (1 : Int32)) hx hb d_M_invoke_161 (by decide) ?_
              refine lv_icmp_ne (tgt := 174) hx hb d_M_invoke_162 (by decide) (fun c_26 => ?_) (fun c_26 => ?_)
              · have hq := hq.2 c_26
                refine lv_iload_n hx hb d_M_invoke_174 rfl (lv_at hl 3 rfl) ?_
                refine lv_iconst (v := (2 : Int32)) hx hb d_M_invoke_175 (by decide) ?_
                refine lv_icmp_ne (tgt := 186) hx hb d_M_invoke_176 (by decide) (fun c_24 => ?_) (fun c_24 => ?_)
                · have hq := hq.2 c_24
                  refine lv_iload_n hx hb d_M_invoke_186 rfl (lv_at hl 3 rfl) ?_
                  refine lv_iconst (v := (3 : Int32)) hx hb d_M_invoke_187 (by decide) ?_
                  refine lv_icmp_ne (tgt := 200) hx hb d_M_invoke_188 (by decide) (fun c_22 => ?_) (fun c_22 => ?_)
                  · have hq := hq.2 c_22
                    refine lv_iload_n hx hb d_M_invoke_200 rfl (lv_at hl 3 rfl) ?_
                    refine lv_iconst (v := (4 : Int32)) hx hb d_M_invoke_201 (by decide) ?_
                    refine lv_icmp_ne (tgt := 216) hx hb d_M_invoke_202 (by decide) (fun c_20 => ?_) (fun c_20 => ?_)
                    · have hq := hq.2 c_20
                      refine lv_aload_n hx hb d_M_invoke_216 rfl (lv_at hl 1 rfl) ?_
                      refine lv_iload hx hb d_M_invoke_217 (lv_at hl 6 rfl) ?_
                      refine lv_iload hx hb d_M_invoke_219 (lv_at hl 7 rfl) ?_
                      refine kci (BB := fun u H => MW D A AM CM u H) (krV (b := (AM 0)) X hl.1 hS hC (c_M_self l D A AM CM M_ z5 z6 _ hq) ki_M_self wd_530 wd_532 ws_M_self (mrecX X hC) ⟨rfl, rfl, Nat.le_of_ble_eq_true rfl, Nat.le_of_ble_eq_true rfl⟩ rfl rfl (Nat.le_of_ble_eq_true rfl) d_M_invoke_221 ⟨Nat.le_of_ble_eq_true rfl, Nat.le_of_ble_eq_true rfl⟩) hS (fun r221_18 K221_18 H locs hq hC hS => ?_)
                      exact hE r221_18 K221_18 _ _ _ _ _ ls hq hC hS (Nat.le_of_ble_eq_true rfl) (Nat.le_of_ble_eq_true rfl) d_M_invoke_224
                    · have hq := hq.1 c_20
                      refine lv_aload_n hx hb d_M_invoke_205 rfl (lv_at hl 1 rfl) ?_
                      refine lv_iload hx hb d_M_invoke_206 (lv_at hl 6 rfl) ?_
                      refine lv_iload hx hb d_M_invoke_208 (lv_at hl 7 rfl) ?_
                      refine kci (BB := fun u H => MW D A AM CM u H) (krV (b := (AM 0)) X hl.1 hS hC (c_M_pick l D A AM CM M_ z5 z6 _ hq) ki_M_pick wd_526 wd_528 ws_M_pick (mrecX X hC) ⟨rfl, rfl, Nat.le_of_ble_eq_true rfl, Nat.le_of_ble_eq_true rfl⟩ rfl rfl (Nat.le_of_ble_eq_true rfl) d_M_invoke_210 ⟨Nat.le_of_ble_eq_true rfl, Nat.le_of_ble_eq_true rfl⟩) hS (fun r210_19 K210_19 H locs hq hC hS => ?_)
                      refine lv_goto (tgt := 224) hx hb d_M_invoke_213 (by decide) ?_
                      exact hE r210_19 K210_19 _ _ _ _ _ ls hq hC hS (Nat.le_of_ble_eq_true rfl) (Nat.le_of_ble_eq_true rfl) d_M_invoke_224
                  · have hq := hq.1 c_22
                    refine lv_aload_n hx hb d_M_invoke_191 rfl (lv_at hl 1 rfl) ?_
                    refine lv_iload hx hb d_M_invoke_192 (lv_at hl 7 rfl) ?_
                    refine lv_iload hx hb d_M_invoke_194 (lv_at hl 8 rfl) ?_
                    refine kci (BB := fun u H => MW D A AM CM u H) (krV (b := (AM 0)) X hl.1 hS hC (c_M_div l D A AM CM M_ z6 z7 _ hq) ki_M_div wd_522 wd_524 ws_M_div (mrecX X hC) ⟨rfl, rfl, Nat.le_of_ble_eq_true rfl, Nat.le_of_ble_eq_true rfl⟩ rfl rfl (Nat.le_of_ble_eq_true rfl) d_M_invoke_196 ⟨Nat.le_of_ble_eq_true rfl, Nat.le_of_ble_eq_true rfl⟩) hS (fun r196_21 K196_21 H locs hq hC hS => ?_)
                    exact hE r196_21 K196_21 _ _ _ _ _ ls hq hC hS (Nat.le_of_ble_eq_true rfl) (Nat.le_of_ble_eq_true rfl) d_M_invoke_199
                · have hq := hq.1 c_24
                  refine lv_aload_n hx hb d_M_invoke_179 rfl (lv_at hl 1 rfl) ?_
                  refine lv_iload hx hb d_M_invoke_180 (lv_at hl 7 rfl) ?_
                  refine kci (BB := fun u H => MW D A AM CM u H) (krV (b := (AM 0)) X hl.1 hS hC (c_M_twice l D A AM CM M_ z6 _ hq) ki_M_twice wd_518 wd_520 ws_M_twice (mrecX X hC) ⟨rfl, rfl, Nat.le_of_ble_eq_true rfl, Nat.le_of_ble_eq_true rfl⟩ rfl rfl (Nat.le_of_ble_eq_true rfl) d_M_invoke_182 ⟨Nat.le_of_ble_eq_true rfl, Nat.le_of_ble_eq_true rfl⟩) hS (fun r182_23 K182_23 H locs hq hC hS => ?_)
                  exact hE r182_23 K182_23 _ _ _ _ _ ls hq hC hS (Nat.le_of_ble_eq_true rfl) (Nat.le_of_ble_eq_true rfl) d_M_invoke_185
              · have hq := hq.1 c_26
                refine lv_aload_n hx hb d_M_invoke_165 rfl (lv_at hl 1 rfl) ?_
                refine lv_iload hx hb d_M_invoke_166 (lv_at hl 7 rfl) ?_
                refine lv_iload hx hb d_M_invoke_168 (lv_at hl 8 rfl) ?_
                refine kci (BB := fun u H => MW D A AM CM u H) (krV (b := (AM 0)) X hl.1 hS hC (c_M_tag l D A AM CM M_ z6 z7 _ hq) ki_M_tag wd_513 wd_515 ws_M_tag (mrecX X hC) ⟨rfl, rfl, Nat.le_of_ble_eq_true rfl, Nat.le_of_ble_eq_true rfl⟩ rfl rfl (Nat.le_of_ble_eq_true rfl) d_M_invoke_170 ⟨Nat.le_of_ble_eq_true rfl, Nat.le_of_ble_eq_true rfl⟩) hS (fun r170_25 K170_25 H locs hq hC hS => ?_)
                exact hE r170_25 K170_25 _ _ _ _ _ ls hq hC hS (Nat.le_of_ble_eq_true rfl) (Nat.le_of_ble_eq_true rfl) d_M_invoke_173
            · have hq := hq.1 c_28
              refine lv_aload_n hx hb d_M_invoke_149 rfl (lv_at hl 1 rfl) ?_
              refine lv_iload hx hb d_M_invoke_150 (lv_at hl 6 rfl) ?_
              refine lv_iload hx hb d_M_invoke_152 (lv_at hl 7 rfl) ?_
              refine lv_iload hx hb d_M_invoke_154 (lv_at hl 8 rfl) ?_
              refine kci (BB := fun u H => MW D A AM CM u H) (krV (b := (AM 0)) X hl.1 hS hC (c_M_sum l D A AM CM M_ z5 z6 z7 _ hq) ki_M_sum wd_505 wd_507 ws_M_sum (mrecX X hC) ⟨rfl, rfl, Nat.le_of_ble_eq_true rfl, Nat.le_of_ble_eq_true rfl⟩ rfl rfl (Nat.le_of_ble_eq_true rfl) d_M_invoke_156 ⟨Nat.le_of_ble_eq_true rfl, Nat.le_of_ble_eq_true rfl⟩) hS (fun r156_27 K156_27 H locs hq hC hS => ?_)
              exact hE r156_27 K156_27 _ _ _ _ _ ls hq hC hS (Nat.le_of_ble_eq_true rfl) (Nat.le_of_ble_eq_true rfl) d_M_invoke_159
          · have hq := hq.2 c_30
            refine lv_aload_n hx hb d_M_invoke_138 rfl (lv_at hl 1 rfl) ?_
            refine lv_iconst (v := (2 : Int32)) hx hb d_M_invoke_139 (by decide) ?_
            refine lv_lconst (v := (0 : Int64)) hx hb d_M_invoke_140 (by decide) ?_
            refine kci (BB := fun u H => MW D A AM CM u H) (krV (b := (AM 0)) X hl.1 hS hC (c_M_tell l D A AM CM M_ (2 : Int32) (0 : Int64) _ hq) ki_M_tell wd_430 wd_432 ws_M_tell (mrecX X hC) ⟨rfl, rfl, Nat.le_of_ble_eq_true rfl, Nat.le_of_ble_eq_true rfl⟩ rfl rfl (Nat.le_of_ble_eq_true rfl) d_M_invoke_141 ⟨Nat.le_of_ble_eq_true rfl, Nat.le_of_ble_eq_true rfl⟩) hS (fun r141_29 K141_29 H locs hq hC hS => ?_)
            exact hE r141_29 K141_29 _ _ _ _ _ ls hq hC hS (Nat.le_of_ble_eq_true rfl) (Nat.le_of_ble_eq_true rfl) d_M_invoke_144
        · have hq := hq.1 c_31
          exact J125 M_ z1 z2 z3 z4 z5 z6 z7 _ _ ls hq hC hS (lv_sub hl [0, 1, 2, 3, 4, 5, 6, 7] rfl)
  have J90 : ∀ (M_ : MT) (z1 : Int32) (z2 : Int32) (z3 : Int32) (z4 : Int32) (z5 : Int32) (z6 : Int32) (z7 : Int32) (H : Heap) (locs : List Loc) (ls : Array Slot), w_M_invoke_b90 M_ z1 z2 z3 z4 z5 z6 z7 post → MW D A AM CM M_ H → va_S A s.heap H locs → lv_has ls 9 [(0, .ref (AM 0)), (1, .int z1), (2, .int z2), (3, .int z3), (4, .int z4), (5, .int z5), (6, .int z6), (7, .int z7)] → W p l e ({ frames := 4, cells := 0, slots := 0, locals := 91 }) s m args below meth c H locs 0 0 Q (F0 m 90 ls []) := by
    intro M_ z1 z2 z3 z4 z5 z6 z7 H locs ls hq hC hS hl
    unfold w_M_invoke_b90 at hq
    refine lv_iload_n hx hb d_M_invoke_90 rfl (lv_at hl 2 rfl) ?_
    refine lv_iconst (v := (2 : Int32)) hx hb d_M_invoke_91 (by decide) ?_
    refine lv_icmp_eq (tgt := 111) hx hb d_M_invoke_92 (by decide) (fun c_37 => ?_) (fun c_37 => ?_)
    · have hq := hq.1 c_37
      exact J111 M_ z1 z2 z3 z4 z5 z6 z7 _ _ ls hq hC hS (lv_sub hl [0, 1, 2, 3, 4, 5, 6, 7] rfl)
    · have hq := hq.2 c_37
      refine lv_aload_n hx hb d_M_invoke_95 rfl (lv_at hl 0 rfl) ?_
      refine lv_iload hx hb d_M_invoke_96 (lv_at hl 5 rfl) ?_
      refine kci (BB := fun (_ : Unit) H => MW D A AM CM M_ H) (krV (b := (AM 0)) X hl.1 hS hC (c_M_isItem l D A AM CM M_ z5 _ hq) ki_M_isItem wd_489 wd_491 ws_M_isItem (mrecX X hC) ⟨rfl, rfl, Nat.le_of_ble_eq_true rfl, Nat.le_of_ble_eq_true rfl⟩ rfl rfl (Nat.le_of_ble_eq_true rfl) d_M_invoke_98 ⟨Nat.le_of_ble_eq_true rfl, Nat.le_of_ble_eq_true rfl⟩) hS (fun r98_34 _u H locs hq hC hS => ?_)
      refine lv_if_ne (tgt := 111) hx hb d_M_invoke_101 (by decide) (fun c_36 => ?_) (fun c_36 => ?_)
      · have hq := hq.2 c_36
        exact J111 M_ z1 z2 z3 z4 z5 z6 z7 _ _ ls hq hC hS (lv_sub hl [0, 1, 2, 3, 4, 5, 6, 7] rfl)
      · have hq := hq.1 c_36
        refine lv_aload_n hx hb d_M_invoke_104 rfl (lv_at hl 0 rfl) ?_
        refine lv_iconst (v := (2 : Int32)) hx hb d_M_invoke_105 (by decide) ?_
        refine lv_lconst (v := (0 : Int64)) hx hb d_M_invoke_106 (by decide) ?_
        refine kci (BB := fun u H => MW D A AM CM u H) (krV (b := (AM 0)) X hl.1 hS hC (c_M_tell l D A AM CM M_ (2 : Int32) (0 : Int64) _ hq) ki_M_tell wd_430 wd_432 ws_M_tell (mrecX X hC) ⟨rfl, rfl, Nat.le_of_ble_eq_true rfl, Nat.le_of_ble_eq_true rfl⟩ rfl rfl (Nat.le_of_ble_eq_true rfl) d_M_invoke_107 ⟨Nat.le_of_ble_eq_true rfl, Nat.le_of_ble_eq_true rfl⟩) hS (fun r107_35 K107_35 H locs hq hC hS => ?_)
        exact hE r107_35 K107_35 _ _ _ _ _ ls hq hC hS (Nat.le_of_ble_eq_true rfl) (Nat.le_of_ble_eq_true rfl) d_M_invoke_110
  unfold w_M_invoke at hq
  refine lv_iload_n hx hb d_M_invoke_0 rfl (lv_at hl 1 rfl) ?_
  refine lv_iconst (v := (0 : Int32)) hx hb d_M_invoke_1 (by decide) ?_
  refine lv_bipush (v := (8 : Int32)) hx hb d_M_invoke_2 (by decide) ?_
  refine kci (BB := fun (_ : Unit) H => MW D A AM CM M H) (krS X hl.1 hS hC (c_M_in l D (tysM CM) A _ a1 (0 : Int32) (8 : Int32) _ hq) ki_M_in wd_422 wd_423 ⟨rfl, rfl, Nat.le_of_ble_eq_true rfl, Nat.le_of_ble_eq_true rfl⟩ rfl rfl (Nat.le_of_ble_eq_true rfl) d_M_invoke_4 ⟨Nat.le_of_ble_eq_true rfl, Nat.le_of_ble_eq_true rfl⟩) hS (fun r4_1 _u H locs hq hC hS => ?_)
  refine lv_if_eq (tgt := 39) hx hb d_M_invoke_7 (by decide) (fun c_44 => ?_) (fun c_44 => ?_)
  · have hq := hq.1 c_44
    exact J39 M a1 a2 a3 a4 _ _ ls hq hC hS (lv_sub hl [0, 1, 2, 3, 4] rfl)
  · have hq := hq.2 c_44
    refine lv_iload_n hx hb d_M_invoke_10 rfl (lv_at hl 2 rfl) ?_
    refine lv_iconst (v := (0 : Int32)) hx hb d_M_invoke_11 (by decide) ?_
    refine lv_iconst (v := (5 : Int32)) hx hb d_M_invoke_12 (by decide) ?_
    refine kci (BB := fun (_ : Unit) H => MW D A AM CM M H) (krS X hl.1 hS hC (c_M_in l D (tysM CM) A _ a2 (0 : Int32) (5 : Int32) _ hq) ki_M_in wd_422 wd_423 ⟨rfl, rfl, Nat.le_of_ble_eq_true rfl, Nat.le_of_ble_eq_true rfl⟩ rfl rfl (Nat.le_of_ble_eq_true rfl) d_M_invoke_13 ⟨Nat.le_of_ble_eq_true rfl, Nat.le_of_ble_eq_true rfl⟩) hS (fun r13_2 _u H locs hq hC hS => ?_)
    refine lv_if_eq (tgt := 39) hx hb d_M_invoke_16 (by decide) (fun c_43 => ?_) (fun c_43 => ?_)
    · have hq := hq.1 c_43
      exact J39 M a1 a2 a3 a4 _ _ ls hq hC hS (lv_sub hl [0, 1, 2, 3, 4] rfl)
    · have hq := hq.2 c_43
      refine lv_iload_n hx hb d_M_invoke_19 rfl (lv_at hl 3 rfl) ?_
      refine lv_iconst (v := (0 : Int32)) hx hb d_M_invoke_20 (by decide) ?_
      refine lv_iconst (v := (2 : Int32)) hx hb d_M_invoke_21 (by decide) ?_
      refine kci (BB := fun (_ : Unit) H => MW D A AM CM M H) (krS X hl.1 hS hC (c_M_in l D (tysM CM) A _ a3 (0 : Int32) (2 : Int32) _ hq) ki_M_in wd_422 wd_423 ⟨rfl, rfl, Nat.le_of_ble_eq_true rfl, Nat.le_of_ble_eq_true rfl⟩ rfl rfl (Nat.le_of_ble_eq_true rfl) d_M_invoke_22 ⟨Nat.le_of_ble_eq_true rfl, Nat.le_of_ble_eq_true rfl⟩) hS (fun r22_3 _u H locs hq hC hS => ?_)
      refine lv_if_eq (tgt := 39) hx hb d_M_invoke_25 (by decide) (fun c_42 => ?_) (fun c_42 => ?_)
      · have hq := hq.1 c_42
        exact J39 M a1 a2 a3 a4 _ _ ls hq hC hS (lv_sub hl [0, 1, 2, 3, 4] rfl)
      · have hq := hq.2 c_42
        refine lv_iload hx hb d_M_invoke_28 (lv_at hl 4 rfl) ?_
        refine lv_iconst (v := (0 : Int32)) hx hb d_M_invoke_30 (by decide) ?_
        refine lv_bipush (v := (80 : Int32)) hx hb d_M_invoke_31 (by decide) ?_
        refine kci (BB := fun (_ : Unit) H => MW D A AM CM M H) (krS X hl.1 hS hC (c_M_in l D (tysM CM) A _ a4 (0 : Int32) (80 : Int32) _ hq) ki_M_in wd_422 wd_423 ⟨rfl, rfl, Nat.le_of_ble_eq_true rfl, Nat.le_of_ble_eq_true rfl⟩ rfl rfl (Nat.le_of_ble_eq_true rfl) d_M_invoke_33 ⟨Nat.le_of_ble_eq_true rfl, Nat.le_of_ble_eq_true rfl⟩) hS (fun r33_4 _u H locs hq hC hS => ?_)
        refine lv_if_ne (tgt := 41) hx hb d_M_invoke_36 (by decide) (fun c_41 => ?_) (fun c_41 => ?_)
        · have hq := hq.2 c_41
          refine lv_aload_n hx hb d_M_invoke_41 rfl (lv_at hl 0 rfl) ?_
          refine mg_held X hC d_M_invoke_42 ?_
          refine lv_iload_n hx hb d_M_invoke_45 rfl (lv_at hl 1 rfl) ?_
          have hs_ := hq.1
          have hq := hq.2
          refine ml_held X hC hs_ d_M_invoke_46 ?_
          refine lv_istore (lv' := [(5, .int (m_held M (a1).toNatClampNeg)), (0, .ref (AM 0)), (1, .int a1), (2, .int a2), (3, .int a3), (4, .int a4)]) hx hb d_M_invoke_47 hl (by decide) rfl (fun ls hl => ?_)
          refine lv_aload_n hx hb d_M_invoke_49 rfl (lv_at hl 1 rfl) ?_
          refine mg_held X hC d_M_invoke_50 ?_
          refine lv_iload hx hb d_M_invoke_53 (lv_at hl 5 rfl) ?_
          refine lv_bipush (v := (9 : Int32)) hx hb d_M_invoke_55 (by decide) ?_
          have hs_ := hq.1
          have hq := hq.2
          refine lv_idiv hx hb d_M_invoke_57 hs_ ?_
          have hs_ := hq.1
          have hq := hq.2
          refine ml_held X hC hs_ d_M_invoke_58 ?_
          refine lv_istore (lv' := [(6, .int (m_held M ((a4 / (9 : Int32))).toNatClampNeg)), (5, .int (m_held M (a1).toNatClampNeg)), (0, .ref (AM 0)), (1, .int a1), (2, .int a2), (3, .int a3), (4, .int a4)]) hx hb d_M_invoke_59 hl (by decide) rfl (fun ls hl => ?_)
          refine lv_aload_n hx hb d_M_invoke_61 rfl (lv_at hl 2 rfl) ?_
          refine mg_held X hC d_M_invoke_62 ?_
          refine lv_iload hx hb d_M_invoke_65 (lv_at hl 6 rfl) ?_
          refine lv_bipush (v := (9 : Int32)) hx hb d_M_invoke_67 (by decide) ?_
          have hs_ := hq.1
          have hq := hq.2
          refine lv_irem hx hb d_M_invoke_69 hs_ ?_
          have hs_ := hq.1
          have hq := hq.2
          refine ml_held X hC hs_ d_M_invoke_70 ?_
          refine lv_istore (lv' := [(7, .int (m_held M ((a4 - a4 / (9 : Int32) * (9 : Int32))).toNatClampNeg)), (6, .int (m_held M ((a4 / (9 : Int32))).toNatClampNeg)), (5, .int (m_held M (a1).toNatClampNeg)), (0, .ref (AM 0)), (1, .int a1), (2, .int a2), (3, .int a3), (4, .int a4)]) hx hb d_M_invoke_71 hl (by decide) rfl (fun ls hl => ?_)
          refine lv_iload_n hx hb d_M_invoke_73 rfl (lv_at hl 5 rfl) ?_
          refine lv_iconst (v := (2 : Int32)) hx hb d_M_invoke_74 (by decide) ?_
          refine lv_icmp_eq (tgt := 90) hx hb d_M_invoke_75 (by decide) (fun c_40 => ?_) (fun c_40 => ?_)
          · have hq := hq.1 c_40
            exact J90 M a1 a2 a3 a4 (m_held M (a1).toNatClampNeg) (m_held M ((a4 / (9 : Int32))).toNatClampNeg) (m_held M ((a4 - a4 / (9 : Int32) * (9 : Int32))).toNatClampNeg) _ _ ls hq hC hS (lv_sub hl [3, 4, 5, 6, 7, 2, 1, 0] rfl)
          · have hq := hq.2 c_40
            refine lv_iload hx hb d_M_invoke_78 (lv_at hl 2 rfl) ?_
            refine lv_if_ne (tgt := 90) hx hb d_M_invoke_80 (by decide) (fun c_39 => ?_) (fun c_39 => ?_)
            · have hq := hq.2 c_39
              exact J90 M a1 a2 a3 a4 (m_held M (a1).toNatClampNeg) (m_held M ((a4 / (9 : Int32))).toNatClampNeg) (m_held M ((a4 - a4 / (9 : Int32) * (9 : Int32))).toNatClampNeg) _ _ ls hq hC hS (lv_sub hl [3, 4, 5, 6, 7, 2, 1, 0] rfl)
            · have hq := hq.1 c_39
              refine lv_aload_n hx hb d_M_invoke_83 rfl (lv_at hl 3 rfl) ?_
              refine lv_iconst (v := (1 : Int32)) hx hb d_M_invoke_84 (by decide) ?_
              refine lv_lconst (v := (0 : Int64)) hx hb d_M_invoke_85 (by decide) ?_
              refine kci (BB := fun u H => MW D A AM CM u H) (krV (b := (AM 0)) X hl.1 hS hC (c_M_tell l D A AM CM M (1 : Int32) (0 : Int64) _ hq) ki_M_tell wd_430 wd_432 ws_M_tell (mrecX X hC) ⟨rfl, rfl, Nat.le_of_ble_eq_true rfl, Nat.le_of_ble_eq_true rfl⟩ rfl rfl (Nat.le_of_ble_eq_true rfl) d_M_invoke_86 ⟨Nat.le_of_ble_eq_true rfl, Nat.le_of_ble_eq_true rfl⟩) hS (fun r86_38 K86_38 H locs hq hC hS => ?_)
              exact hE r86_38 K86_38 _ _ _ _ _ ls hq hC hS (Nat.le_of_ble_eq_true rfl) (Nat.le_of_ble_eq_true rfl) d_M_invoke_89
        · have hq := hq.1 c_41
          exact J39 M a1 a2 a3 a4 _ _ ls hq hC hS (lv_sub hl [0, 1, 2, 3, 4] rfl)
def w_M_isOf (M : MT) (a1 : Int32) (a2 : Int32) (post : Int32 → Prop) : Prop := (vp_in a1 520) ∧ (((a2 = (0 : Int32)) → (z01 (1 : Int32) ∧ post (1 : Int32))) ∧ (¬ (a2 = (0 : Int32)) → (((a2 = (1 : Int32)) → (w_M_isBox M a1 (fun r20_9 => ((r20_9 = (0 : Int32)) → (z01 (0 : Int32) ∧ post (0 : Int32))) ∧ (¬ (r20_9 = (0 : Int32)) → ((((m_sort M (a1).toNatClampNeg) = (1 : Int32)) → (z01 (0 : Int32) ∧ post (0 : Int32))) ∧ (¬ ((m_sort M (a1).toNatClampNeg) = (1 : Int32)) → ((((m_sort M (a1).toNatClampNeg) = (3 : Int32)) → (z01 (0 : Int32) ∧ post (0 : Int32))) ∧ (¬ ((m_sort M (a1).toNatClampNeg) = (3 : Int32)) → (z01 (1 : Int32) ∧ post (1 : Int32)))))))))) ∧ (¬ (a2 = (1 : Int32)) → (((a2 = (2 : Int32)) → ((((m_sort M (a1).toNatClampNeg) = (5 : Int32)) → (z01 (1 : Int32) ∧ post (1 : Int32))) ∧ (¬ ((m_sort M (a1).toNatClampNeg) = (5 : Int32)) → (z01 (0 : Int32) ∧ post (0 : Int32))))) ∧ (¬ (a2 = (2 : Int32)) → (((a2 = (3 : Int32)) → ((((m_sort M (a1).toNatClampNeg) = (9 : Int32)) → (z01 (1 : Int32) ∧ post (1 : Int32))) ∧ (¬ ((m_sort M (a1).toNatClampNeg) = (9 : Int32)) → (z01 (0 : Int32) ∧ post (0 : Int32))))) ∧ (¬ (a2 = (3 : Int32)) → (((a2 = (5 : Int32)) → (w_M_isItem M a1 (fun r82_3 => z01 r82_3 ∧ post r82_3))) ∧ (¬ (a2 = (5 : Int32)) → (((a2 = (7 : Int32)) → (z01 (0 : Int32) ∧ post (0 : Int32))) ∧ (¬ (a2 = (7 : Int32)) → ((((m_sort M (a1).toNatClampNeg) = (11 : Int32)) → (z01 (1 : Int32) ∧ post (1 : Int32))) ∧ (¬ ((m_sort M (a1).toNatClampNeg) = (11 : Int32)) → (z01 (0 : Int32) ∧ post (0 : Int32))))))))))))))))
set_option maxHeartbeats 8000000 in
set_option maxRecDepth 100000 in
theorem c_M_isOf (l : Launch) (D : va_G) (A : Nat → Prop) (AM : Nat → Nat) (CM : Nat → ClassId) (M : MT) (a1 : Int32) (a2 : Int32) (post : Int32 → Prop) (hq : w_M_isOf M a1 a2 post) : Met l y_M_isOf (kw y_M_isOf b_M_isOf 4 (Option.some Jvm.ClassFile.FieldType.boolean)) ({ frames := 2, cells := 0, slots := 0, locals := 43 }) (kP D (tysM CM) A [.ref (AM 0), .int a1, .int a2] (MW D A AM CM M)) (va_Qi (fun r (_ : Unit) => post r) (fun _ t => MW D A AM CM M t.heap) A) 0 0 A := by
  refine kmet_z (BB := (fun (_ : Unit) H => MW D A AM CM M H)) (lv := [(0, .ref (AM 0)), (1, .int a1), (2, .int a2)]) (by decide +kernel) rfl (Nat.le_of_ble_eq_true rfl) ?_
  intro p e s m args below meth c Q ls X hin hC hl hE
  have hx := X.x
  have hb := X.b
  have hS : va_S A s.heap s.heap [] := va_S.rf
  unfold w_M_isOf at hq
  refine lv_aload_n hx hb d_M_isOf_0 rfl (lv_at hl 0 rfl) ?_
  refine mg_sort X hC d_M_isOf_1 ?_
  refine lv_iload_n hx hb d_M_isOf_4 rfl (lv_at hl 1 rfl) ?_
  have hs_ := hq.1
  have hq := hq.2
  refine ml_sort X hC hs_ d_M_isOf_5 ?_
  refine lv_istore_n (lv' := [(3, .int (m_sort M (a1).toNatClampNeg)), (0, .ref (AM 0)), (1, .int a1), (2, .int a2)]) hx hb d_M_isOf_6 rfl hl (by decide) rfl (fun ls hl => ?_)
  refine lv_iload_n hx hb d_M_isOf_7 rfl (lv_at hl 3 rfl) ?_
  refine lv_if_ne (tgt := 13) hx hb d_M_isOf_8 (by decide) (fun c_14 => ?_) (fun c_14 => ?_)
  · have hq := hq.2 c_14
    refine lv_iload_n hx hb d_M_isOf_13 rfl (lv_at hl 3 rfl) ?_
    refine lv_iconst (v := (1 : Int32)) hx hb d_M_isOf_14 (by decide) ?_
    refine lv_icmp_ne (tgt := 42) hx hb d_M_isOf_15 (by decide) (fun c_13 => ?_) (fun c_13 => ?_)
    · have hq := hq.2 c_13
      refine lv_iload_n hx hb d_M_isOf_42 rfl (lv_at hl 3 rfl) ?_
      refine lv_iconst (v := (2 : Int32)) hx hb d_M_isOf_43 (by decide) ?_
      refine lv_icmp_ne (tgt := 58) hx hb d_M_isOf_44 (by decide) (fun c_8 => ?_) (fun c_8 => ?_)
      · have hq := hq.2 c_8
        refine lv_iload_n hx hb d_M_isOf_58 rfl (lv_at hl 3 rfl) ?_
        refine lv_iconst (v := (3 : Int32)) hx hb d_M_isOf_59 (by decide) ?_
        refine lv_icmp_ne (tgt := 75) hx hb d_M_isOf_60 (by decide) (fun c_6 => ?_) (fun c_6 => ?_)
        · have hq := hq.2 c_6
          refine lv_iload_n hx hb d_M_isOf_75 rfl (lv_at hl 3 rfl) ?_
          refine lv_iconst (v := (5 : Int32)) hx hb d_M_isOf_76 (by decide) ?_
          refine lv_icmp_ne (tgt := 86) hx hb d_M_isOf_77 (by decide) (fun c_4 => ?_) (fun c_4 => ?_)
          · have hq := hq.2 c_4
            refine lv_iload_n hx hb d_M_isOf_86 rfl (lv_at hl 3 rfl) ?_
            refine lv_bipush (v := (7 : Int32)) hx hb d_M_isOf_87 (by decide) ?_
            refine lv_icmp_eq (tgt := 102) hx hb d_M_isOf_89 (by decide) (fun c_2 => ?_) (fun c_2 => ?_)
            · have hq := hq.1 c_2
              refine lv_iconst (v := (0 : Int32)) hx hb d_M_isOf_102 (by decide) ?_
              exact hE (0 : Int32) () _ _ _ _ _ ls hq hC hS (Nat.le_of_ble_eq_true rfl) (Nat.le_of_ble_eq_true rfl) d_M_isOf_103
            · have hq := hq.2 c_2
              refine lv_iload_n hx hb d_M_isOf_92 rfl (lv_at hl 0 rfl) ?_
              refine lv_bipush (v := (11 : Int32)) hx hb d_M_isOf_93 (by decide) ?_
              refine lv_icmp_ne (tgt := 102) hx hb d_M_isOf_95 (by decide) (fun c_1 => ?_) (fun c_1 => ?_)
              · have hq := hq.2 c_1
                refine lv_iconst (v := (0 : Int32)) hx hb d_M_isOf_102 (by decide) ?_
                exact hE (0 : Int32) () _ _ _ _ _ ls hq hC hS (Nat.le_of_ble_eq_true rfl) (Nat.le_of_ble_eq_true rfl) d_M_isOf_103
              · have hq := hq.1 c_1
                refine lv_iconst (v := (1 : Int32)) hx hb d_M_isOf_98 (by decide) ?_
                refine lv_goto (tgt := 103) hx hb d_M_isOf_99 (by decide) ?_
                exact hE (1 : Int32) () _ _ _ _ _ ls hq hC hS (Nat.le_of_ble_eq_true rfl) (Nat.le_of_ble_eq_true rfl) d_M_isOf_103
          · have hq := hq.1 c_4
            refine lv_aload_n hx hb d_M_isOf_80 rfl (lv_at hl 1 rfl) ?_
            refine lv_iload_n hx hb d_M_isOf_81 rfl (lv_at hl 2 rfl) ?_
            refine kci (BB := fun (_ : Unit) H => MW D A AM CM M H) (krV (b := (AM 0)) X hl.1 hS hC (c_M_isItem l D A AM CM M a1 _ hq) ki_M_isItem wd_489 wd_491 ws_M_isItem (mrecX X hC) ⟨rfl, rfl, Nat.le_of_ble_eq_true rfl, Nat.le_of_ble_eq_true rfl⟩ rfl rfl (Nat.le_of_ble_eq_true rfl) d_M_isOf_82 ⟨Nat.le_of_ble_eq_true rfl, Nat.le_of_ble_eq_true rfl⟩) hS (fun r82_3 _u H locs hq hC hS => ?_)
            exact hE r82_3 () _ _ _ _ _ ls hq hC hS (Nat.le_of_ble_eq_true rfl) (Nat.le_of_ble_eq_true rfl) d_M_isOf_85
        · have hq := hq.1 c_6
          refine lv_iload_n hx hb d_M_isOf_63 rfl (lv_at hl 0 rfl) ?_
          refine lv_bipush (v := (9 : Int32)) hx hb d_M_isOf_64 (by decide) ?_
          refine lv_icmp_ne (tgt := 73) hx hb d_M_isOf_66 (by decide) (fun c_5 => ?_) (fun c_5 => ?_)
          · have hq := hq.2 c_5
            refine lv_iconst (v := (0 : Int32)) hx hb d_M_isOf_73 (by decide) ?_
            exact hE (0 : Int32) () _ _ _ _ _ ls hq hC hS (Nat.le_of_ble_eq_true rfl) (Nat.le_of_ble_eq_true rfl) d_M_isOf_74
          · have hq := hq.1 c_5
            refine lv_iconst (v := (1 : Int32)) hx hb d_M_isOf_69 (by decide) ?_
            refine lv_goto (tgt := 74) hx hb d_M_isOf_70 (by decide) ?_
            exact hE (1 : Int32) () _ _ _ _ _ ls hq hC hS (Nat.le_of_ble_eq_true rfl) (Nat.le_of_ble_eq_true rfl) d_M_isOf_74
      · have hq := hq.1 c_8
        refine lv_iload_n hx hb d_M_isOf_47 rfl (lv_at hl 0 rfl) ?_
        refine lv_iconst (v := (5 : Int32)) hx hb d_M_isOf_48 (by decide) ?_
        refine lv_icmp_ne (tgt := 56) hx hb d_M_isOf_49 (by decide) (fun c_7 => ?_) (fun c_7 => ?_)
        · have hq := hq.2 c_7
          refine lv_iconst (v := (0 : Int32)) hx hb d_M_isOf_56 (by decide) ?_
          exact hE (0 : Int32) () _ _ _ _ _ ls hq hC hS (Nat.le_of_ble_eq_true rfl) (Nat.le_of_ble_eq_true rfl) d_M_isOf_57
        · have hq := hq.1 c_7
          refine lv_iconst (v := (1 : Int32)) hx hb d_M_isOf_52 (by decide) ?_
          refine lv_goto (tgt := 57) hx hb d_M_isOf_53 (by decide) ?_
          exact hE (1 : Int32) () _ _ _ _ _ ls hq hC hS (Nat.le_of_ble_eq_true rfl) (Nat.le_of_ble_eq_true rfl) d_M_isOf_57
    · have hq := hq.1 c_13
      refine lv_aload_n hx hb d_M_isOf_18 rfl (lv_at hl 1 rfl) ?_
      refine lv_iload_n hx hb d_M_isOf_19 rfl (lv_at hl 2 rfl) ?_
      refine kci (BB := fun (_ : Unit) H => MW D A AM CM M H) (krV (b := (AM 0)) X hl.1 hS hC (c_M_isBox l D A AM CM M a1 _ hq) ki_M_isBox wd_497 wd_499 ws_M_isBox (mrecX X hC) ⟨rfl, rfl, Nat.le_of_ble_eq_true rfl, Nat.le_of_ble_eq_true rfl⟩ rfl rfl (Nat.le_of_ble_eq_true rfl) d_M_isOf_20 ⟨Nat.le_of_ble_eq_true rfl, Nat.le_of_ble_eq_true rfl⟩) hS (fun r20_9 _u H locs hq hC hS => ?_)
      refine lv_if_eq (tgt := 40) hx hb d_M_isOf_23 (by decide) (fun c_12 => ?_) (fun c_12 => ?_)
      · have hq := hq.1 c_12
        refine lv_iconst (v := (0 : Int32)) hx hb d_M_isOf_40 (by decide) ?_
        exact hE (0 : Int32) () _ _ _ _ _ ls hq hC hS (Nat.le_of_ble_eq_true rfl) (Nat.le_of_ble_eq_true rfl) d_M_isOf_41
      · have hq := hq.2 c_12
        refine lv_iload_n hx hb d_M_isOf_26 rfl (lv_at hl 0 rfl) ?_
        refine lv_iconst (v := (1 : Int32)) hx hb d_M_isOf_27 (by decide) ?_
        refine lv_icmp_eq (tgt := 40) hx hb d_M_isOf_28 (by decide) (fun c_11 => ?_) (fun c_11 => ?_)
        · have hq := hq.1 c_11
          refine lv_iconst (v := (0 : Int32)) hx hb d_M_isOf_40 (by decide) ?_
          exact hE (0 : Int32) () _ _ _ _ _ ls hq hC hS (Nat.le_of_ble_eq_true rfl) (Nat.le_of_ble_eq_true rfl) d_M_isOf_41
        · have hq := hq.2 c_11
          refine lv_iload_n hx hb d_M_isOf_31 rfl (lv_at hl 0 rfl) ?_
          refine lv_iconst (v := (3 : Int32)) hx hb d_M_isOf_32 (by decide) ?_
          refine lv_icmp_eq (tgt := 40) hx hb d_M_isOf_33 (by decide) (fun c_10 => ?_) (fun c_10 => ?_)
          · have hq := hq.1 c_10
            refine lv_iconst (v := (0 : Int32)) hx hb d_M_isOf_40 (by decide) ?_
            exact hE (0 : Int32) () _ _ _ _ _ ls hq hC hS (Nat.le_of_ble_eq_true rfl) (Nat.le_of_ble_eq_true rfl) d_M_isOf_41
          · have hq := hq.2 c_10
            refine lv_iconst (v := (1 : Int32)) hx hb d_M_isOf_36 (by decide) ?_
            refine lv_goto (tgt := 41) hx hb d_M_isOf_37 (by decide) ?_
            exact hE (1 : Int32) () _ _ _ _ _ ls hq hC hS (Nat.le_of_ble_eq_true rfl) (Nat.le_of_ble_eq_true rfl) d_M_isOf_41
  · have hq := hq.1 c_14
    refine lv_iconst (v := (1 : Int32)) hx hb d_M_isOf_11 (by decide) ?_
    exact hE (1 : Int32) () _ _ _ _ _ ls hq hC hS (Nat.le_of_ble_eq_true rfl) (Nat.le_of_ble_eq_true rfl) d_M_isOf_12
def w_M_cast (M : MT) (a1 : Int32) (a2 : Int32) (post : Int32 → MT → Prop) : Prop := w_M_in a1 (0 : Int32) (8 : Int32) (fun r4_1 => ((r4_1 = (0 : Int32)) → (post (-1 : Int32) M)) ∧ (¬ (r4_1 = (0 : Int32)) → (w_M_in a2 (0 : Int32) (7 : Int32) (fun r14_2 => ((r14_2 = (0 : Int32)) → (post (-1 : Int32) M)) ∧ (¬ (r14_2 = (0 : Int32)) → ((vp_in a1 9) ∧ ((((m_held M (a1).toNatClampNeg) = (0 : Int32)) → ((vp_in (8 : Int32) 9) ∧ (w_M_tell (ms_held M ((8 : Int32)).toNatClampNeg (m_held M (a1).toNatClampNeg)) (0 : Int32) (0 : Int64) (fun r61_3 K61_3 => post r61_3 K61_3)))) ∧ (¬ ((m_held M (a1).toNatClampNeg) = (0 : Int32)) → (w_M_isOf M (m_held M (a1).toNatClampNeg) a2 (fun r36_4 => ((r36_4 = (0 : Int32)) → (w_M_tell M (7 : Int32) (0 : Int64) (fun r46_6 K46_6 => post r46_6 K46_6))) ∧ (¬ (r36_4 = (0 : Int32)) → ((vp_in (8 : Int32) 9) ∧ (w_M_tell (ms_held M ((8 : Int32)).toNatClampNeg (m_held M (a1).toNatClampNeg)) (0 : Int32) (0 : Int64) (fun r61_5 K61_5 => post r61_5 K61_5))))))))))))))
set_option maxHeartbeats 8000000 in
set_option maxRecDepth 100000 in
theorem c_M_cast (l : Launch) (D : va_G) (A : Nat → Prop) (AM : Nat → Nat) (CM : Nat → ClassId) (M : MT) (a1 : Int32) (a2 : Int32) (post : Int32 → MT → Prop) (hq : w_M_cast M a1 a2 post) : Met l y_M_cast (kw y_M_cast b_M_cast 4 (Option.some Jvm.ClassFile.FieldType.int)) ({ frames := 3, cells := 0, slots := 0, locals := 66 }) (kP D (tysM CM) A [.ref (AM 0), .int a1, .int a2] (MW D A AM CM M)) (va_Qi post (fun u t => MW D A AM CM u t.heap) A) 0 0 A := by
  refine kmet_i (BB := (fun u H => MW D A AM CM u H)) (lv := [(0, .ref (AM 0)), (1, .int a1), (2, .int a2)]) (by decide +kernel) rfl (Nat.le_of_ble_eq_true rfl) ?_
  intro p e s m args below meth c Q ls X hin hC hl hE
  have hx := X.x
  have hb := X.b
  have hS : va_S A s.heap s.heap [] := va_S.rf
  unfold w_M_cast at hq
  refine lv_iload_n hx hb d_M_cast_0 rfl (lv_at hl 1 rfl) ?_
  refine lv_iconst (v := (0 : Int32)) hx hb d_M_cast_1 (by decide) ?_
  refine lv_bipush (v := (8 : Int32)) hx hb d_M_cast_2 (by decide) ?_
  refine kci (BB := fun (_ : Unit) H => MW D A AM CM M H) (krS X hl.1 hS hC (c_M_in l D (tysM CM) A _ a1 (0 : Int32) (8 : Int32) _ hq) ki_M_in wd_422 wd_423 ⟨rfl, rfl, Nat.le_of_ble_eq_true rfl, Nat.le_of_ble_eq_true rfl⟩ rfl rfl (Nat.le_of_ble_eq_true rfl) d_M_cast_4 ⟨Nat.le_of_ble_eq_true rfl, Nat.le_of_ble_eq_true rfl⟩) hS (fun r4_1 _u H locs hq hC hS => ?_)
  refine lv_if_eq (tgt := 20) hx hb d_M_cast_7 (by decide) (fun c_10 => ?_) (fun c_10 => ?_)
  · have hq := hq.1 c_10
    refine lv_iconst (v := (-1 : Int32)) hx hb d_M_cast_20 (by decide) ?_
    exact hE (-1 : Int32) M _ _ _ _ _ ls hq hC hS (Nat.le_of_ble_eq_true rfl) (Nat.le_of_ble_eq_true rfl) d_M_cast_21
  · have hq := hq.2 c_10
    refine lv_iload_n hx hb d_M_cast_10 rfl (lv_at hl 2 rfl) ?_
    refine lv_iconst (v := (0 : Int32)) hx hb d_M_cast_11 (by decide) ?_
    refine lv_bipush (v := (7 : Int32)) hx hb d_M_cast_12 (by decide) ?_
    refine kci (BB := fun (_ : Unit) H => MW D A AM CM M H) (krS X hl.1 hS hC (c_M_in l D (tysM CM) A _ a2 (0 : Int32) (7 : Int32) _ hq) ki_M_in wd_422 wd_423 ⟨rfl, rfl, Nat.le_of_ble_eq_true rfl, Nat.le_of_ble_eq_true rfl⟩ rfl rfl (Nat.le_of_ble_eq_true rfl) d_M_cast_14 ⟨Nat.le_of_ble_eq_true rfl, Nat.le_of_ble_eq_true rfl⟩) hS (fun r14_2 _u H locs hq hC hS => ?_)
    refine lv_if_ne (tgt := 22) hx hb d_M_cast_17 (by decide) (fun c_9 => ?_) (fun c_9 => ?_)
    · have hq := hq.2 c_9
      refine lv_aload_n hx hb d_M_cast_22 rfl (lv_at hl 0 rfl) ?_
      refine mg_held X hC d_M_cast_23 ?_
      refine lv_iload_n hx hb d_M_cast_26 rfl (lv_at hl 1 rfl) ?_
      have hs_ := hq.1
      have hq := hq.2
      refine ml_held X hC hs_ d_M_cast_27 ?_
      refine lv_istore_n (lv' := [(3, .int (m_held M (a1).toNatClampNeg)), (0, .ref (AM 0)), (1, .int a1), (2, .int a2)]) hx hb d_M_cast_28 rfl hl (by decide) rfl (fun ls hl => ?_)
      refine lv_iload_n hx hb d_M_cast_29 rfl (lv_at hl 0 rfl) ?_
      refine lv_if_eq (tgt := 50) hx hb d_M_cast_30 (by decide) (fun c_8 => ?_) (fun c_8 => ?_)
      · have hq := hq.1 c_8
        refine lv_aload_n hx hb d_M_cast_50 rfl (lv_at hl 1 rfl) ?_
        refine mg_held X hC d_M_cast_51 ?_
        refine lv_bipush (v := (8 : Int32)) hx hb d_M_cast_54 (by decide) ?_
        refine lv_iload_n hx hb d_M_cast_56 rfl (lv_at hl 0 rfl) ?_
        have hs_ := hq.1
        have hq := hq.2
        refine mt_held X hC hS hs_ d_M_cast_57 (fun H locs hC hS => ?_)
        refine lv_aload_n hx hb d_M_cast_58 rfl (lv_at hl 1 rfl) ?_
        refine lv_iconst (v := (0 : Int32)) hx hb d_M_cast_59 (by decide) ?_
        refine lv_lconst (v := (0 : Int64)) hx hb d_M_cast_60 (by decide) ?_
        refine kci (BB := fun u H => MW D A AM CM u H) (krV (b := (AM 0)) X hl.1 hS hC (c_M_tell l D A AM CM (ms_held M ((8 : Int32)).toNatClampNeg (m_held M (a1).toNatClampNeg)) (0 : Int32) (0 : Int64) _ hq) ki_M_tell wd_430 wd_432 ws_M_tell (mrecX X hC) ⟨rfl, rfl, Nat.le_of_ble_eq_true rfl, Nat.le_of_ble_eq_true rfl⟩ rfl rfl (Nat.le_of_ble_eq_true rfl) d_M_cast_61 ⟨Nat.le_of_ble_eq_true rfl, Nat.le_of_ble_eq_true rfl⟩) hS (fun r61_3 K61_3 H locs hq hC hS => ?_)
        exact hE r61_3 K61_3 _ _ _ _ _ ls hq hC hS (Nat.le_of_ble_eq_true rfl) (Nat.le_of_ble_eq_true rfl) d_M_cast_64
      · have hq := hq.2 c_8
        refine lv_aload_n hx hb d_M_cast_33 rfl (lv_at hl 1 rfl) ?_
        refine lv_iload_n hx hb d_M_cast_34 rfl (lv_at hl 0 rfl) ?_
        refine lv_iload_n hx hb d_M_cast_35 rfl (lv_at hl 3 rfl) ?_
        refine kci (BB := fun (_ : Unit) H => MW D A AM CM M H) (krV (b := (AM 0)) X hl.1 hS hC (c_M_isOf l D A AM CM M (m_held M (a1).toNatClampNeg) a2 _ hq) ki_M_isOf wd_538 wd_540 ws_M_isOf (mrecX X hC) ⟨rfl, rfl, Nat.le_of_ble_eq_true rfl, Nat.le_of_ble_eq_true rfl⟩ rfl rfl (Nat.le_of_ble_eq_true rfl) d_M_cast_36 ⟨Nat.le_of_ble_eq_true rfl, Nat.le_of_ble_eq_true rfl⟩) hS (fun r36_4 _u H locs hq hC hS => ?_)
        refine lv_if_ne (tgt := 50) hx hb d_M_cast_39 (by decide) (fun c_7 => ?_) (fun c_7 => ?_)
        · have hq := hq.2 c_7
          refine lv_aload_n hx hb d_M_cast_50 rfl (lv_at hl 1 rfl) ?_
          refine mg_held X hC d_M_cast_51 ?_
          refine lv_bipush (v := (8 : Int32)) hx hb d_M_cast_54 (by decide) ?_
          refine lv_iload_n hx hb d_M_cast_56 rfl (lv_at hl 0 rfl) ?_
          have hs_ := hq.1
          have hq := hq.2
          refine mt_held X hC hS hs_ d_M_cast_57 (fun H locs hC hS => ?_)
          refine lv_aload_n hx hb d_M_cast_58 rfl (lv_at hl 1 rfl) ?_
          refine lv_iconst (v := (0 : Int32)) hx hb d_M_cast_59 (by decide) ?_
          refine lv_lconst (v := (0 : Int64)) hx hb d_M_cast_60 (by decide) ?_
          refine kci (BB := fun u H => MW D A AM CM u H) (krV (b := (AM 0)) X hl.1 hS hC (c_M_tell l D A AM CM (ms_held M ((8 : Int32)).toNatClampNeg (m_held M (a1).toNatClampNeg)) (0 : Int32) (0 : Int64) _ hq) ki_M_tell wd_430 wd_432 ws_M_tell (mrecX X hC) ⟨rfl, rfl, Nat.le_of_ble_eq_true rfl, Nat.le_of_ble_eq_true rfl⟩ rfl rfl (Nat.le_of_ble_eq_true rfl) d_M_cast_61 ⟨Nat.le_of_ble_eq_true rfl, Nat.le_of_ble_eq_true rfl⟩) hS (fun r61_5 K61_5 H locs hq hC hS => ?_)
          exact hE r61_5 K61_5 _ _ _ _ _ ls hq hC hS (Nat.le_of_ble_eq_true rfl) (Nat.le_of_ble_eq_true rfl) d_M_cast_64
        · have hq := hq.1 c_7
          refine lv_aload_n hx hb d_M_cast_42 rfl (lv_at hl 1 rfl) ?_
          refine lv_bipush (v := (7 : Int32)) hx hb d_M_cast_43 (by decide) ?_
          refine lv_lconst (v := (0 : Int64)) hx hb d_M_cast_45 (by decide) ?_
          refine kci (BB := fun u H => MW D A AM CM u H) (krV (b := (AM 0)) X hl.1 hS hC (c_M_tell l D A AM CM M (7 : Int32) (0 : Int64) _ hq) ki_M_tell wd_430 wd_432 ws_M_tell (mrecX X hC) ⟨rfl, rfl, Nat.le_of_ble_eq_true rfl, Nat.le_of_ble_eq_true rfl⟩ rfl rfl (Nat.le_of_ble_eq_true rfl) d_M_cast_46 ⟨Nat.le_of_ble_eq_true rfl, Nat.le_of_ble_eq_true rfl⟩) hS (fun r46_6 K46_6 H locs hq hC hS => ?_)
          exact hE r46_6 K46_6 _ _ _ _ _ ls hq hC hS (Nat.le_of_ble_eq_true rfl) (Nat.le_of_ble_eq_true rfl) d_M_cast_49
    · have hq := hq.1 c_9
      refine lv_iconst (v := (-1 : Int32)) hx hb d_M_cast_20 (by decide) ?_
      exact hE (-1 : Int32) M _ _ _ _ _ ls hq hC hS (Nat.le_of_ble_eq_true rfl) (Nat.le_of_ble_eq_true rfl) d_M_cast_21
def w_M_last (M : MT)  (post : Int64 → Prop) : Prop := post (m_last M)
set_option maxHeartbeats 8000000 in
set_option maxRecDepth 100000 in
theorem c_M_last (l : Launch) (D : va_G) (A : Nat → Prop) (AM : Nat → Nat) (CM : Nat → ClassId) (M : MT)  (post : Int64 → Prop) (hq : w_M_last M post) : Met l y_M_last (kw y_M_last b_M_last 1 (Option.some Jvm.ClassFile.FieldType.long)) ({ frames := 0, cells := 0, slots := 0, locals := 0 }) (kP D (tysM CM) A [.ref (AM 0)] (MW D A AM CM M)) (va_Ql (fun r (_ : Unit) => post r) (fun _ t => MW D A AM CM M t.heap) A) 0 0 A := by
  refine kmet_l (BB := (fun (_ : Unit) H => MW D A AM CM M H)) (lv := [(0, .ref (AM 0))]) (by decide +kernel) rfl (Nat.le_of_ble_eq_true rfl) ?_
  intro p e s m args below meth c Q ls X hin hC hl hE
  have hx := X.x
  have hb := X.b
  have hS : va_S A s.heap s.heap [] := va_S.rf
  unfold w_M_last at hq
  refine lv_aload_n hx hb d_M_last_0 rfl (lv_at hl 0 rfl) ?_
  refine mg_last X hC d_M_last_1 ?_
  exact hE (m_last M) () _ _ _ _ _ ls hq hC hS (Nat.le_of_ble_eq_true rfl) (Nat.le_of_ble_eq_true rfl) d_M_last_4
def w_M_look_b33_8 (M : MT) (z1 : Int32) (z2 : Int32) (z3 : Int32) (post : Int32 → Prop) : Prop := post (-2 : Int32)
def w_M_look_b65_7 (M : MT) (z1 : Int32) (z2 : Int32) (z3 : Int32) (post : Int32 → Prop) : Prop := w_M_look_b33_8 M z1 z2 z3 post
def w_M_look_b33_7 (M : MT) (z1 : Int32) (z2 : Int32) (z3 : Int32) (post : Int32 → Prop) : Prop := (vp_in z3 520) ∧ ((((m_sort M (z3).toNatClampNeg) < (10 : Int32)) → (w_M_look_b65_7 M z1 z2 z3 post)) ∧ (¬ ((m_sort M (z3).toNatClampNeg) < (10 : Int32)) → ((((m_held M ((7 : Int32)).toNatClampNeg) = z3) → (post (7 : Int32))) ∧ (¬ ((m_held M ((7 : Int32)).toNatClampNeg) = z3) → (w_M_look_b65_7 M z1 z2 z3 post)))))
def w_M_look_b65_6 (M : MT) (z1 : Int32) (z2 : Int32) (z3 : Int32) (post : Int32 → Prop) : Prop := w_M_look_b33_7 M z1 z2 z3 post
def w_M_look_b33_6 (M : MT) (z1 : Int32) (z2 : Int32) (z3 : Int32) (post : Int32 → Prop) : Prop := (vp_in z3 520) ∧ ((((m_sort M (z3).toNatClampNeg) < (10 : Int32)) → (w_M_look_b65_6 M z1 z2 z3 post)) ∧ (¬ ((m_sort M (z3).toNatClampNeg) < (10 : Int32)) → ((((m_held M ((6 : Int32)).toNatClampNeg) = z3) → (post (6 : Int32))) ∧ (¬ ((m_held M ((6 : Int32)).toNatClampNeg) = z3) → (w_M_look_b65_6 M z1 z2 z3 post)))))
def w_M_look_b65_5 (M : MT) (z1 : Int32) (z2 : Int32) (z3 : Int32) (post : Int32 → Prop) : Prop := w_M_look_b33_6 M z1 z2 z3 post
def w_M_look_b33_5 (M : MT) (z1 : Int32) (z2 : Int32) (z3 : Int32) (post : Int32 → Prop) : Prop := (vp_in z3 520) ∧ ((((m_sort M (z3).toNatClampNeg) < (10 : Int32)) → (w_M_look_b65_5 M z1 z2 z3 post)) ∧ (¬ ((m_sort M (z3).toNatClampNeg) < (10 : Int32)) → ((((m_held M ((5 : Int32)).toNatClampNeg) = z3) → (post (5 : Int32))) ∧ (¬ ((m_held M ((5 : Int32)).toNatClampNeg) = z3) → (w_M_look_b65_5 M z1 z2 z3 post)))))
def w_M_look_b65_4 (M : MT) (z1 : Int32) (z2 : Int32) (z3 : Int32) (post : Int32 → Prop) : Prop := w_M_look_b33_5 M z1 z2 z3 post
def w_M_look_b33_4 (M : MT) (z1 : Int32) (z2 : Int32) (z3 : Int32) (post : Int32 → Prop) : Prop := (vp_in z3 520) ∧ ((((m_sort M (z3).toNatClampNeg) < (10 : Int32)) → (w_M_look_b65_4 M z1 z2 z3 post)) ∧ (¬ ((m_sort M (z3).toNatClampNeg) < (10 : Int32)) → ((((m_held M ((4 : Int32)).toNatClampNeg) = z3) → (post (4 : Int32))) ∧ (¬ ((m_held M ((4 : Int32)).toNatClampNeg) = z3) → (w_M_look_b65_4 M z1 z2 z3 post)))))
def w_M_look_b65_3 (M : MT) (z1 : Int32) (z2 : Int32) (z3 : Int32) (post : Int32 → Prop) : Prop := w_M_look_b33_4 M z1 z2 z3 post
def w_M_look_b33_3 (M : MT) (z1 : Int32) (z2 : Int32) (z3 : Int32) (post : Int32 → Prop) : Prop := (vp_in z3 520) ∧ ((((m_sort M (z3).toNatClampNeg) < (10 : Int32)) → (w_M_look_b65_3 M z1 z2 z3 post)) ∧ (¬ ((m_sort M (z3).toNatClampNeg) < (10 : Int32)) → ((((m_held M ((3 : Int32)).toNatClampNeg) = z3) → (post (3 : Int32))) ∧ (¬ ((m_held M ((3 : Int32)).toNatClampNeg) = z3) → (w_M_look_b65_3 M z1 z2 z3 post)))))
def w_M_look_b65_2 (M : MT) (z1 : Int32) (z2 : Int32) (z3 : Int32) (post : Int32 → Prop) : Prop := w_M_look_b33_3 M z1 z2 z3 post
def w_M_look_b33_2 (M : MT) (z1 : Int32) (z2 : Int32) (z3 : Int32) (post : Int32 → Prop) : Prop := (vp_in z3 520) ∧ ((((m_sort M (z3).toNatClampNeg) < (10 : Int32)) → (w_M_look_b65_2 M z1 z2 z3 post)) ∧ (¬ ((m_sort M (z3).toNatClampNeg) < (10 : Int32)) → ((((m_held M ((2 : Int32)).toNatClampNeg) = z3) → (post (2 : Int32))) ∧ (¬ ((m_held M ((2 : Int32)).toNatClampNeg) = z3) → (w_M_look_b65_2 M z1 z2 z3 post)))))
def w_M_look_b65_1 (M : MT) (z1 : Int32) (z2 : Int32) (z3 : Int32) (post : Int32 → Prop) : Prop := w_M_look_b33_2 M z1 z2 z3 post
def w_M_look_b33_1 (M : MT) (z1 : Int32) (z2 : Int32) (z3 : Int32) (post : Int32 → Prop) : Prop := (vp_in z3 520) ∧ ((((m_sort M (z3).toNatClampNeg) < (10 : Int32)) → (w_M_look_b65_1 M z1 z2 z3 post)) ∧ (¬ ((m_sort M (z3).toNatClampNeg) < (10 : Int32)) → ((((m_held M ((1 : Int32)).toNatClampNeg) = z3) → (post (1 : Int32))) ∧ (¬ ((m_held M ((1 : Int32)).toNatClampNeg) = z3) → (w_M_look_b65_1 M z1 z2 z3 post)))))
def w_M_look_b65_0 (M : MT) (z1 : Int32) (z2 : Int32) (z3 : Int32) (post : Int32 → Prop) : Prop := w_M_look_b33_1 M z1 z2 z3 post
def w_M_look_b33_0 (M : MT) (z1 : Int32) (z2 : Int32) (z3 : Int32) (post : Int32 → Prop) : Prop := (vp_in z3 520) ∧ ((((m_sort M (z3).toNatClampNeg) < (10 : Int32)) → (w_M_look_b65_0 M z1 z2 z3 post)) ∧ (¬ ((m_sort M (z3).toNatClampNeg) < (10 : Int32)) → ((((m_held M ((0 : Int32)).toNatClampNeg) = z3) → (post (0 : Int32))) ∧ (¬ ((m_held M ((0 : Int32)).toNatClampNeg) = z3) → (w_M_look_b65_0 M z1 z2 z3 post)))))
def w_M_look (M : MT) (a1 : Int32) (a2 : Int32) (post : Int32 → Prop) : Prop := w_M_in a1 (0 : Int32) (8 : Int32) (fun r4_1 => ((r4_1 = (0 : Int32)) → (post (-1 : Int32))) ∧ (¬ (r4_1 = (0 : Int32)) → ((vp_in a1 9) ∧ (((a2 = (0 : Int32)) → ((vp_in (m_held M (a1).toNatClampNeg) 520) ∧ (post (m_sort M ((m_held M (a1).toNatClampNeg)).toNatClampNeg)))) ∧ (¬ (a2 = (0 : Int32)) → (w_M_look_b33_0 M a1 a2 (m_held M (a1).toNatClampNeg) post))))))
set_option maxHeartbeats 8000000 in
set_option maxRecDepth 100000 in
theorem c_M_look (l : Launch) (D : va_G) (A : Nat → Prop) (AM : Nat → Nat) (CM : Nat → ClassId) (M : MT) (a1 : Int32) (a2 : Int32) (post : Int32 → Prop) (hq : w_M_look M a1 a2 post) : Met l y_M_look (kw y_M_look b_M_look 5 (Option.some Jvm.ClassFile.FieldType.int)) ({ frames := 1, cells := 0, slots := 0, locals := 22 }) (kP D (tysM CM) A [.ref (AM 0), .int a1, .int a2] (MW D A AM CM M)) (va_Qi (fun r (_ : Unit) => post r) (fun _ t => MW D A AM CM M t.heap) A) 0 0 A := by
  refine kmet_i (BB := (fun (_ : Unit) H => MW D A AM CM M H)) (lv := [(0, .ref (AM 0)), (1, .int a1), (2, .int a2)]) (by decide +kernel) rfl (Nat.le_of_ble_eq_true rfl) ?_
  intro p e s m args below meth c Q ls X hin hC hl hE
  have hx := X.x
  have hb := X.b
  have hS : va_S A s.heap s.heap [] := va_S.rf
  have J33_8 : ∀ (z1 : Int32) (z2 : Int32) (z3 : Int32) (H : Heap) (locs : List Loc) (ls : Array Slot), w_M_look_b33_8 M z1 z2 z3 post → MW D A AM CM M H → va_S A s.heap H locs → lv_has ls 5 [(0, .ref (AM 0)), (1, .int z1), (2, .int z2), (3, .int z3), (4, .int (8 : Int32))] → W p l e ({ frames := 1, cells := 0, slots := 0, locals := 22 }) s m args below meth c H locs 0 0 Q (F0 m 33 ls []) := by
    intro z1 z2 z3 H locs ls hq hC hS hl
    unfold w_M_look_b33_8 at hq
    refine lv_iload hx hb d_M_look_33 (lv_at hl 4 rfl) ?_
    refine lv_bipush (v := (8 : Int32)) hx hb d_M_look_35 (by decide) ?_
    refine lv_icmp_ge (tgt := 71) hx hb d_M_look_37 (by decide) (fun _ => ?_) (fun c_ => absurd (by decide) c_)
    refine lv_bipush (v := (-2 : Int32)) hx hb d_M_look_71 (by decide) ?_
    exact hE (-2 : Int32) () _ _ _ _ _ ls hq hC hS (Nat.le_of_ble_eq_true rfl) (Nat.le_of_ble_eq_true rfl) d_M_look_73
  have J65_7 : ∀ (z1 : Int32) (z2 : Int32) (z3 : Int32) (H : Heap) (locs : List Loc) (ls : Array Slot), w_M_look_b65_7 M z1 z2 z3 post → MW D A AM CM M H → va_S A s.heap H locs → lv_has ls 5 [(0, .ref (AM 0)), (1, .int z1), (2, .int z2), (3, .int z3), (4, .int (7 : Int32))] → W p l e ({ frames := 1, cells := 0, slots := 0, locals := 22 }) s m args below meth c H locs 0 0 Q (F0 m 65 ls []) := by
    intro z1 z2 z3 H locs ls hq hC hS hl
    unfold w_M_look_b65_7 at hq
    refine lv_iinc (v := (8 : Int32)) (lv' := [(4, .int (8 : Int32)), (0, .ref (AM 0)), (1, .int z1), (2, .int z2), (3, .int z3)]) hx hb d_M_look_65 hl (k := 4) rfl (by decide) (by decide) rfl (fun ls hl => ?_)
    refine lv_goto (tgt := 33) hx hb d_M_look_68 (by decide) ?_
    exact J33_8  z1 z2 z3 _ _ ls hq hC hS (lv_sub hl [1, 2, 3, 4, 0] rfl)
  have J33_7 : ∀ (z1 : Int32) (z2 : Int32) (z3 : Int32) (H : Heap) (locs : List Loc) (ls : Array Slot), w_M_look_b33_7 M z1 z2 z3 post → MW D A AM CM M H → va_S A s.heap H locs → lv_has ls 5 [(0, .ref (AM 0)), (1, .int z1), (2, .int z2), (3, .int z3), (4, .int (7 : Int32))] → W p l e ({ frames := 1, cells := 0, slots := 0, locals := 22 }) s m args below meth c H locs 0 0 Q (F0 m 33 ls []) := by
    intro z1 z2 z3 H locs ls hq hC hS hl
    unfold w_M_look_b33_7 at hq
    refine lv_iload hx hb d_M_look_33 (lv_at hl 4 rfl) ?_
    refine lv_bipush (v := (8 : Int32)) hx hb d_M_look_35 (by decide) ?_
    refine lv_icmp_ge (tgt := 71) hx hb d_M_look_37 (by decide) (fun c_ => absurd c_ (by decide)) (fun _ => ?_)
    refine lv_aload_n hx hb d_M_look_40 rfl (lv_at hl 0 rfl) ?_
    refine mg_sort X hC d_M_look_41 ?_
    refine lv_iload_n hx hb d_M_look_44 rfl (lv_at hl 3 rfl) ?_
    have hs_ := hq.1
    have hq := hq.2
    refine ml_sort X hC hs_ d_M_look_45 ?_
    refine lv_bipush (v := (10 : Int32)) hx hb d_M_look_46 (by decide) ?_
    refine lv_icmp_lt (tgt := 65) hx hb d_M_look_48 (by decide) (fun c_3 => ?_) (fun c_3 => ?_)
    · have hq := hq.1 c_3
      exact J65_7  z1 z2 z3 _ _ ls hq hC hS (lv_sub hl [0, 1, 2, 3, 4] rfl)
    · have hq := hq.2 c_3
      refine lv_aload_n hx hb d_M_look_51 rfl (lv_at hl 0 rfl) ?_
      refine mg_held X hC d_M_look_52 ?_
      refine lv_iload hx hb d_M_look_55 (lv_at hl 4 rfl) ?_
      refine ml_held X hC (i := (7 : Int32)) (by unfold vp_in; decide) d_M_look_57 ?_
      refine lv_iload_n hx hb d_M_look_58 rfl (lv_at hl 3 rfl) ?_
      refine lv_icmp_ne (tgt := 65) hx hb d_M_look_59 (by decide) (fun c_2 => ?_) (fun c_2 => ?_)
      · have hq := hq.2 c_2
        exact J65_7  z1 z2 z3 _ _ ls hq hC hS (lv_sub hl [0, 1, 2, 3, 4] rfl)
      · have hq := hq.1 c_2
        refine lv_iload hx hb d_M_look_62 (lv_at hl 4 rfl) ?_
        exact hE (7 : Int32) () _ _ _ _ _ ls hq hC hS (Nat.le_of_ble_eq_true rfl) (Nat.le_of_ble_eq_true rfl) d_M_look_64
  have J65_6 : ∀ (z1 : Int32) (z2 : Int32) (z3 : Int32) (H : Heap) (locs : List Loc) (ls : Array Slot), w_M_look_b65_6 M z1 z2 z3 post → MW D A AM CM M H → va_S A s.heap H locs → lv_has ls 5 [(0, .ref (AM 0)), (1, .int z1), (2, .int z2), (3, .int z3), (4, .int (6 : Int32))] → W p l e ({ frames := 1, cells := 0, slots := 0, locals := 22 }) s m args below meth c H locs 0 0 Q (F0 m 65 ls []) := by
    intro z1 z2 z3 H locs ls hq hC hS hl
    unfold w_M_look_b65_6 at hq
    refine lv_iinc (v := (7 : Int32)) (lv' := [(4, .int (7 : Int32)), (0, .ref (AM 0)), (1, .int z1), (2, .int z2), (3, .int z3)]) hx hb d_M_look_65 hl (k := 4) rfl (by decide) (by decide) rfl (fun ls hl => ?_)
    refine lv_goto (tgt := 33) hx hb d_M_look_68 (by decide) ?_
    exact J33_7  z1 z2 z3 _ _ ls hq hC hS (lv_sub hl [1, 2, 3, 4, 0] rfl)
  have J33_6 : ∀ (z1 : Int32) (z2 : Int32) (z3 : Int32) (H : Heap) (locs : List Loc) (ls : Array Slot), w_M_look_b33_6 M z1 z2 z3 post → MW D A AM CM M H → va_S A s.heap H locs → lv_has ls 5 [(0, .ref (AM 0)), (1, .int z1), (2, .int z2), (3, .int z3), (4, .int (6 : Int32))] → W p l e ({ frames := 1, cells := 0, slots := 0, locals := 22 }) s m args below meth c H locs 0 0 Q (F0 m 33 ls []) := by
    intro z1 z2 z3 H locs ls hq hC hS hl
    unfold w_M_look_b33_6 at hq
    refine lv_iload hx hb d_M_look_33 (lv_at hl 4 rfl) ?_
    refine lv_bipush (v := (8 : Int32)) hx hb d_M_look_35 (by decide) ?_
    refine lv_icmp_ge (tgt := 71) hx hb d_M_look_37 (by decide) (fun c_ => absurd c_ (by decide)) (fun _ => ?_)
    refine lv_aload_n hx hb d_M_look_40 rfl (lv_at hl 0 rfl) ?_
    refine mg_sort X hC d_M_look_41 ?_
    refine lv_iload_n hx hb d_M_look_44 rfl (lv_at hl 3 rfl) ?_
    have hs_ := hq.1
    have hq := hq.2
    refine ml_sort X hC hs_ d_M_look_45 ?_
    refine lv_bipush (v := (10 : Int32)) hx hb d_M_look_46 (by decide) ?_
    refine lv_icmp_lt (tgt := 65) hx hb d_M_look_48 (by decide) (fun c_5 => ?_) (fun c_5 => ?_)
    · have hq := hq.1 c_5
      exact J65_6  z1 z2 z3 _ _ ls hq hC hS (lv_sub hl [0, 1, 2, 3, 4] rfl)
    · have hq := hq.2 c_5
      refine lv_aload_n hx hb d_M_look_51 rfl (lv_at hl 0 rfl) ?_
      refine mg_held X hC d_M_look_52 ?_
      refine lv_iload hx hb d_M_look_55 (lv_at hl 4 rfl) ?_
      refine ml_held X hC (i := (6 : Int32)) (by unfold vp_in; decide) d_M_look_57 ?_
      refine lv_iload_n hx hb d_M_look_58 rfl (lv_at hl 3 rfl) ?_
      refine lv_icmp_ne (tgt := 65) hx hb d_M_look_59 (by decide) (fun c_4 => ?_) (fun c_4 => ?_)
      · have hq := hq.2 c_4
        exact J65_6  z1 z2 z3 _ _ ls hq hC hS (lv_sub hl [0, 1, 2, 3, 4] rfl)
      · have hq := hq.1 c_4
        refine lv_iload hx hb d_M_look_62 (lv_at hl 4 rfl) ?_
        exact hE (6 : Int32) () _ _ _ _ _ ls hq hC hS (Nat.le_of_ble_eq_true rfl) (Nat.le_of_ble_eq_true rfl) d_M_look_64
  have J65_5 : ∀ (z1 : Int32) (z2 : Int32) (z3 : Int32) (H : Heap) (locs : List Loc) (ls : Array Slot), w_M_look_b65_5 M z1 z2 z3 post → MW D A AM CM M H → va_S A s.heap H locs → lv_has ls 5 [(0, .ref (AM 0)), (1, .int z1), (2, .int z2), (3, .int z3), (4, .int (5 : Int32))] → W p l e ({ frames := 1, cells := 0, slots := 0, locals := 22 }) s m args below meth c H locs 0 0 Q (F0 m 65 ls []) := by
    intro z1 z2 z3 H locs ls hq hC hS hl
    unfold w_M_look_b65_5 at hq
    refine lv_iinc (v := (6 : Int32)) (lv' := [(4, .int (6 : Int32)), (0, .ref (AM 0)), (1, .int z1), (2, .int z2), (3, .int z3)]) hx hb d_M_look_65 hl (k := 4) rfl (by decide) (by decide) rfl (fun ls hl => ?_)
    refine lv_goto (tgt := 33) hx hb d_M_look_68 (by decide) ?_
    exact J33_6  z1 z2 z3 _ _ ls hq hC hS (lv_sub hl [1, 2, 3, 4, 0] rfl)
  have J33_5 : ∀ (z1 : Int32) (z2 : Int32) (z3 : Int32) (H : Heap) (locs : List Loc) (ls : Array Slot), w_M_look_b33_5 M z1 z2 z3 post → MW D A AM CM M H → va_S A s.heap H locs → lv_has ls 5 [(0, .ref (AM 0)), (1, .int z1), (2, .int z2), (3, .int z3), (4, .int (5 : Int32))] → W p l e ({ frames := 1, cells := 0, slots := 0, locals := 22 }) s m args below meth c H locs 0 0 Q (F0 m 33 ls []) := by
    intro z1 z2 z3 H locs ls hq hC hS hl
    unfold w_M_look_b33_5 at hq
    refine lv_iload hx hb d_M_look_33 (lv_at hl 4 rfl) ?_
    refine lv_bipush (v := (8 : Int32)) hx hb d_M_look_35 (by decide) ?_
    refine lv_icmp_ge (tgt := 71) hx hb d_M_look_37 (by decide) (fun c_ => absurd c_ (by decide)) (fun _ => ?_)
    refine lv_aload_n hx hb d_M_look_40 rfl (lv_at hl 0 rfl) ?_
    refine mg_sort X hC d_M_look_41 ?_
    refine lv_iload_n hx hb d_M_look_44 rfl (lv_at hl 3 rfl) ?_
    have hs_ := hq.1
    have hq := hq.2
    refine ml_sort X hC hs_ d_M_look_45 ?_
    refine lv_bipush (v := (10 : Int32)) hx hb d_M_look_46 (by decide) ?_
    refine lv_icmp_lt (tgt := 65) hx hb d_M_look_48 (by decide) (fun c_7 => ?_) (fun c_7 => ?_)
    · have hq := hq.1 c_7
      exact J65_5  z1 z2 z3 _ _ ls hq hC hS (lv_sub hl [0, 1, 2, 3, 4] rfl)
    · have hq := hq.2 c_7
      refine lv_aload_n hx hb d_M_look_51 rfl (lv_at hl 0 rfl) ?_
      refine mg_held X hC d_M_look_52 ?_
      refine lv_iload hx hb d_M_look_55 (lv_at hl 4 rfl) ?_
      refine ml_held X hC (i := (5 : Int32)) (by unfold vp_in; decide) d_M_look_57 ?_
      refine lv_iload_n hx hb d_M_look_58 rfl (lv_at hl 3 rfl) ?_
      refine lv_icmp_ne (tgt := 65) hx hb d_M_look_59 (by decide) (fun c_6 => ?_) (fun c_6 => ?_)
      · have hq := hq.2 c_6
        exact J65_5  z1 z2 z3 _ _ ls hq hC hS (lv_sub hl [0, 1, 2, 3, 4] rfl)
      · have hq := hq.1 c_6
        refine lv_iload hx hb d_M_look_62 (lv_at hl 4 rfl) ?_
        exact hE (5 : Int32) () _ _ _ _ _ ls hq hC hS (Nat.le_of_ble_eq_true rfl) (Nat.le_of_ble_eq_true rfl) d_M_look_64
  have J65_4 : ∀ (z1 : Int32) (z2 : Int32) (z3 : Int32) (H : Heap) (locs : List Loc) (ls : Array Slot), w_M_look_b65_4 M z1 z2 z3 post → MW D A AM CM M H → va_S A s.heap H locs → lv_has ls 5 [(0, .ref (AM 0)), (1, .int z1), (2, .int z2), (3, .int z3), (4, .int (4 : Int32))] → W p l e ({ frames := 1, cells := 0, slots := 0, locals := 22 }) s m args below meth c H locs 0 0 Q (F0 m 65 ls []) := by
    intro z1 z2 z3 H locs ls hq hC hS hl
    unfold w_M_look_b65_4 at hq
    refine lv_iinc (v := (5 : Int32)) (lv' := [(4, .int (5 : Int32)), (0, .ref (AM 0)), (1, .int z1), (2, .int z2), (3, .int z3)]) hx hb d_M_look_65 hl (k := 4) rfl (by decide) (by decide) rfl (fun ls hl => ?_)
    refine lv_goto (tgt := 33) hx hb d_M_look_68 (by decide) ?_
    exact J33_5  z1 z2 z3 _ _ ls hq hC hS (lv_sub hl [1, 2, 3, 4, 0] rfl)
  have J33_4 : ∀ (z1 : Int32) (z2 : Int32) (z3 : Int32) (H : Heap) (locs : List Loc) (ls : Array Slot), w_M_look_b33_4 M z1 z2 z3 post → MW D A AM CM M H → va_S A s.heap H locs → lv_has ls 5 [(0, .ref (AM 0)), (1, .int z1), (2, .int z2), (3, .int z3), (4, .int (4 : Int32))] → W p l e ({ frames := 1, cells := 0, slots := 0, locals := 22 }) s m args below meth c H locs 0 0 Q (F0 m 33 ls []) := by
    intro z1 z2 z3 H locs ls hq hC hS hl
    unfold w_M_look_b33_4 at hq
    refine lv_iload hx hb d_M_look_33 (lv_at hl 4 rfl) ?_
    refine lv_bipush (v := (8 : Int32)) hx hb d_M_look_35 (by decide) ?_
    refine lv_icmp_ge (tgt := 71) hx hb d_M_look_37 (by decide) (fun c_ => absurd c_ (by decide)) (fun _ => ?_)
    refine lv_aload_n hx hb d_M_look_40 rfl (lv_at hl 0 rfl) ?_
    refine mg_sort X hC d_M_look_41 ?_
    refine lv_iload_n hx hb d_M_look_44 rfl (lv_at hl 3 rfl) ?_
    have hs_ := hq.1
    have hq := hq.2
    refine ml_sort X hC hs_ d_M_look_45 ?_
    refine lv_bipush (v := (10 : Int32)) hx hb d_M_look_46 (by decide) ?_
    refine lv_icmp_lt (tgt := 65) hx hb d_M_look_48 (by decide) (fun c_9 => ?_) (fun c_9 => ?_)
    · have hq := hq.1 c_9
      exact J65_4  z1 z2 z3 _ _ ls hq hC hS (lv_sub hl [0, 1, 2, 3, 4] rfl)
    · have hq := hq.2 c_9
      refine lv_aload_n hx hb d_M_look_51 rfl (lv_at hl 0 rfl) ?_
      refine mg_held X hC d_M_look_52 ?_
      refine lv_iload hx hb d_M_look_55 (lv_at hl 4 rfl) ?_
      refine ml_held X hC (i := (4 : Int32)) (by unfold vp_in; decide) d_M_look_57 ?_
      refine lv_iload_n hx hb d_M_look_58 rfl (lv_at hl 3 rfl) ?_
      refine lv_icmp_ne (tgt := 65) hx hb d_M_look_59 (by decide) (fun c_8 => ?_) (fun c_8 => ?_)
      · have hq := hq.2 c_8
        exact J65_4  z1 z2 z3 _ _ ls hq hC hS (lv_sub hl [0, 1, 2, 3, 4] rfl)
      · have hq := hq.1 c_8
        refine lv_iload hx hb d_M_look_62 (lv_at hl 4 rfl) ?_
        exact hE (4 : Int32) () _ _ _ _ _ ls hq hC hS (Nat.le_of_ble_eq_true rfl) (Nat.le_of_ble_eq_true rfl) d_M_look_64
  have J65_3 : ∀ (z1 : Int32) (z2 : Int32) (z3 : Int32) (H : Heap) (locs : List Loc) (ls : Array Slot), w_M_look_b65_3 M z1 z2 z3 post → MW D A AM CM M H → va_S A s.heap H locs → lv_has ls 5 [(0, .ref (AM 0)), (1, .int z1), (2, .int z2), (3, .int z3), (4, .int (3 : Int32))] → W p l e ({ frames := 1, cells := 0, slots := 0, locals := 22 }) s m args below meth c H locs 0 0 Q (F0 m 65 ls []) := by
    intro z1 z2 z3 H locs ls hq hC hS hl
    unfold w_M_look_b65_3 at hq
    refine lv_iinc (v := (4 : Int32)) (lv' := [(4, .int (4 : Int32)), (0, .ref (AM 0)), (1, .int z1), (2, .int z2), (3, .int z3)]) hx hb d_M_look_65 hl (k := 4) rfl (by decide) (by decide) rfl (fun ls hl => ?_)
    refine lv_goto (tgt := 33) hx hb d_M_look_68 (by decide) ?_
    exact J33_4  z1 z2 z3 _ _ ls hq hC hS (lv_sub hl [1, 2, 3, 4, 0] rfl)
  have J33_3 : ∀ (z1 : Int32) (z2 : Int32) (z3 : Int32) (H : Heap) (locs : List Loc) (ls : Array Slot), w_M_look_b33_3 M z1 z2 z3 post → MW D A AM CM M H → va_S A s.heap H locs → lv_has ls 5 [(0, .ref (AM 0)), (1, .int z1), (2, .int z2), (3, .int z3), (4, .int (3 : Int32))] → W p l e ({ frames := 1, cells := 0, slots := 0, locals := 22 }) s m args below meth c H locs 0 0 Q (F0 m 33 ls []) := by
    intro z1 z2 z3 H locs ls hq hC hS hl
    unfold w_M_look_b33_3 at hq
    refine lv_iload hx hb d_M_look_33 (lv_at hl 4 rfl) ?_
    refine lv_bipush (v := (8 : Int32)) hx hb d_M_look_35 (by decide) ?_
    refine lv_icmp_ge (tgt := 71) hx hb d_M_look_37 (by decide) (fun c_ => absurd c_ (by decide)) (fun _ => ?_)
    refine lv_aload_n hx hb d_M_look_40 rfl (lv_at hl 0 rfl) ?_
    refine mg_sort X hC d_M_look_41 ?_
    refine lv_iload_n hx hb d_M_look_44 rfl (lv_at hl 3 rfl) ?_
    have hs_ := hq.1
    have hq := hq.2
    refine ml_sort X hC hs_ d_M_look_45 ?_
    refine lv_bipush (v := (10 : Int32)) hx hb d_M_look_46 (by decide) ?_
    refine lv_icmp_lt (tgt := 65) hx hb d_M_look_48 (by decide) (fun c_11 => ?_) (fun c_11 => ?_)
    · have hq := hq.1 c_11
      exact J65_3  z1 z2 z3 _ _ ls hq hC hS (lv_sub hl [0, 1, 2, 3, 4] rfl)
    · have hq := hq.2 c_11
      refine lv_aload_n hx hb d_M_look_51 rfl (lv_at hl 0 rfl) ?_
      refine mg_held X hC d_M_look_52 ?_
      refine lv_iload hx hb d_M_look_55 (lv_at hl 4 rfl) ?_
      refine ml_held X hC (i := (3 : Int32)) (by unfold vp_in; decide) d_M_look_57 ?_
      refine lv_iload_n hx hb d_M_look_58 rfl (lv_at hl 3 rfl) ?_
      refine lv_icmp_ne (tgt := 65) hx hb d_M_look_59 (by decide) (fun c_10 => ?_) (fun c_10 => ?_)
      · have hq := hq.2 c_10
        exact J65_3  z1 z2 z3 _ _ ls hq hC hS (lv_sub hl [0, 1, 2, 3, 4] rfl)
      · have hq := hq.1 c_10
        refine lv_iload hx hb d_M_look_62 (lv_at hl 4 rfl) ?_
        exact hE (3 : Int32) () _ _ _ _ _ ls hq hC hS (Nat.le_of_ble_eq_true rfl) (Nat.le_of_ble_eq_true rfl) d_M_look_64
  have J65_2 : ∀ (z1 : Int32) (z2 : Int32) (z3 : Int32) (H : Heap) (locs : List Loc) (ls : Array Slot), w_M_look_b65_2 M z1 z2 z3 post → MW D A AM CM M H → va_S A s.heap H locs → lv_has ls 5 [(0, .ref (AM 0)), (1, .int z1), (2, .int z2), (3, .int z3), (4, .int (2 : Int32))] → W p l e ({ frames := 1, cells := 0, slots := 0, locals := 22 }) s m args below meth c H locs 0 0 Q (F0 m 65 ls []) := by
    intro z1 z2 z3 H locs ls hq hC hS hl
    unfold w_M_look_b65_2 at hq
    refine lv_iinc (v := (3 : Int32)) (lv' := [(4, .int (3 : Int32)), (0, .ref (AM 0)), (1, .int z1), (2, .int z2), (3, .int z3)]) hx hb d_M_look_65 hl (k := 4) rfl (by decide) (by decide) rfl (fun ls hl => ?_)
    refine lv_goto (tgt := 33) hx hb d_M_look_68 (by decide) ?_
    exact J33_3  z1 z2 z3 _ _ ls hq hC hS (lv_sub hl [1, 2, 3, 4, 0] rfl)
  have J33_2 : ∀ (z1 : Int32) (z2 : Int32) (z3 : Int32) (H : Heap) (locs : List Loc) (ls : Array Slot), w_M_look_b33_2 M z1 z2 z3 post → MW D A AM CM M H → va_S A s.heap H locs → lv_has ls 5 [(0, .ref (AM 0)), (1, .int z1), (2, .int z2), (3, .int z3), (4, .int (2 : Int32))] → W p l e ({ frames := 1, cells := 0, slots := 0, locals := 22 }) s m args below meth c H locs 0 0 Q (F0 m 33 ls []) := by
    intro z1 z2 z3 H locs ls hq hC hS hl
    unfold w_M_look_b33_2 at hq
    refine lv_iload hx hb d_M_look_33 (lv_at hl 4 rfl) ?_
    refine lv_bipush (v := (8 : Int32)) hx hb d_M_look_35 (by decide) ?_
    refine lv_icmp_ge (tgt := 71) hx hb d_M_look_37 (by decide) (fun c_ => absurd c_ (by decide)) (fun _ => ?_)
    refine lv_aload_n hx hb d_M_look_40 rfl (lv_at hl 0 rfl) ?_
    refine mg_sort X hC d_M_look_41 ?_
    refine lv_iload_n hx hb d_M_look_44 rfl (lv_at hl 3 rfl) ?_
    have hs_ := hq.1
    have hq := hq.2
    refine ml_sort X hC hs_ d_M_look_45 ?_
    refine lv_bipush (v := (10 : Int32)) hx hb d_M_look_46 (by decide) ?_
    refine lv_icmp_lt (tgt := 65) hx hb d_M_look_48 (by decide) (fun c_13 => ?_) (fun c_13 => ?_)
    · have hq := hq.1 c_13
      exact J65_2  z1 z2 z3 _ _ ls hq hC hS (lv_sub hl [0, 1, 2, 3, 4] rfl)
    · have hq := hq.2 c_13
      refine lv_aload_n hx hb d_M_look_51 rfl (lv_at hl 0 rfl) ?_
      refine mg_held X hC d_M_look_52 ?_
      refine lv_iload hx hb d_M_look_55 (lv_at hl 4 rfl) ?_
      refine ml_held X hC (i := (2 : Int32)) (by unfold vp_in; decide) d_M_look_57 ?_
      refine lv_iload_n hx hb d_M_look_58 rfl (lv_at hl 3 rfl) ?_
      refine lv_icmp_ne (tgt := 65) hx hb d_M_look_59 (by decide) (fun c_12 => ?_) (fun c_12 => ?_)
      · have hq := hq.2 c_12
        exact J65_2  z1 z2 z3 _ _ ls hq hC hS (lv_sub hl [0, 1, 2, 3, 4] rfl)
      · have hq := hq.1 c_12
        refine lv_iload hx hb d_M_look_62 (lv_at hl 4 rfl) ?_
        exact hE (2 : Int32) () _ _ _ _ _ ls hq hC hS (Nat.le_of_ble_eq_true rfl) (Nat.le_of_ble_eq_true rfl) d_M_look_64
  have J65_1 : ∀ (z1 : Int32) (z2 : Int32) (z3 : Int32) (H : Heap) (locs : List Loc) (ls : Array Slot), w_M_look_b65_1 M z1 z2 z3 post → MW D A AM CM M H → va_S A s.heap H locs → lv_has ls 5 [(0, .ref (AM 0)), (1, .int z1), (2, .int z2), (3, .int z3), (4, .int (1 : Int32))] → W p l e ({ frames := 1, cells := 0, slots := 0, locals := 22 }) s m args below meth c H locs 0 0 Q (F0 m 65 ls []) := by
    intro z1 z2 z3 H locs ls hq hC hS hl
    unfold w_M_look_b65_1 at hq
    refine lv_iinc (v := (2 : Int32)) (lv' := [(4, .int (2 : Int32)), (0, .ref (AM 0)), (1, .int z1), (2, .int z2), (3, .int z3)]) hx hb d_M_look_65 hl (k := 4) rfl (by decide) (by decide) rfl (fun ls hl => ?_)
    refine lv_goto (tgt := 33) hx hb d_M_look_68 (by decide) ?_
    exact J33_2  z1 z2 z3 _ _ ls hq hC hS (lv_sub hl [1, 2, 3, 4, 0] rfl)
  have J33_1 : ∀ (z1 : Int32) (z2 : Int32) (z3 : Int32) (H : Heap) (locs : List Loc) (ls : Array Slot), w_M_look_b33_1 M z1 z2 z3 post → MW D A AM CM M H → va_S A s.heap H locs → lv_has ls 5 [(0, .ref (AM 0)), (1, .int z1), (2, .int z2), (3, .int z3), (4, .int (1 : Int32))] → W p l e ({ frames := 1, cells := 0, slots := 0, locals := 22 }) s m args below meth c H locs 0 0 Q (F0 m 33 ls []) := by
    intro z1 z2 z3 H locs ls hq hC hS hl
    unfold w_M_look_b33_1 at hq
    refine lv_iload hx hb d_M_look_33 (lv_at hl 4 rfl) ?_
    refine lv_bipush (v := (8 : Int32)) hx hb d_M_look_35 (by decide) ?_
    refine lv_icmp_ge (tgt := 71) hx hb d_M_look_37 (by decide) (fun c_ => absurd c_ (by decide)) (fun _ => ?_)
    refine lv_aload_n hx hb d_M_look_40 rfl (lv_at hl 0 rfl) ?_
    refine mg_sort X hC d_M_look_41 ?_
    refine lv_iload_n hx hb d_M_look_44 rfl (lv_at hl 3 rfl) ?_
    have hs_ := hq.1
    have hq := hq.2
    refine ml_sort X hC hs_ d_M_look_45 ?_
    refine lv_bipush (v := (10 : Int32)) hx hb d_M_look_46 (by decide) ?_
    refine lv_icmp_lt (tgt := 65) hx hb d_M_look_48 (by decide) (fun c_15 => ?_) (fun c_15 => ?_)
    · have hq := hq.1 c_15
      exact J65_1  z1 z2 z3 _ _ ls hq hC hS (lv_sub hl [0, 1, 2, 3, 4] rfl)
    · have hq := hq.2 c_15
      refine lv_aload_n hx hb d_M_look_51 rfl (lv_at hl 0 rfl) ?_
      refine mg_held X hC d_M_look_52 ?_
      refine lv_iload hx hb d_M_look_55 (lv_at hl 4 rfl) ?_
      refine ml_held X hC (i := (1 : Int32)) (by unfold vp_in; decide) d_M_look_57 ?_
      refine lv_iload_n hx hb d_M_look_58 rfl (lv_at hl 3 rfl) ?_
      refine lv_icmp_ne (tgt := 65) hx hb d_M_look_59 (by decide) (fun c_14 => ?_) (fun c_14 => ?_)
      · have hq := hq.2 c_14
        exact J65_1  z1 z2 z3 _ _ ls hq hC hS (lv_sub hl [0, 1, 2, 3, 4] rfl)
      · have hq := hq.1 c_14
        refine lv_iload hx hb d_M_look_62 (lv_at hl 4 rfl) ?_
        exact hE (1 : Int32) () _ _ _ _ _ ls hq hC hS (Nat.le_of_ble_eq_true rfl) (Nat.le_of_ble_eq_true rfl) d_M_look_64
  have J65_0 : ∀ (z1 : Int32) (z2 : Int32) (z3 : Int32) (H : Heap) (locs : List Loc) (ls : Array Slot), w_M_look_b65_0 M z1 z2 z3 post → MW D A AM CM M H → va_S A s.heap H locs → lv_has ls 5 [(0, .ref (AM 0)), (1, .int z1), (2, .int z2), (3, .int z3), (4, .int (0 : Int32))] → W p l e ({ frames := 1, cells := 0, slots := 0, locals := 22 }) s m args below meth c H locs 0 0 Q (F0 m 65 ls []) := by
    intro z1 z2 z3 H locs ls hq hC hS hl
    unfold w_M_look_b65_0 at hq
    refine lv_iinc (v := (1 : Int32)) (lv' := [(4, .int (1 : Int32)), (0, .ref (AM 0)), (1, .int z1), (2, .int z2), (3, .int z3)]) hx hb d_M_look_65 hl (k := 4) rfl (by decide) (by decide) rfl (fun ls hl => ?_)
    refine lv_goto (tgt := 33) hx hb d_M_look_68 (by decide) ?_
    exact J33_1  z1 z2 z3 _ _ ls hq hC hS (lv_sub hl [1, 2, 3, 4, 0] rfl)
  have J33_0 : ∀ (z1 : Int32) (z2 : Int32) (z3 : Int32) (H : Heap) (locs : List Loc) (ls : Array Slot), w_M_look_b33_0 M z1 z2 z3 post → MW D A AM CM M H → va_S A s.heap H locs → lv_has ls 5 [(0, .ref (AM 0)), (1, .int z1), (2, .int z2), (3, .int z3), (4, .int (0 : Int32))] → W p l e ({ frames := 1, cells := 0, slots := 0, locals := 22 }) s m args below meth c H locs 0 0 Q (F0 m 33 ls []) := by
    intro z1 z2 z3 H locs ls hq hC hS hl
    unfold w_M_look_b33_0 at hq
    refine lv_iload hx hb d_M_look_33 (lv_at hl 4 rfl) ?_
    refine lv_bipush (v := (8 : Int32)) hx hb d_M_look_35 (by decide) ?_
    refine lv_icmp_ge (tgt := 71) hx hb d_M_look_37 (by decide) (fun c_ => absurd c_ (by decide)) (fun _ => ?_)
    refine lv_aload_n hx hb d_M_look_40 rfl (lv_at hl 0 rfl) ?_
    refine mg_sort X hC d_M_look_41 ?_
    refine lv_iload_n hx hb d_M_look_44 rfl (lv_at hl 3 rfl) ?_
    have hs_ := hq.1
    have hq := hq.2
    refine ml_sort X hC hs_ d_M_look_45 ?_
    refine lv_bipush (v := (10 : Int32)) hx hb d_M_look_46 (by decide) ?_
    refine lv_icmp_lt (tgt := 65) hx hb d_M_look_48 (by decide) (fun c_17 => ?_) (fun c_17 => ?_)
    · have hq := hq.1 c_17
      exact J65_0  z1 z2 z3 _ _ ls hq hC hS (lv_sub hl [0, 1, 2, 3, 4] rfl)
    · have hq := hq.2 c_17
      refine lv_aload_n hx hb d_M_look_51 rfl (lv_at hl 0 rfl) ?_
      refine mg_held X hC d_M_look_52 ?_
      refine lv_iload hx hb d_M_look_55 (lv_at hl 4 rfl) ?_
      refine ml_held X hC (i := (0 : Int32)) (by unfold vp_in; decide) d_M_look_57 ?_
      refine lv_iload_n hx hb d_M_look_58 rfl (lv_at hl 3 rfl) ?_
      refine lv_icmp_ne (tgt := 65) hx hb d_M_look_59 (by decide) (fun c_16 => ?_) (fun c_16 => ?_)
      · have hq := hq.2 c_16
        exact J65_0  z1 z2 z3 _ _ ls hq hC hS (lv_sub hl [0, 1, 2, 3, 4] rfl)
      · have hq := hq.1 c_16
        refine lv_iload hx hb d_M_look_62 (lv_at hl 4 rfl) ?_
        exact hE (0 : Int32) () _ _ _ _ _ ls hq hC hS (Nat.le_of_ble_eq_true rfl) (Nat.le_of_ble_eq_true rfl) d_M_look_64
  unfold w_M_look at hq
  refine lv_iload_n hx hb d_M_look_0 rfl (lv_at hl 1 rfl) ?_
  refine lv_iconst (v := (0 : Int32)) hx hb d_M_look_1 (by decide) ?_
  refine lv_bipush (v := (8 : Int32)) hx hb d_M_look_2 (by decide) ?_
  refine kci (BB := fun (_ : Unit) H => MW D A AM CM M H) (krS X hl.1 hS hC (c_M_in l D (tysM CM) A _ a1 (0 : Int32) (8 : Int32) _ hq) ki_M_in wd_422 wd_423 ⟨rfl, rfl, Nat.le_of_ble_eq_true rfl, Nat.le_of_ble_eq_true rfl⟩ rfl rfl (Nat.le_of_ble_eq_true rfl) d_M_look_4 ⟨Nat.le_of_ble_eq_true rfl, Nat.le_of_ble_eq_true rfl⟩) hS (fun r4_1 _u H locs hq hC hS => ?_)
  refine lv_if_ne (tgt := 12) hx hb d_M_look_7 (by decide) (fun c_19 => ?_) (fun c_19 => ?_)
  · have hq := hq.2 c_19
    refine lv_aload_n hx hb d_M_look_12 rfl (lv_at hl 0 rfl) ?_
    refine mg_held X hC d_M_look_13 ?_
    refine lv_iload_n hx hb d_M_look_16 rfl (lv_at hl 1 rfl) ?_
    have hs_ := hq.1
    have hq := hq.2
    refine ml_held X hC hs_ d_M_look_17 ?_
    refine lv_istore_n (lv' := [(3, .int (m_held M (a1).toNatClampNeg)), (0, .ref (AM 0)), (1, .int a1), (2, .int a2)]) hx hb d_M_look_18 rfl hl (by decide) rfl (fun ls hl => ?_)
    refine lv_iload_n hx hb d_M_look_19 rfl (lv_at hl 3 rfl) ?_
    refine lv_if_ne (tgt := 30) hx hb d_M_look_20 (by decide) (fun c_18 => ?_) (fun c_18 => ?_)
    · have hq := hq.2 c_18
      refine lv_iconst (v := (0 : Int32)) hx hb d_M_look_30 (by decide) ?_
      refine lv_istore (lv' := [(4, .int (0 : Int32)), (3, .int (m_held M (a1).toNatClampNeg)), (0, .ref (AM 0)), (1, .int a1), (2, .int a2)]) hx hb d_M_look_31 hl (by decide) rfl (fun ls hl => ?_)
      exact J33_0  a1 a2 (m_held M (a1).toNatClampNeg) _ _ ls hq hC hS (lv_sub hl [2, 3, 4, 1, 0] rfl)
    · have hq := hq.1 c_18
      refine lv_aload_n hx hb d_M_look_23 rfl (lv_at hl 1 rfl) ?_
      refine mg_sort X hC d_M_look_24 ?_
      refine lv_iload_n hx hb d_M_look_27 rfl (lv_at hl 0 rfl) ?_
      have hs_ := hq.1
      have hq := hq.2
      refine ml_sort X hC hs_ d_M_look_28 ?_
      exact hE (m_sort M ((m_held M (a1).toNatClampNeg)).toNatClampNeg) () _ _ _ _ _ ls hq hC hS (Nat.le_of_ble_eq_true rfl) (Nat.le_of_ble_eq_true rfl) d_M_look_29
  · have hq := hq.1 c_19
    refine lv_iconst (v := (-1 : Int32)) hx hb d_M_look_10 (by decide) ?_
    exact hE (-1 : Int32) () _ _ _ _ _ ls hq hC hS (Nat.le_of_ble_eq_true rfl) (Nat.le_of_ble_eq_true rfl) d_M_look_11
def w_M_value (M : MT) (a1 : Int32) (post : Int64 → MT → Prop) : Prop := w_M_in a1 (0 : Int32) (8 : Int32) (fun r4_1 => ((r4_1 = (0 : Int32)) → (post (-1 : Int64) M)) ∧ (¬ (r4_1 = (0 : Int32)) → ((vp_in a1 9) ∧ ((vp_in (m_held M (a1).toNatClampNeg) 520) ∧ ((((m_sort M ((m_held M (a1).toNatClampNeg)).toNatClampNeg) = (9 : Int32)) → ((vp_in (m_held M (a1).toNatClampNeg) 520) ∧ (post (m_whole M ((m_held M (a1).toNatClampNeg)).toNatClampNeg) M))) ∧ (¬ ((m_sort M ((m_held M (a1).toNatClampNeg)).toNatClampNeg) = (9 : Int32)) → (w_M_isBox M (m_held M (a1).toNatClampNeg) (fun r41_2 => ((r41_2 = (0 : Int32)) → (post (0 : Int64) M)) ∧ (¬ (r41_2 = (0 : Int32)) → ((vp_in (m_held M (a1).toNatClampNeg) 520) ∧ ((vp_in (m_held M (a1).toNatClampNeg) 520) ∧ ((vp_in (m_held M (a1).toNatClampNeg) 520) ∧ (w_M_told (ms_realNow (ms_wholeNow M (m_whole M ((m_held M (a1).toNatClampNeg)).toNatClampNeg)) (m_real (ms_wholeNow M (m_whole M ((m_held M (a1).toNatClampNeg)).toNatClampNeg)) ((m_held M (a1).toNatClampNeg)).toNatClampNeg)) ((m_sort (ms_realNow (ms_wholeNow M (m_whole M ((m_held M (a1).toNatClampNeg)).toNatClampNeg)) (m_real (ms_wholeNow M (m_whole M ((m_held M (a1).toNatClampNeg)).toNatClampNeg)) ((m_held M (a1).toNatClampNeg)).toNatClampNeg)) ((m_held M (a1).toNatClampNeg)).toNatClampNeg) - (1 : Int32)) (fun r78_3 => post r78_3 (ms_realNow (ms_wholeNow M (m_whole M ((m_held M (a1).toNatClampNeg)).toNatClampNeg)) (m_real (ms_wholeNow M (m_whole M ((m_held M (a1).toNatClampNeg)).toNatClampNeg)) ((m_held M (a1).toNatClampNeg)).toNatClampNeg))))))))))))))))
set_option maxHeartbeats 8000000 in
set_option maxRecDepth 100000 in
theorem c_M_value (l : Launch) (D : va_G) (A : Nat → Prop) (AM : Nat → Nat) (CM : Nat → ClassId) (M : MT) (a1 : Int32) (post : Int64 → MT → Prop) (hq : w_M_value M a1 post) : Met l y_M_value (kw y_M_value b_M_value 3 (Option.some Jvm.ClassFile.FieldType.long)) ({ frames := 2, cells := 0, slots := 0, locals := 43 }) (kP D (tysM CM) A [.ref (AM 0), .int a1] (MW D A AM CM M)) (va_Ql post (fun u t => MW D A AM CM u t.heap) A) 0 0 A := by
  refine kmet_l (BB := (fun u H => MW D A AM CM u H)) (lv := [(0, .ref (AM 0)), (1, .int a1)]) (by decide +kernel) rfl (Nat.le_of_ble_eq_true rfl) ?_
  intro p e s m args below meth c Q ls X hin hC hl hE
  have hx := X.x
  have hb := X.b
  have hS : va_S A s.heap s.heap [] := va_S.rf
  unfold w_M_value at hq
  refine lv_iload_n hx hb d_M_value_0 rfl (lv_at hl 1 rfl) ?_
  refine lv_iconst (v := (0 : Int32)) hx hb d_M_value_1 (by decide) ?_
  refine lv_bipush (v := (8 : Int32)) hx hb d_M_value_2 (by decide) ?_
  refine kci (BB := fun (_ : Unit) H => MW D A AM CM M H) (krS X hl.1 hS hC (c_M_in l D (tysM CM) A _ a1 (0 : Int32) (8 : Int32) _ hq) ki_M_in wd_422 wd_423 ⟨rfl, rfl, Nat.le_of_ble_eq_true rfl, Nat.le_of_ble_eq_true rfl⟩ rfl rfl (Nat.le_of_ble_eq_true rfl) d_M_value_4 ⟨Nat.le_of_ble_eq_true rfl, Nat.le_of_ble_eq_true rfl⟩) hS (fun r4_1 _u H locs hq hC hS => ?_)
  refine lv_if_ne (tgt := 14) hx hb d_M_value_7 (by decide) (fun c_6 => ?_) (fun c_6 => ?_)
  · have hq := hq.2 c_6
    refine lv_aload_n hx hb d_M_value_14 rfl (lv_at hl 0 rfl) ?_
    refine mg_held X hC d_M_value_15 ?_
    refine lv_iload_n hx hb d_M_value_18 rfl (lv_at hl 1 rfl) ?_
    have hs_ := hq.1
    have hq := hq.2
    refine ml_held X hC hs_ d_M_value_19 ?_
    refine lv_istore_n (lv' := [(2, .int (m_held M (a1).toNatClampNeg)), (0, .ref (AM 0)), (1, .int a1)]) hx hb d_M_value_20 rfl hl (by decide) rfl (fun ls hl => ?_)
    refine lv_aload_n hx hb d_M_value_21 rfl (lv_at hl 1 rfl) ?_
    refine mg_sort X hC d_M_value_22 ?_
    refine lv_iload_n hx hb d_M_value_25 rfl (lv_at hl 0 rfl) ?_
    have hs_ := hq.1
    have hq := hq.2
    refine ml_sort X hC hs_ d_M_value_26 ?_
    refine lv_bipush (v := (9 : Int32)) hx hb d_M_value_27 (by decide) ?_
    refine lv_icmp_ne (tgt := 39) hx hb d_M_value_29 (by decide) (fun c_5 => ?_) (fun c_5 => ?_)
    · have hq := hq.2 c_5
      refine lv_aload_n hx hb d_M_value_39 rfl (lv_at hl 1 rfl) ?_
      refine lv_iload_n hx hb d_M_value_40 rfl (lv_at hl 0 rfl) ?_
      refine kci (BB := fun (_ : Unit) H => MW D A AM CM M H) (krV (b := (AM 0)) X hl.1 hS hC (c_M_isBox l D A AM CM M (m_held M (a1).toNatClampNeg) _ hq) ki_M_isBox wd_497 wd_499 ws_M_isBox (mrecX X hC) ⟨rfl, rfl, Nat.le_of_ble_eq_true rfl, Nat.le_of_ble_eq_true rfl⟩ rfl rfl (Nat.le_of_ble_eq_true rfl) d_M_value_41 ⟨Nat.le_of_ble_eq_true rfl, Nat.le_of_ble_eq_true rfl⟩) hS (fun r41_2 _u H locs hq hC hS => ?_)
      refine lv_if_ne (tgt := 49) hx hb d_M_value_44 (by decide) (fun c_4 => ?_) (fun c_4 => ?_)
      · have hq := hq.2 c_4
        refine lv_aload_n hx hb d_M_value_49 rfl (lv_at hl 1 rfl) ?_
        refine lv_aload_n hx hb d_M_value_50 rfl (lv_at hl 1 rfl) ?_
        refine mg_whole X hC d_M_value_51 ?_
        refine lv_iload_n hx hb d_M_value_54 rfl (lv_at hl 0 rfl) ?_
        have hs_ := hq.1
        have hq := hq.2
        refine ml_whole X hC hs_ d_M_value_55 ?_
        refine mp_wholeNow X hC hS d_M_value_56 (fun H locs hC hS => ?_)
        refine lv_aload_n hx hb d_M_value_59 rfl (lv_at hl 1 rfl) ?_
        refine lv_aload_n hx hb d_M_value_60 rfl (lv_at hl 1 rfl) ?_
        refine mg_real X hC d_M_value_61 ?_
        refine lv_iload_n hx hb d_M_value_64 rfl (lv_at hl 0 rfl) ?_
        have hs_ := hq.1
        have hq := hq.2
        refine ml_real X hC hs_ d_M_value_65 ?_
        refine mp_realNow X hC hS d_M_value_66 (fun H locs hC hS => ?_)
        refine lv_aload_n hx hb d_M_value_69 rfl (lv_at hl 1 rfl) ?_
        refine lv_aload_n hx hb d_M_value_70 rfl (lv_at hl 1 rfl) ?_
        refine mg_sort X hC d_M_value_71 ?_
        refine lv_iload_n hx hb d_M_value_74 rfl (lv_at hl 0 rfl) ?_
        have hs_ := hq.1
        have hq := hq.2
        refine ml_sort X hC hs_ d_M_value_75 ?_
        refine lv_iconst (v := (1 : Int32)) hx hb d_M_value_76 (by decide) ?_
        refine lv_isub hx hb d_M_value_77 ?_
        refine kcl_ (BB := fun (_ : Unit) H => MW D A AM CM (ms_realNow (ms_wholeNow M (m_whole M ((m_held M (a1).toNatClampNeg)).toNatClampNeg)) (m_real (ms_wholeNow M (m_whole M ((m_held M (a1).toNatClampNeg)).toNatClampNeg)) ((m_held M (a1).toNatClampNeg)).toNatClampNeg)) H) (krV (b := (AM 0)) X hl.1 hS hC (c_M_told l D A AM CM (ms_realNow (ms_wholeNow M (m_whole M ((m_held M (a1).toNatClampNeg)).toNatClampNeg)) (m_real (ms_wholeNow M (m_whole M ((m_held M (a1).toNatClampNeg)).toNatClampNeg)) ((m_held M (a1).toNatClampNeg)).toNatClampNeg)) ((m_sort (ms_realNow (ms_wholeNow M (m_whole M ((m_held M (a1).toNatClampNeg)).toNatClampNeg)) (m_real (ms_wholeNow M (m_whole M ((m_held M (a1).toNatClampNeg)).toNatClampNeg)) ((m_held M (a1).toNatClampNeg)).toNatClampNeg)) ((m_held M (a1).toNatClampNeg)).toNatClampNeg) - (1 : Int32)) _ hq) ki_M_told wd_476 wd_478 ws_M_told (mrecX X hC) ⟨rfl, rfl, Nat.le_of_ble_eq_true rfl, Nat.le_of_ble_eq_true rfl⟩ rfl rfl (Nat.le_of_ble_eq_true rfl) d_M_value_78 ⟨Nat.le_of_ble_eq_true rfl, Nat.le_of_ble_eq_true rfl⟩) hS (fun r78_3 _u H locs hq hC hS => ?_)
        exact hE r78_3 (ms_realNow (ms_wholeNow M (m_whole M ((m_held M (a1).toNatClampNeg)).toNatClampNeg)) (m_real (ms_wholeNow M (m_whole M ((m_held M (a1).toNatClampNeg)).toNatClampNeg)) ((m_held M (a1).toNatClampNeg)).toNatClampNeg)) _ _ _ _ _ ls hq hC hS (Nat.le_of_ble_eq_true rfl) (Nat.le_of_ble_eq_true rfl) d_M_value_81
      · have hq := hq.1 c_4
        refine lv_lconst (v := (0 : Int64)) hx hb d_M_value_47 (by decide) ?_
        exact hE (0 : Int64) M _ _ _ _ _ ls hq hC hS (Nat.le_of_ble_eq_true rfl) (Nat.le_of_ble_eq_true rfl) d_M_value_48
    · have hq := hq.1 c_5
      refine lv_aload_n hx hb d_M_value_32 rfl (lv_at hl 1 rfl) ?_
      refine mg_whole X hC d_M_value_33 ?_
      refine lv_iload_n hx hb d_M_value_36 rfl (lv_at hl 0 rfl) ?_
      have hs_ := hq.1
      have hq := hq.2
      refine ml_whole X hC hs_ d_M_value_37 ?_
      exact hE (m_whole M ((m_held M (a1).toNatClampNeg)).toNatClampNeg) M _ _ _ _ _ ls hq hC hS (Nat.le_of_ble_eq_true rfl) (Nat.le_of_ble_eq_true rfl) d_M_value_38
  · have hq := hq.1 c_6
    refine lv_ldc2 hx hb X.o (X.t _ wd_554) d_M_value_10 ?_
    exact hE (-1 : Int64) M _ _ _ _ _ ls hq hC hS (Nat.le_of_ble_eq_true rfl) (Nat.le_of_ble_eq_true rfl) d_M_value_13
def w_M_above (a1 : Int32) (post : Int32 → Prop) : Prop := ((a1 = (0 : Int32)) → (post (-2 : Int32))) ∧ (¬ (a1 = (0 : Int32)) → (((a1 = (4 : Int32)) → (post (-2 : Int32))) ∧ (¬ (a1 = (4 : Int32)) → (((a1 = (8 : Int32)) → (post (-2 : Int32))) ∧ (¬ (a1 = (8 : Int32)) → (((a1 = (2 : Int32)) → (post (1 : Int32))) ∧ (¬ (a1 = (2 : Int32)) → (((a1 = (6 : Int32)) → (post (5 : Int32))) ∧ (¬ (a1 = (6 : Int32)) → (post (0 : Int32)))))))))))
set_option maxHeartbeats 8000000 in
set_option maxRecDepth 100000 in
theorem c_M_above (l : Launch) (D : va_G) (tys : List (ClassId × FieldType)) (A : Nat → Prop) (B : Heap → Prop) (a1 : Int32) (post : Int32 → Prop) (hq : w_M_above a1 post) : Met l y_M_above (kw y_M_above b_M_above 1 (Option.some Jvm.ClassFile.FieldType.int)) ({ frames := 0, cells := 0, slots := 0, locals := 0 }) (kP D tys A [.int a1] B) (va_Qi (fun r (_ : Unit) => post r) (fun _ t => B t.heap) A) 0 0 A := by
  refine kmet_i (BB := (fun (_ : Unit) H => B H)) (lv := [(0, .int a1)]) (by decide +kernel) rfl (Nat.le_of_ble_eq_true rfl) ?_
  intro p e s m args below meth c Q ls X hin hC hl hE
  have hx := X.x
  have hb := X.b
  have hS : va_S A s.heap s.heap [] := va_S.rf
  unfold w_M_above at hq
  refine lv_iload_n hx hb d_M_above_0 rfl (lv_at hl 0 rfl) ?_
  refine lv_if_eq (tgt := 15) hx hb d_M_above_1 (by decide) (fun c_5 => ?_) (fun c_5 => ?_)
  · have hq := hq.1 c_5
    refine lv_bipush (v := (-2 : Int32)) hx hb d_M_above_15 (by decide) ?_
    exact hE (-2 : Int32) () _ _ _ _ _ ls hq hC hS (Nat.le_of_ble_eq_true rfl) (Nat.le_of_ble_eq_true rfl) d_M_above_17
  · have hq := hq.2 c_5
    refine lv_iload_n hx hb d_M_above_4 rfl (lv_at hl 0 rfl) ?_
    refine lv_iconst (v := (4 : Int32)) hx hb d_M_above_5 (by decide) ?_
    refine lv_icmp_eq (tgt := 15) hx hb d_M_above_6 (by decide) (fun c_4 => ?_) (fun c_4 => ?_)
    · have hq := hq.1 c_4
      refine lv_bipush (v := (-2 : Int32)) hx hb d_M_above_15 (by decide) ?_
      exact hE (-2 : Int32) () _ _ _ _ _ ls hq hC hS (Nat.le_of_ble_eq_true rfl) (Nat.le_of_ble_eq_true rfl) d_M_above_17
    · have hq := hq.2 c_4
      refine lv_iload_n hx hb d_M_above_9 rfl (lv_at hl 0 rfl) ?_
      refine lv_bipush (v := (8 : Int32)) hx hb d_M_above_10 (by decide) ?_
      refine lv_icmp_ne (tgt := 18) hx hb d_M_above_12 (by decide) (fun c_3 => ?_) (fun c_3 => ?_)
      · have hq := hq.2 c_3
        refine lv_iload_n hx hb d_M_above_18 rfl (lv_at hl 0 rfl) ?_
        refine lv_iconst (v := (2 : Int32)) hx hb d_M_above_19 (by decide) ?_
        refine lv_icmp_ne (tgt := 27) hx hb d_M_above_20 (by decide) (fun c_2 => ?_) (fun c_2 => ?_)
        · have hq := hq.2 c_2
          refine lv_iload_n hx hb d_M_above_27 rfl (lv_at hl 0 rfl) ?_
          refine lv_bipush (v := (6 : Int32)) hx hb d_M_above_28 (by decide) ?_
          refine lv_icmp_ne (tgt := 37) hx hb d_M_above_30 (by decide) (fun c_1 => ?_) (fun c_1 => ?_)
          · have hq := hq.2 c_1
            refine lv_iconst (v := (0 : Int32)) hx hb d_M_above_37 (by decide) ?_
            exact hE (0 : Int32) () _ _ _ _ _ ls hq hC hS (Nat.le_of_ble_eq_true rfl) (Nat.le_of_ble_eq_true rfl) d_M_above_38
          · have hq := hq.1 c_1
            refine lv_iconst (v := (5 : Int32)) hx hb d_M_above_33 (by decide) ?_
            refine lv_goto (tgt := 38) hx hb d_M_above_34 (by decide) ?_
            exact hE (5 : Int32) () _ _ _ _ _ ls hq hC hS (Nat.le_of_ble_eq_true rfl) (Nat.le_of_ble_eq_true rfl) d_M_above_38
        · have hq := hq.1 c_2
          refine lv_iconst (v := (1 : Int32)) hx hb d_M_above_23 (by decide) ?_
          refine lv_goto (tgt := 38) hx hb d_M_above_24 (by decide) ?_
          exact hE (1 : Int32) () _ _ _ _ _ ls hq hC hS (Nat.le_of_ble_eq_true rfl) (Nat.le_of_ble_eq_true rfl) d_M_above_38
      · have hq := hq.1 c_3
        refine lv_bipush (v := (-2 : Int32)) hx hb d_M_above_15 (by decide) ?_
        exact hE (-2 : Int32) () _ _ _ _ _ ls hq hC hS (Nat.le_of_ble_eq_true rfl) (Nat.le_of_ble_eq_true rfl) d_M_above_17
def w_M_elements (a1 : Int32) (post : Int32 → Prop) : Prop := ((a1 = (9 : Int32)) → (post (8 : Int32))) ∧ (¬ (a1 = (9 : Int32)) → (((a1 = (10 : Int32)) → (post (0 : Int32))) ∧ (¬ (a1 = (10 : Int32)) → (((a1 = (11 : Int32)) → (post (5 : Int32))) ∧ (¬ (a1 = (11 : Int32)) → (((a1 = (12 : Int32)) → (post (6 : Int32))) ∧ (¬ (a1 = (12 : Int32)) → (post (-2 : Int32)))))))))
set_option maxHeartbeats 8000000 in
set_option maxRecDepth 100000 in
theorem c_M_elements (l : Launch) (D : va_G) (tys : List (ClassId × FieldType)) (A : Nat → Prop) (B : Heap → Prop) (a1 : Int32) (post : Int32 → Prop) (hq : w_M_elements a1 post) : Met l y_M_elements (kw y_M_elements b_M_elements 1 (Option.some Jvm.ClassFile.FieldType.int)) ({ frames := 0, cells := 0, slots := 0, locals := 0 }) (kP D tys A [.int a1] B) (va_Qi (fun r (_ : Unit) => post r) (fun _ t => B t.heap) A) 0 0 A := by
  refine kmet_i (BB := (fun (_ : Unit) H => B H)) (lv := [(0, .int a1)]) (by decide +kernel) rfl (Nat.le_of_ble_eq_true rfl) ?_
  intro p e s m args below meth c Q ls X hin hC hl hE
  have hx := X.x
  have hb := X.b
  have hS : va_S A s.heap s.heap [] := va_S.rf
  unfold w_M_elements at hq
  refine lv_iload_n hx hb d_M_elements_0 rfl (lv_at hl 0 rfl) ?_
  refine lv_bipush (v := (9 : Int32)) hx hb d_M_elements_1 (by decide) ?_
  refine lv_icmp_ne (tgt := 11) hx hb d_M_elements_3 (by decide) (fun c_4 => ?_) (fun c_4 => ?_)
  · have hq := hq.2 c_4
    refine lv_iload_n hx hb d_M_elements_11 rfl (lv_at hl 0 rfl) ?_
    refine lv_bipush (v := (10 : Int32)) hx hb d_M_elements_12 (by decide) ?_
    refine lv_icmp_ne (tgt := 21) hx hb d_M_elements_14 (by decide) (fun c_3 => ?_) (fun c_3 => ?_)
    · have hq := hq.2 c_3
      refine lv_iload_n hx hb d_M_elements_21 rfl (lv_at hl 0 rfl) ?_
      refine lv_bipush (v := (11 : Int32)) hx hb d_M_elements_22 (by decide) ?_
      refine lv_icmp_ne (tgt := 31) hx hb d_M_elements_24 (by decide) (fun c_2 => ?_) (fun c_2 => ?_)
      · have hq := hq.2 c_2
        refine lv_iload_n hx hb d_M_elements_31 rfl (lv_at hl 0 rfl) ?_
        refine lv_bipush (v := (12 : Int32)) hx hb d_M_elements_32 (by decide) ?_
        refine lv_icmp_ne (tgt := 42) hx hb d_M_elements_34 (by decide) (fun c_1 => ?_) (fun c_1 => ?_)
        · have hq := hq.2 c_1
          refine lv_bipush (v := (-2 : Int32)) hx hb d_M_elements_42 (by decide) ?_
          exact hE (-2 : Int32) () _ _ _ _ _ ls hq hC hS (Nat.le_of_ble_eq_true rfl) (Nat.le_of_ble_eq_true rfl) d_M_elements_44
        · have hq := hq.1 c_1
          refine lv_bipush (v := (6 : Int32)) hx hb d_M_elements_37 (by decide) ?_
          refine lv_goto (tgt := 44) hx hb d_M_elements_39 (by decide) ?_
          exact hE (6 : Int32) () _ _ _ _ _ ls hq hC hS (Nat.le_of_ble_eq_true rfl) (Nat.le_of_ble_eq_true rfl) d_M_elements_44
      · have hq := hq.1 c_2
        refine lv_iconst (v := (5 : Int32)) hx hb d_M_elements_27 (by decide) ?_
        refine lv_goto (tgt := 44) hx hb d_M_elements_28 (by decide) ?_
        exact hE (5 : Int32) () _ _ _ _ _ ls hq hC hS (Nat.le_of_ble_eq_true rfl) (Nat.le_of_ble_eq_true rfl) d_M_elements_44
    · have hq := hq.1 c_3
      refine lv_iconst (v := (0 : Int32)) hx hb d_M_elements_17 (by decide) ?_
      refine lv_goto (tgt := 44) hx hb d_M_elements_18 (by decide) ?_
      exact hE (0 : Int32) () _ _ _ _ _ ls hq hC hS (Nat.le_of_ble_eq_true rfl) (Nat.le_of_ble_eq_true rfl) d_M_elements_44
  · have hq := hq.1 c_4
    refine lv_bipush (v := (8 : Int32)) hx hb d_M_elements_6 (by decide) ?_
    refine lv_goto (tgt := 44) hx hb d_M_elements_8 (by decide) ?_
    exact hE (8 : Int32) () _ _ _ _ _ ls hq hC hS (Nat.le_of_ble_eq_true rfl) (Nat.le_of_ble_eq_true rfl) d_M_elements_44
def w_M_takes (a1 : Int32) (a2 : Int32) (post : Int32 → Prop) : Prop := ((a1 = a2) → (z01 (1 : Int32) ∧ post (1 : Int32))) ∧ (¬ (a1 = a2) → (((a1 = (0 : Int32)) → (((a2 = (8 : Int32)) → (z01 (0 : Int32) ∧ post (0 : Int32))) ∧ (¬ (a2 = (8 : Int32)) → (z01 (1 : Int32) ∧ post (1 : Int32))))) ∧ (¬ (a1 = (0 : Int32)) → (((a1 = (4 : Int32)) → (((a2 = (6 : Int32)) → (z01 (1 : Int32) ∧ post (1 : Int32))) ∧ (¬ (a2 = (6 : Int32)) → (((a2 = (7 : Int32)) → (z01 (1 : Int32) ∧ post (1 : Int32))) ∧ (¬ (a2 = (7 : Int32)) → (z01 (0 : Int32) ∧ post (0 : Int32))))))) ∧ (¬ (a1 = (4 : Int32)) → (((a1 = (10 : Int32)) → (((a2 ≤ (10 : Int32)) → (z01 (0 : Int32) ∧ post (0 : Int32))) ∧ (¬ (a2 ≤ (10 : Int32)) → (z01 (1 : Int32) ∧ post (1 : Int32))))) ∧ (¬ (a1 = (10 : Int32)) → (((a1 = (11 : Int32)) → (((a2 = (12 : Int32)) → (z01 (1 : Int32) ∧ post (1 : Int32))) ∧ (¬ (a2 = (12 : Int32)) → (z01 (0 : Int32) ∧ post (0 : Int32))))) ∧ (¬ (a1 = (11 : Int32)) → (((a1 = (1 : Int32)) → (((a2 = (2 : Int32)) → (z01 (1 : Int32) ∧ post (1 : Int32))) ∧ (¬ (a2 = (2 : Int32)) → (((a1 = (5 : Int32)) → (((a2 = (6 : Int32)) → (z01 (1 : Int32) ∧ post (1 : Int32))) ∧ (¬ (a2 = (6 : Int32)) → (z01 (0 : Int32) ∧ post (0 : Int32))))) ∧ (¬ (a1 = (5 : Int32)) → (z01 (0 : Int32) ∧ post (0 : Int32))))))) ∧ (¬ (a1 = (1 : Int32)) → (((a1 = (5 : Int32)) → (((a2 = (6 : Int32)) → (z01 (1 : Int32) ∧ post (1 : Int32))) ∧ (¬ (a2 = (6 : Int32)) → (z01 (0 : Int32) ∧ post (0 : Int32))))) ∧ (¬ (a1 = (5 : Int32)) → (z01 (0 : Int32) ∧ post (0 : Int32)))))))))))))))
set_option maxHeartbeats 8000000 in
set_option maxRecDepth 100000 in
theorem c_M_takes (l : Launch) (D : va_G) (tys : List (ClassId × FieldType)) (A : Nat → Prop) (B : Heap → Prop) (a1 : Int32) (a2 : Int32) (post : Int32 → Prop) (hq : w_M_takes a1 a2 post) : Met l y_M_takes (kw y_M_takes b_M_takes 2 (Option.some Jvm.ClassFile.FieldType.boolean)) ({ frames := 0, cells := 0, slots := 0, locals := 0 }) (kP D tys A [.int a1, .int a2] B) (va_Qi (fun r (_ : Unit) => post r) (fun _ t => B t.heap) A) 0 0 A := by
  refine kmet_z (BB := (fun (_ : Unit) H => B H)) (lv := [(0, .int a1), (1, .int a2)]) (by decide +kernel) rfl (Nat.le_of_ble_eq_true rfl) ?_
  intro p e s m args below meth c Q ls X hin hC hl hE
  have hx := X.x
  have hb := X.b
  have hS : va_S A s.heap s.heap [] := va_S.rf
  unfold w_M_takes at hq
  refine lv_iload_n hx hb d_M_takes_0 rfl (lv_at hl 0 rfl) ?_
  refine lv_iload_n hx hb d_M_takes_1 rfl (lv_at hl 1 rfl) ?_
  refine lv_icmp_ne (tgt := 7) hx hb d_M_takes_2 (by decide) (fun c_16 => ?_) (fun c_16 => ?_)
  · have hq := hq.2 c_16
    refine lv_iload_n hx hb d_M_takes_7 rfl (lv_at hl 0 rfl) ?_
    refine lv_if_ne (tgt := 23) hx hb d_M_takes_8 (by decide) (fun c_15 => ?_) (fun c_15 => ?_)
    · have hq := hq.2 c_15
      refine lv_iload_n hx hb d_M_takes_23 rfl (lv_at hl 0 rfl) ?_
      refine lv_iconst (v := (4 : Int32)) hx hb d_M_takes_24 (by decide) ?_
      refine lv_icmp_ne (tgt := 46) hx hb d_M_takes_25 (by decide) (fun c_13 => ?_) (fun c_13 => ?_)
      · have hq := hq.2 c_13
        refine lv_iload_n hx hb d_M_takes_46 rfl (lv_at hl 0 rfl) ?_
        refine lv_bipush (v := (10 : Int32)) hx hb d_M_takes_47 (by decide) ?_
        refine lv_icmp_ne (tgt := 64) hx hb d_M_takes_49 (by decide) (fun c_10 => ?_) (fun c_10 => ?_)
        · have hq := hq.2 c_10
          refine lv_iload_n hx hb d_M_takes_64 rfl (lv_at hl 0 rfl) ?_
          refine lv_bipush (v := (11 : Int32)) hx hb d_M_takes_65 (by decide) ?_
          refine lv_icmp_ne (tgt := 82) hx hb d_M_takes_67 (by decide) (fun c_8 => ?_) (fun c_8 => ?_)
          · have hq := hq.2 c_8
            refine lv_iload_n hx hb d_M_takes_82 rfl (lv_at hl 0 rfl) ?_
            refine lv_iconst (v := (1 : Int32)) hx hb d_M_takes_83 (by decide) ?_
            refine lv_icmp_ne (tgt := 92) hx hb d_M_takes_84 (by decide) (fun c_6 => ?_) (fun c_6 => ?_)
            · have hq := hq.2 c_6
              refine lv_iload_n hx hb d_M_takes_92 rfl (lv_at hl 0 rfl) ?_
              refine lv_iconst (v := (5 : Int32)) hx hb d_M_takes_93 (by decide) ?_
              refine lv_icmp_ne (tgt := 107) hx hb d_M_takes_94 (by decide) (fun c_2 => ?_) (fun c_2 => ?_)
              · have hq := hq.2 c_2
                refine lv_iconst (v := (0 : Int32)) hx hb d_M_takes_107 (by decide) ?_
                exact hE (0 : Int32) () _ _ _ _ _ ls hq hC hS (Nat.le_of_ble_eq_true rfl) (Nat.le_of_ble_eq_true rfl) d_M_takes_108
              · have hq := hq.1 c_2
                refine lv_iload_n hx hb d_M_takes_97 rfl (lv_at hl 1 rfl) ?_
                refine lv_bipush (v := (6 : Int32)) hx hb d_M_takes_98 (by decide) ?_
                refine lv_icmp_ne (tgt := 107) hx hb d_M_takes_100 (by decide) (fun c_1 => ?_) (fun c_1 => ?_)
                · have hq := hq.2 c_1
                  refine lv_iconst (v := (0 : Int32)) hx hb d_M_takes_107 (by decide) ?_
                  exact hE (0 : Int32) () _ _ _ _ _ ls hq hC hS (Nat.le_of_ble_eq_true rfl) (Nat.le_of_ble_eq_true rfl) d_M_takes_108
                · have hq := hq.1 c_1
                  refine lv_iconst (v := (1 : Int32)) hx hb d_M_takes_103 (by decide) ?_
                  refine lv_goto (tgt := 108) hx hb d_M_takes_104 (by decide) ?_
                  exact hE (1 : Int32) () _ _ _ _ _ ls hq hC hS (Nat.le_of_ble_eq_true rfl) (Nat.le_of_ble_eq_true rfl) d_M_takes_108
            · have hq := hq.1 c_6
              refine lv_iload_n hx hb d_M_takes_87 rfl (lv_at hl 1 rfl) ?_
              refine lv_iconst (v := (2 : Int32)) hx hb d_M_takes_88 (by decide) ?_
              refine lv_icmp_eq (tgt := 103) hx hb d_M_takes_89 (by decide) (fun c_5 => ?_) (fun c_5 => ?_)
              · have hq := hq.1 c_5
                refine lv_iconst (v := (1 : Int32)) hx hb d_M_takes_103 (by decide) ?_
                refine lv_goto (tgt := 108) hx hb d_M_takes_104 (by decide) ?_
                exact hE (1 : Int32) () _ _ _ _ _ ls hq hC hS (Nat.le_of_ble_eq_true rfl) (Nat.le_of_ble_eq_true rfl) d_M_takes_108
              · have hq := hq.2 c_5
                refine lv_iload_n hx hb d_M_takes_92 rfl (lv_at hl 0 rfl) ?_
                refine lv_iconst (v := (5 : Int32)) hx hb d_M_takes_93 (by decide) ?_
                refine lv_icmp_ne (tgt := 107) hx hb d_M_takes_94 (by decide) (fun c_4 => ?_) (fun c_4 => ?_)
                · have hq := hq.2 c_4
                  refine lv_iconst (v := (0 : Int32)) hx hb d_M_takes_107 (by decide) ?_
                  exact hE (0 : Int32) () _ _ _ _ _ ls hq hC hS (Nat.le_of_ble_eq_true rfl) (Nat.le_of_ble_eq_true rfl) d_M_takes_108
                · have hq := hq.1 c_4
                  refine lv_iload_n hx hb d_M_takes_97 rfl (lv_at hl 1 rfl) ?_
                  refine lv_bipush (v := (6 : Int32)) hx hb d_M_takes_98 (by decide) ?_
                  refine lv_icmp_ne (tgt := 107) hx hb d_M_takes_100 (by decide) (fun c_3 => ?_) (fun c_3 => ?_)
                  · have hq := hq.2 c_3
                    refine lv_iconst (v := (0 : Int32)) hx hb d_M_takes_107 (by decide) ?_
                    exact hE (0 : Int32) () _ _ _ _ _ ls hq hC hS (Nat.le_of_ble_eq_true rfl) (Nat.le_of_ble_eq_true rfl) d_M_takes_108
                  · have hq := hq.1 c_3
                    refine lv_iconst (v := (1 : Int32)) hx hb d_M_takes_103 (by decide) ?_
                    refine lv_goto (tgt := 108) hx hb d_M_takes_104 (by decide) ?_
                    exact hE (1 : Int32) () _ _ _ _ _ ls hq hC hS (Nat.le_of_ble_eq_true rfl) (Nat.le_of_ble_eq_true rfl) d_M_takes_108
          · have hq := hq.1 c_8
            refine lv_iload_n hx hb d_M_takes_70 rfl (lv_at hl 1 rfl) ?_
            refine lv_bipush (v := (12 : Int32)) hx hb d_M_takes_71 (by decide) ?_
            refine lv_icmp_ne (tgt := 80) hx hb d_M_takes_73 (by decide) (fun c_7 => ?_) (fun c_7 => ?_)
            · have hq := hq.2 c_7
              refine lv_iconst (v := (0 : Int32)) hx hb d_M_takes_80 (by decide) ?_
              exact hE (0 : Int32) () _ _ _ _ _ ls hq hC hS (Nat.le_of_ble_eq_true rfl) (Nat.le_of_ble_eq_true rfl) d_M_takes_81
            · have hq := hq.1 c_7
              refine lv_iconst (v := (1 : Int32)) hx hb d_M_takes_76 (by decide) ?_
              refine lv_goto (tgt := 81) hx hb d_M_takes_77 (by decide) ?_
              exact hE (1 : Int32) () _ _ _ _ _ ls hq hC hS (Nat.le_of_ble_eq_true rfl) (Nat.le_of_ble_eq_true rfl) d_M_takes_81
        · have hq := hq.1 c_10
          refine lv_iload_n hx hb d_M_takes_52 rfl (lv_at hl 1 rfl) ?_
          refine lv_bipush (v := (10 : Int32)) hx hb d_M_takes_53 (by decide) ?_
          refine lv_icmp_le (tgt := 62) hx hb d_M_takes_55 (by decide) (fun c_9 => ?_) (fun c_9 => ?_)
          · have hq := hq.1 c_9
            refine lv_iconst (v := (0 : Int32)) hx hb d_M_takes_62 (by decide) ?_
            exact hE (0 : Int32) () _ _ _ _ _ ls hq hC hS (Nat.le_of_ble_eq_true rfl) (Nat.le_of_ble_eq_true rfl) d_M_takes_63
          · have hq := hq.2 c_9
            refine lv_iconst (v := (1 : Int32)) hx hb d_M_takes_58 (by decide) ?_
            refine lv_goto (tgt := 63) hx hb d_M_takes_59 (by decide) ?_
            exact hE (1 : Int32) () _ _ _ _ _ ls hq hC hS (Nat.le_of_ble_eq_true rfl) (Nat.le_of_ble_eq_true rfl) d_M_takes_63
      · have hq := hq.1 c_13
        refine lv_iload_n hx hb d_M_takes_28 rfl (lv_at hl 1 rfl) ?_
        refine lv_bipush (v := (6 : Int32)) hx hb d_M_takes_29 (by decide) ?_
        refine lv_icmp_eq (tgt := 40) hx hb d_M_takes_31 (by decide) (fun c_12 => ?_) (fun c_12 => ?_)
        · have hq := hq.1 c_12
          refine lv_iconst (v := (1 : Int32)) hx hb d_M_takes_40 (by decide) ?_
          refine lv_goto (tgt := 45) hx hb d_M_takes_41 (by decide) ?_
          exact hE (1 : Int32) () _ _ _ _ _ ls hq hC hS (Nat.le_of_ble_eq_true rfl) (Nat.le_of_ble_eq_true rfl) d_M_takes_45
        · have hq := hq.2 c_12
          refine lv_iload_n hx hb d_M_takes_34 rfl (lv_at hl 1 rfl) ?_
          refine lv_bipush (v := (7 : Int32)) hx hb d_M_takes_35 (by decide) ?_
          refine lv_icmp_ne (tgt := 44) hx hb d_M_takes_37 (by decide) (fun c_11 => ?_) (fun c_11 => ?_)
          · have hq := hq.2 c_11
            refine lv_iconst (v := (0 : Int32)) hx hb d_M_takes_44 (by decide) ?_
            exact hE (0 : Int32) () _ _ _ _ _ ls hq hC hS (Nat.le_of_ble_eq_true rfl) (Nat.le_of_ble_eq_true rfl) d_M_takes_45
          · have hq := hq.1 c_11
            refine lv_iconst (v := (1 : Int32)) hx hb d_M_takes_40 (by decide) ?_
            refine lv_goto (tgt := 45) hx hb d_M_takes_41 (by decide) ?_
            exact hE (1 : Int32) () _ _ _ _ _ ls hq hC hS (Nat.le_of_ble_eq_true rfl) (Nat.le_of_ble_eq_true rfl) d_M_takes_45
    · have hq := hq.1 c_15
      refine lv_iload_n hx hb d_M_takes_11 rfl (lv_at hl 1 rfl) ?_
      refine lv_bipush (v := (8 : Int32)) hx hb d_M_takes_12 (by decide) ?_
      refine lv_icmp_eq (tgt := 21) hx hb d_M_takes_14 (by decide) (fun c_14 => ?_) (fun c_14 => ?_)
      · have hq := hq.1 c_14
        refine lv_iconst (v := (0 : Int32)) hx hb d_M_takes_21 (by decide) ?_
        exact hE (0 : Int32) () _ _ _ _ _ ls hq hC hS (Nat.le_of_ble_eq_true rfl) (Nat.le_of_ble_eq_true rfl) d_M_takes_22
      · have hq := hq.2 c_14
        refine lv_iconst (v := (1 : Int32)) hx hb d_M_takes_17 (by decide) ?_
        refine lv_goto (tgt := 22) hx hb d_M_takes_18 (by decide) ?_
        exact hE (1 : Int32) () _ _ _ _ _ ls hq hC hS (Nat.le_of_ble_eq_true rfl) (Nat.le_of_ble_eq_true rfl) d_M_takes_22
  · have hq := hq.1 c_16
    refine lv_iconst (v := (1 : Int32)) hx hb d_M_takes_5 (by decide) ?_
    exact hE (1 : Int32) () _ _ _ _ _ ls hq hC hS (Nat.le_of_ble_eq_true rfl) (Nat.le_of_ble_eq_true rfl) d_M_takes_6
def w_M_typed (M : MT) (a1 : Int32) (a2 : Int32) (a3 : Int32) (post : Int32 → Prop) : Prop := w_M_in a1 (0 : Int32) (12 : Int32) (fun r4_1 => ((r4_1 = (0 : Int32)) → (post (-1 : Int32))) ∧ (¬ (r4_1 = (0 : Int32)) → (w_M_in a3 (0 : Int32) (3 : Int32) (fun r13_2 => ((r13_2 = (0 : Int32)) → (post (-1 : Int32))) ∧ (¬ (r13_2 = (0 : Int32)) → (((a3 = (1 : Int32)) → (w_M_above a1 (fun r27_13 => post r27_13))) ∧ (¬ (a3 = (1 : Int32)) → (((a3 = (2 : Int32)) → (w_M_elements a1 (fun r37_11 => post r37_11))) ∧ (¬ (a3 = (2 : Int32)) → (((a3 = (3 : Int32)) → (((a1 = (1 : Int32)) → (post (1 : Int32))) ∧ (¬ (a1 = (1 : Int32)) → (((a1 = (4 : Int32)) → (post (1 : Int32))) ∧ (¬ (a1 = (4 : Int32)) → (((a1 < (7 : Int32)) → (post (0 : Int32))) ∧ (¬ (a1 < (7 : Int32)) → (post (1 : Int32))))))))) ∧ (¬ (a3 = (3 : Int32)) → (w_M_in a2 (0 : Int32) (12 : Int32) (fun r72_3 => ((r72_3 = (0 : Int32)) → (post (-1 : Int32))) ∧ (¬ (r72_3 = (0 : Int32)) → (w_M_takes a1 a2 (fun r82_4 => ((r82_4 = (0 : Int32)) → (post (0 : Int32))) ∧ (¬ (r82_4 = (0 : Int32)) → (post (1 : Int32)))))))))))))))))))
set_option maxHeartbeats 8000000 in
set_option maxRecDepth 100000 in
theorem c_M_typed (l : Launch) (D : va_G) (A : Nat → Prop) (AM : Nat → Nat) (CM : Nat → ClassId) (M : MT) (a1 : Int32) (a2 : Int32) (a3 : Int32) (post : Int32 → Prop) (hq : w_M_typed M a1 a2 a3 post) : Met l y_M_typed (kw y_M_typed b_M_typed 4 (Option.some Jvm.ClassFile.FieldType.int)) ({ frames := 1, cells := 0, slots := 0, locals := 22 }) (kP D (tysM CM) A [.ref (AM 0), .int a1, .int a2, .int a3] (MW D A AM CM M)) (va_Qi (fun r (_ : Unit) => post r) (fun _ t => MW D A AM CM M t.heap) A) 0 0 A := by
  refine kmet_i (BB := (fun (_ : Unit) H => MW D A AM CM M H)) (lv := [(0, .ref (AM 0)), (1, .int a1), (2, .int a2), (3, .int a3)]) (by decide +kernel) rfl (Nat.le_of_ble_eq_true rfl) ?_
  intro p e s m args below meth c Q ls X hin hC hl hE
  have hx := X.x
  have hb := X.b
  have hS : va_S A s.heap s.heap [] := va_S.rf
  unfold w_M_typed at hq
  refine lv_iload_n hx hb d_M_typed_0 rfl (lv_at hl 1 rfl) ?_
  refine lv_iconst (v := (0 : Int32)) hx hb d_M_typed_1 (by decide) ?_
  refine lv_bipush (v := (12 : Int32)) hx hb d_M_typed_2 (by decide) ?_
  refine kci (BB := fun (_ : Unit) H => MW D A AM CM M H) (krS X hl.1 hS hC (c_M_in l D (tysM CM) A _ a1 (0 : Int32) (12 : Int32) _ hq) ki_M_in wd_422 wd_423 ⟨rfl, rfl, Nat.le_of_ble_eq_true rfl, Nat.le_of_ble_eq_true rfl⟩ rfl rfl (Nat.le_of_ble_eq_true rfl) d_M_typed_4 ⟨Nat.le_of_ble_eq_true rfl, Nat.le_of_ble_eq_true rfl⟩) hS (fun r4_1 _u H locs hq hC hS => ?_)
  refine lv_if_eq (tgt := 19) hx hb d_M_typed_7 (by decide) (fun c_16 => ?_) (fun c_16 => ?_)
  · have hq := hq.1 c_16
    refine lv_iconst (v := (-1 : Int32)) hx hb d_M_typed_19 (by decide) ?_
    exact hE (-1 : Int32) () _ _ _ _ _ ls hq hC hS (Nat.le_of_ble_eq_true rfl) (Nat.le_of_ble_eq_true rfl) d_M_typed_20
  · have hq := hq.2 c_16
    refine lv_iload_n hx hb d_M_typed_10 rfl (lv_at hl 3 rfl) ?_
    refine lv_iconst (v := (0 : Int32)) hx hb d_M_typed_11 (by decide) ?_
    refine lv_iconst (v := (3 : Int32)) hx hb d_M_typed_12 (by decide) ?_
    refine kci (BB := fun (_ : Unit) H => MW D A AM CM M H) (krS X hl.1 hS hC (c_M_in l D (tysM CM) A _ a3 (0 : Int32) (3 : Int32) _ hq) ki_M_in wd_422 wd_423 ⟨rfl, rfl, Nat.le_of_ble_eq_true rfl, Nat.le_of_ble_eq_true rfl⟩ rfl rfl (Nat.le_of_ble_eq_true rfl) d_M_typed_13 ⟨Nat.le_of_ble_eq_true rfl, Nat.le_of_ble_eq_true rfl⟩) hS (fun r13_2 _u H locs hq hC hS => ?_)
    refine lv_if_ne (tgt := 21) hx hb d_M_typed_16 (by decide) (fun c_15 => ?_) (fun c_15 => ?_)
    · have hq := hq.2 c_15
      refine lv_iload_n hx hb d_M_typed_21 rfl (lv_at hl 3 rfl) ?_
      refine lv_iconst (v := (1 : Int32)) hx hb d_M_typed_22 (by decide) ?_
      refine lv_icmp_ne (tgt := 31) hx hb d_M_typed_23 (by decide) (fun c_14 => ?_) (fun c_14 => ?_)
      · have hq := hq.2 c_14
        refine lv_iload_n hx hb d_M_typed_31 rfl (lv_at hl 3 rfl) ?_
        refine lv_iconst (v := (2 : Int32)) hx hb d_M_typed_32 (by decide) ?_
        refine lv_icmp_ne (tgt := 41) hx hb d_M_typed_33 (by decide) (fun c_12 => ?_) (fun c_12 => ?_)
        · have hq := hq.2 c_12
          refine lv_iload_n hx hb d_M_typed_41 rfl (lv_at hl 3 rfl) ?_
          refine lv_iconst (v := (3 : Int32)) hx hb d_M_typed_42 (by decide) ?_
          refine lv_icmp_ne (tgt := 68) hx hb d_M_typed_43 (by decide) (fun c_10 => ?_) (fun c_10 => ?_)
          · have hq := hq.2 c_10
            refine lv_iload_n hx hb d_M_typed_68 rfl (lv_at hl 2 rfl) ?_
            refine lv_iconst (v := (0 : Int32)) hx hb d_M_typed_69 (by decide) ?_
            refine lv_bipush (v := (12 : Int32)) hx hb d_M_typed_70 (by decide) ?_
            refine kci (BB := fun (_ : Unit) H => MW D A AM CM M H) (krS X hl.1 hS hC (c_M_in l D (tysM CM) A _ a2 (0 : Int32) (12 : Int32) _ hq) ki_M_in wd_422 wd_423 ⟨rfl, rfl, Nat.le_of_ble_eq_true rfl, Nat.le_of_ble_eq_true rfl⟩ rfl rfl (Nat.le_of_ble_eq_true rfl) d_M_typed_72 ⟨Nat.le_of_ble_eq_true rfl, Nat.le_of_ble_eq_true rfl⟩) hS (fun r72_3 _u H locs hq hC hS => ?_)
            refine lv_if_ne (tgt := 80) hx hb d_M_typed_75 (by decide) (fun c_6 => ?_) (fun c_6 => ?_)
            · have hq := hq.2 c_6
              refine lv_iload_n hx hb d_M_typed_80 rfl (lv_at hl 1 rfl) ?_
              refine lv_iload_n hx hb d_M_typed_81 rfl (lv_at hl 2 rfl) ?_
              refine kci (BB := fun (_ : Unit) H => MW D A AM CM M H) (krS X hl.1 hS hC (c_M_takes l D (tysM CM) A _ a1 a2 _ hq) ki_M_takes wd_565 wd_566 ⟨rfl, rfl, Nat.le_of_ble_eq_true rfl, Nat.le_of_ble_eq_true rfl⟩ rfl rfl (Nat.le_of_ble_eq_true rfl) d_M_typed_82 ⟨Nat.le_of_ble_eq_true rfl, Nat.le_of_ble_eq_true rfl⟩) hS (fun r82_4 _u H locs hq hC hS => ?_)
              refine lv_if_eq (tgt := 92) hx hb d_M_typed_85 (by decide) (fun c_5 => ?_) (fun c_5 => ?_)
              · have hq := hq.1 c_5
                refine lv_iconst (v := (0 : Int32)) hx hb d_M_typed_92 (by decide) ?_
                exact hE (0 : Int32) () _ _ _ _ _ ls hq hC hS (Nat.le_of_ble_eq_true rfl) (Nat.le_of_ble_eq_true rfl) d_M_typed_93
              · have hq := hq.2 c_5
                refine lv_iconst (v := (1 : Int32)) hx hb d_M_typed_88 (by decide) ?_
                refine lv_goto (tgt := 93) hx hb d_M_typed_89 (by decide) ?_
                exact hE (1 : Int32) () _ _ _ _ _ ls hq hC hS (Nat.le_of_ble_eq_true rfl) (Nat.le_of_ble_eq_true rfl) d_M_typed_93
            · have hq := hq.1 c_6
              refine lv_iconst (v := (-1 : Int32)) hx hb d_M_typed_78 (by decide) ?_
              exact hE (-1 : Int32) () _ _ _ _ _ ls hq hC hS (Nat.le_of_ble_eq_true rfl) (Nat.le_of_ble_eq_true rfl) d_M_typed_79
          · have hq := hq.1 c_10
            refine lv_iload_n hx hb d_M_typed_46 rfl (lv_at hl 1 rfl) ?_
            refine lv_iconst (v := (1 : Int32)) hx hb d_M_typed_47 (by decide) ?_
            refine lv_icmp_eq (tgt := 62) hx hb d_M_typed_48 (by decide) (fun c_9 => ?_) (fun c_9 => ?_)
            · have hq := hq.1 c_9
              refine lv_iconst (v := (1 : Int32)) hx hb d_M_typed_62 (by decide) ?_
              refine lv_goto (tgt := 67) hx hb d_M_typed_63 (by decide) ?_
              exact hE (1 : Int32) () _ _ _ _ _ ls hq hC hS (Nat.le_of_ble_eq_true rfl) (Nat.le_of_ble_eq_true rfl) d_M_typed_67
            · have hq := hq.2 c_9
              refine lv_iload_n hx hb d_M_typed_51 rfl (lv_at hl 1 rfl) ?_
              refine lv_iconst (v := (4 : Int32)) hx hb d_M_typed_52 (by decide) ?_
              refine lv_icmp_eq (tgt := 62) hx hb d_M_typed_53 (by decide) (fun c_8 => ?_) (fun c_8 => ?_)
              · have hq := hq.1 c_8
                refine lv_iconst (v := (1 : Int32)) hx hb d_M_typed_62 (by decide) ?_
                refine lv_goto (tgt := 67) hx hb d_M_typed_63 (by decide) ?_
                exact hE (1 : Int32) () _ _ _ _ _ ls hq hC hS (Nat.le_of_ble_eq_true rfl) (Nat.le_of_ble_eq_true rfl) d_M_typed_67
              · have hq := hq.2 c_8
                refine lv_iload_n hx hb d_M_typed_56 rfl (lv_at hl 1 rfl) ?_
                refine lv_bipush (v := (7 : Int32)) hx hb d_M_typed_57 (by decide) ?_
                refine lv_icmp_lt (tgt := 66) hx hb d_M_typed_59 (by decide) (fun c_7 => ?_) (fun c_7 => ?_)
                · have hq := hq.1 c_7
                  refine lv_iconst (v := (0 : Int32)) hx hb d_M_typed_66 (by decide) ?_
                  exact hE (0 : Int32) () _ _ _ _ _ ls hq hC hS (Nat.le_of_ble_eq_true rfl) (Nat.le_of_ble_eq_true rfl) d_M_typed_67
                · have hq := hq.2 c_7
                  refine lv_iconst (v := (1 : Int32)) hx hb d_M_typed_62 (by decide) ?_
                  refine lv_goto (tgt := 67) hx hb d_M_typed_63 (by decide) ?_
                  exact hE (1 : Int32) () _ _ _ _ _ ls hq hC hS (Nat.le_of_ble_eq_true rfl) (Nat.le_of_ble_eq_true rfl) d_M_typed_67
        · have hq := hq.1 c_12
          refine lv_iload_n hx hb d_M_typed_36 rfl (lv_at hl 1 rfl) ?_
          refine kci (BB := fun (_ : Unit) H => MW D A AM CM M H) (krS X hl.1 hS hC (c_M_elements l D (tysM CM) A _ a1 _ hq) ki_M_elements wd_562 wd_563 ⟨rfl, rfl, Nat.le_of_ble_eq_true rfl, Nat.le_of_ble_eq_true rfl⟩ rfl rfl (Nat.le_of_ble_eq_true rfl) d_M_typed_37 ⟨Nat.le_of_ble_eq_true rfl, Nat.le_of_ble_eq_true rfl⟩) hS (fun r37_11 _u H locs hq hC hS => ?_)
          exact hE r37_11 () _ _ _ _ _ ls hq hC hS (Nat.le_of_ble_eq_true rfl) (Nat.le_of_ble_eq_true rfl) d_M_typed_40
      · have hq := hq.1 c_14
        refine lv_iload_n hx hb d_M_typed_26 rfl (lv_at hl 1 rfl) ?_
        refine kci (BB := fun (_ : Unit) H => MW D A AM CM M H) (krS X hl.1 hS hC (c_M_above l D (tysM CM) A _ a1 _ hq) ki_M_above wd_559 wd_560 ⟨rfl, rfl, Nat.le_of_ble_eq_true rfl, Nat.le_of_ble_eq_true rfl⟩ rfl rfl (Nat.le_of_ble_eq_true rfl) d_M_typed_27 ⟨Nat.le_of_ble_eq_true rfl, Nat.le_of_ble_eq_true rfl⟩) hS (fun r27_13 _u H locs hq hC hS => ?_)
        exact hE r27_13 () _ _ _ _ _ ls hq hC hS (Nat.le_of_ble_eq_true rfl) (Nat.le_of_ble_eq_true rfl) d_M_typed_30
    · have hq := hq.1 c_15
      refine lv_iconst (v := (-1 : Int32)) hx hb d_M_typed_19 (by decide) ?_
      exact hE (-1 : Int32) () _ _ _ _ _ ls hq hC hS (Nat.le_of_ble_eq_true rfl) (Nat.le_of_ble_eq_true rfl) d_M_typed_20
