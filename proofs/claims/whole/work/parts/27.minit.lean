def fs0M : List Value := [.null, .null, .null, .null, .null, .null, .null, .null, .int 0, .null, .long 0, .long 0, .long 0, .double 0]
def MI0 (D : va_G) (A : Nat → Prop) (x : Nat) (H : Heap) : Prop := va_P D kcl [(x, .inr (6, [.null, .null, .null, .null, .null, .null, .null, .null, .int 0, .null, .long 0, .long 0, .long 0, .double 0]))] H ∧ va_D A [(x, .inr (6, [.null, .null, .null, .null, .null, .null, .null, .null, .int 0, .null, .long 0, .long 0, .long 0, .double 0]))]
set_option maxHeartbeats 8000000 in
set_option maxRecDepth 100000 in
theorem c_M_init (l : Launch) (D : va_G) (A : Nat → Prop) (CM : Nat → ClassId) (x : Nat) : Met l y_M_init (kw y_M_init b_M_init 1 (Option.none : Option Jvm.ClassFile.FieldType)) ({ frames := 1, cells := 9, slots := 4169, locals := 12 }) (va_Pc [.ref x] (fun U => (kf D (tysM CM) A U ∧ True) ∧ MI0 D A x U.heap)) (va_Qv (fun (AM : Nat → Nat) => AM 0 = x) (fun AM t => MW D A AM CM M0 t.heap) A) 9 4169 A := by
  refine kmetG (BB := fun (AM : Nat → Nat) H => MW D A AM CM M0 H) (lv := [(0, .ref x)]) (by decide +kernel) rfl (Nat.le_of_ble_eq_true rfl) ?_
  intro p e s m args below meth c Q ls X hin hG hC hl hE
  have hx := X.x
  have hb := X.b
  have hS : va_S A s.heap s.heap [] := va_S.rf
  refine lv_aload_n hx hb d_M_init_0 rfl (lv_at hl 0 rfl) ?_
  refine W.objInit (a := x) hx hb X.o (X.t _ wd_370) (X.t _ wd_16) (X.t _ wd_17) rfl (by rw [X.nl]; exact hl.1) rfl d_M_init_1 (Nat.le_of_ble_eq_true rfl) (Nat.le_of_ble_eq_true rfl) ?_
  refine W.eq (g2 := F0 m 4 ls []) rfl ?_
  obtain ⟨hP0, hD0⟩ := hC
  have hS0 := hS
  refine lv_aload_n hx hb d_M_init_4 rfl (lv_at hl 0 rfl) ?_
  refine lv_sipush (v := (520 : Int32)) hx hb d_M_init_5 (by decide) ?_
  refine va_newa (atype := .int) hx hb (X.t _ wd_415) (ty := .int) rfl X.K hP0 hD0 hS0 X.al (n := 520) (N' := 520) (a0 := (520, .inl (fun _ => 0))) (fun _ => rfl) (by decide) (by decide) (by decide) (Nat.le_of_ble_eq_true rfl) (Nat.le_of_ble_eq_true rfl) d_M_init_8 (fun q1 c1 H1 hK1 hPa1 hDa1 hSa1 => ?_)
  have e1 : c1 = CM 1 := Option.some.inj ((hK1.2 9 _ rfl).2.symm.trans (X.K.2 0 _ rfl).2)
  subst e1
  refine va_putF (D := D) (ci := 6) (v := .ref q1) (ty := .array .int) (C := N_M) (T := F_M) (N := 14) hx hb X.t in_M ft_M to_M nm_M X.o X.K hPa1 hDa1 hSa1 0 rfl rfl 0 (by decide) (X.t _ wd_372) (fun _ h => h) rfl hin rfl (by decide +kernel) rfl rfl (Nat.le_of_ble_eq_true rfl) d_M_init_10 (fun G1 locs1 hP1 hD1 hS1 => ?_)
  refine lv_aload_n hx hb d_M_init_13 rfl (lv_at hl 0 rfl) ?_
  refine lv_sipush (v := (520 : Int32)) hx hb d_M_init_14 (by decide) ?_
  refine va_newa (atype := .long) hx hb (X.t _ wd_416) (ty := .long) rfl X.K hP1 hD1 hS1 X.al (n := 520) (N' := 520) (a0 := (520, .inr (.inl (fun _ => 0)))) (fun _ => rfl) (by decide) (by decide) (by decide) (Nat.le_of_ble_eq_true rfl) (Nat.le_of_ble_eq_true rfl) d_M_init_17 (fun q2 c2 H2 hK2 hPa2 hDa2 hSa2 => ?_)
  have e2 : c2 = CM 2 := Option.some.inj ((hK2.2 9 _ rfl).2.symm.trans (X.K.2 1 _ rfl).2)
  subst e2
  refine va_putF (D := D) (ci := 6) (v := .ref q2) (ty := .array .long) (C := N_M) (T := F_M) (N := 14) hx hb X.t in_M ft_M to_M nm_M X.o X.K hPa2 hDa2 hSa2 0 rfl rfl 1 (by decide) (X.t _ wd_373) (fun _ h => h) rfl hin rfl (by decide +kernel) rfl rfl (Nat.le_of_ble_eq_true rfl) d_M_init_19 (fun G2 locs2 hP2 hD2 hS2 => ?_)
  refine lv_aload_n hx hb d_M_init_22 rfl (lv_at hl 0 rfl) ?_
  refine lv_sipush (v := (520 : Int32)) hx hb d_M_init_23 (by decide) ?_
  refine va_newa (atype := .double) hx hb (X.t _ wd_417) (ty := .double) rfl X.K hP2 hD2 hS2 X.al (n := 520) (N' := 520) (a0 := (520, .inr (.inr (.inr (.inl (fun _ => 0)))))) (fun _ => rfl) (by decide) (by decide) (by decide) (Nat.le_of_ble_eq_true rfl) (Nat.le_of_ble_eq_true rfl) d_M_init_26 (fun q3 c3 H3 hK3 hPa3 hDa3 hSa3 => ?_)
  have e3 : c3 = CM 3 := Option.some.inj ((hK3.2 9 _ rfl).2.symm.trans (X.K.2 2 _ rfl).2)
  subst e3
  refine va_putF (D := D) (ci := 6) (v := .ref q3) (ty := .array .double) (C := N_M) (T := F_M) (N := 14) hx hb X.t in_M ft_M to_M nm_M X.o X.K hPa3 hDa3 hSa3 0 rfl rfl 2 (by decide) (X.t _ wd_374) (fun _ h => h) rfl hin rfl (by decide +kernel) rfl rfl (Nat.le_of_ble_eq_true rfl) d_M_init_28 (fun G3 locs3 hP3 hD3 hS3 => ?_)
  refine lv_aload_n hx hb d_M_init_31 rfl (lv_at hl 0 rfl) ?_
  refine lv_sipush (v := (520 : Int32)) hx hb d_M_init_32 (by decide) ?_
  refine va_newa (atype := .int) hx hb (X.t _ wd_415) (ty := .int) rfl X.K hP3 hD3 hS3 X.al (n := 520) (N' := 520) (a0 := (520, .inl (fun _ => 0))) (fun _ => rfl) (by decide) (by decide) (by decide) (Nat.le_of_ble_eq_true rfl) (Nat.le_of_ble_eq_true rfl) d_M_init_35 (fun q4 c4 H4 hK4 hPa4 hDa4 hSa4 => ?_)
  have e4 : c4 = CM 4 := Option.some.inj ((hK4.2 9 _ rfl).2.symm.trans (X.K.2 3 _ rfl).2)
  subst e4
  refine va_putF (D := D) (ci := 6) (v := .ref q4) (ty := .array .int) (C := N_M) (T := F_M) (N := 14) hx hb X.t in_M ft_M to_M nm_M X.o X.K hPa4 hDa4 hSa4 0 rfl rfl 3 (by decide) (X.t _ wd_375) (fun _ h => h) rfl hin rfl (by decide +kernel) rfl rfl (Nat.le_of_ble_eq_true rfl) d_M_init_37 (fun G4 locs4 hP4 hD4 hS4 => ?_)
  refine lv_aload_n hx hb d_M_init_40 rfl (lv_at hl 0 rfl) ?_
  refine lv_sipush (v := (520 : Int32)) hx hb d_M_init_41 (by decide) ?_
  refine va_newa (atype := .int) hx hb (X.t _ wd_415) (ty := .int) rfl X.K hP4 hD4 hS4 X.al (n := 520) (N' := 520) (a0 := (520, .inl (fun _ => 0))) (fun _ => rfl) (by decide) (by decide) (by decide) (Nat.le_of_ble_eq_true rfl) (Nat.le_of_ble_eq_true rfl) d_M_init_44 (fun q5 c5 H5 hK5 hPa5 hDa5 hSa5 => ?_)
  have e5 : c5 = CM 5 := Option.some.inj ((hK5.2 9 _ rfl).2.symm.trans (X.K.2 4 _ rfl).2)
  subst e5
  refine va_putF (D := D) (ci := 6) (v := .ref q5) (ty := .array .int) (C := N_M) (T := F_M) (N := 14) hx hb X.t in_M ft_M to_M nm_M X.o X.K hPa5 hDa5 hSa5 0 rfl rfl 4 (by decide) (X.t _ wd_376) (fun _ h => h) rfl hin rfl (by decide +kernel) rfl rfl (Nat.le_of_ble_eq_true rfl) d_M_init_46 (fun G5 locs5 hP5 hD5 hS5 => ?_)
  refine lv_aload_n hx hb d_M_init_49 rfl (lv_at hl 0 rfl) ?_
  refine lv_sipush (v := (520 : Int32)) hx hb d_M_init_50 (by decide) ?_
  refine va_newa (atype := .int) hx hb (X.t _ wd_415) (ty := .int) rfl X.K hP5 hD5 hS5 X.al (n := 520) (N' := 520) (a0 := (520, .inl (fun _ => 0))) (fun _ => rfl) (by decide) (by decide) (by decide) (Nat.le_of_ble_eq_true rfl) (Nat.le_of_ble_eq_true rfl) d_M_init_53 (fun q6 c6 H6 hK6 hPa6 hDa6 hSa6 => ?_)
  have e6 : c6 = CM 6 := Option.some.inj ((hK6.2 9 _ rfl).2.symm.trans (X.K.2 5 _ rfl).2)
  subst e6
  refine va_putF (D := D) (ci := 6) (v := .ref q6) (ty := .array .int) (C := N_M) (T := F_M) (N := 14) hx hb X.t in_M ft_M to_M nm_M X.o X.K hPa6 hDa6 hSa6 0 rfl rfl 5 (by decide) (X.t _ wd_377) (fun _ h => h) rfl hin rfl (by decide +kernel) rfl rfl (Nat.le_of_ble_eq_true rfl) d_M_init_55 (fun G6 locs6 hP6 hD6 hS6 => ?_)
  refine lv_aload_n hx hb d_M_init_58 rfl (lv_at hl 0 rfl) ?_
  refine lv_sipush (v := (520 : Int32)) hx hb d_M_init_59 (by decide) ?_
  refine va_newa (atype := .int) hx hb (X.t _ wd_415) (ty := .int) rfl X.K hP6 hD6 hS6 X.al (n := 520) (N' := 520) (a0 := (520, .inl (fun _ => 0))) (fun _ => rfl) (by decide) (by decide) (by decide) (Nat.le_of_ble_eq_true rfl) (Nat.le_of_ble_eq_true rfl) d_M_init_62 (fun q7 c7 H7 hK7 hPa7 hDa7 hSa7 => ?_)
  have e7 : c7 = CM 7 := Option.some.inj ((hK7.2 9 _ rfl).2.symm.trans (X.K.2 6 _ rfl).2)
  subst e7
  refine va_putF (D := D) (ci := 6) (v := .ref q7) (ty := .array .int) (C := N_M) (T := F_M) (N := 14) hx hb X.t in_M ft_M to_M nm_M X.o X.K hPa7 hDa7 hSa7 0 rfl rfl 6 (by decide) (X.t _ wd_378) (fun _ h => h) rfl hin rfl (by decide +kernel) rfl rfl (Nat.le_of_ble_eq_true rfl) d_M_init_64 (fun G7 locs7 hP7 hD7 hS7 => ?_)
  refine lv_aload_n hx hb d_M_init_67 rfl (lv_at hl 0 rfl) ?_
  refine lv_sipush (v := (520 : Int32)) hx hb d_M_init_68 (by decide) ?_
  refine va_newa (atype := .int) hx hb (X.t _ wd_415) (ty := .int) rfl X.K hP7 hD7 hS7 X.al (n := 520) (N' := 520) (a0 := (520, .inl (fun _ => 0))) (fun _ => rfl) (by decide) (by decide) (by decide) (Nat.le_of_ble_eq_true rfl) (Nat.le_of_ble_eq_true rfl) d_M_init_71 (fun q8 c8 H8 hK8 hPa8 hDa8 hSa8 => ?_)
  have e8 : c8 = CM 8 := Option.some.inj ((hK8.2 9 _ rfl).2.symm.trans (X.K.2 7 _ rfl).2)
  subst e8
  refine va_putF (D := D) (ci := 6) (v := .ref q8) (ty := .array .int) (C := N_M) (T := F_M) (N := 14) hx hb X.t in_M ft_M to_M nm_M X.o X.K hPa8 hDa8 hSa8 0 rfl rfl 7 (by decide) (X.t _ wd_379) (fun _ h => h) rfl hin rfl (by decide +kernel) rfl rfl (Nat.le_of_ble_eq_true rfl) d_M_init_73 (fun G8 locs8 hP8 hD8 hS8 => ?_)
  refine lv_aload_n hx hb d_M_init_76 rfl (lv_at hl 0 rfl) ?_
  refine lv_bipush (v := (9 : Int32)) hx hb d_M_init_77 (by decide) ?_
  refine va_newa (atype := .int) hx hb (X.t _ wd_415) (ty := .int) rfl X.K hP8 hD8 hS8 X.al (n := 9) (N' := 9) (a0 := (9, .inl (fun _ => 0))) (fun _ => rfl) (by decide) (by decide) (by decide) (Nat.le_of_ble_eq_true rfl) (Nat.le_of_ble_eq_true rfl) d_M_init_79 (fun q9 c9 H9 hK9 hPa9 hDa9 hSa9 => ?_)
  have e9 : c9 = CM 9 := Option.some.inj ((hK9.2 9 _ rfl).2.symm.trans (X.K.2 8 _ rfl).2)
  subst e9
  refine va_putF (D := D) (ci := 6) (v := .ref q9) (ty := .array .int) (C := N_M) (T := F_M) (N := 14) hx hb X.t in_M ft_M to_M nm_M X.o X.K hPa9 hDa9 hSa9 0 rfl rfl 9 (by decide) (X.t _ wd_381) (fun _ h => h) rfl hin rfl (by decide +kernel) rfl rfl (Nat.le_of_ble_eq_true rfl) d_M_init_81 (fun G9 locs9 hP9 hD9 hS9 => ?_)
  refine lv_aload_n hx hb d_M_init_84 rfl (lv_at hl 0 rfl) ?_
  refine lv_ldc2 hx hb X.o (X.t _ wd_371) d_M_init_85 ?_
  refine va_put (D := D) (ci := 6) (v := .long 100) (ty := .long) (C := N_M) (T := F_M) (N := 14) hx hb X.t in_M ft_M to_M nm_M X.o X.K hP9 hD9 hS9 0 rfl rfl 10 (by decide) (X.t _ wd_382) (fun _ h => h) rfl (by decide +kernel) rfl rfl (Nat.le_of_ble_eq_true rfl) d_M_init_88 (fun G locs hP hD hS => ?_)
  exact hE (fun k => match k with | 0 => x | 1 => q1 | 2 => q2 | 3 => q3 | 4 => q4 | 5 => q5 | 6 => q6 | 7 => q7 | 8 => q8 | _ => q9) _ _ _ _ _ ls rfl ⟨hP, hD⟩ hS (Nat.le_of_ble_eq_true rfl) (Nat.le_of_ble_eq_true rfl) d_M_init_91
