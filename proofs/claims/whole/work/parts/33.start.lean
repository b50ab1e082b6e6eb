theorem kblindG {D : va_G} {tys : List (ClassId × FieldType)} {A : Nat → Prop} {As : List Value} {G : State → Prop} {B : Heap → Prop} (hG : ∀ (u U : State), u.vm.Alike U.vm → G u → G U) : FrameBlind (va_Pc As (fun U => (kf D tys A U ∧ G U) ∧ B U.heap)) := fun a U g mk q => ⟨q.1, ⟨⟨va_K.moved (u := U) (U := U.calling g mk a) (Vm.Alike.refl U.vm) q.2.1.1.1, NF.same (u := U) (U := U.calling g mk a) rfl q.2.1.1.2.1, SF.moved (u := U) (U := U.calling g mk a) (Vm.Alike.refl U.vm) q.2.1.1.2.2.1, q.2.1.1.2.2.2⟩, hG U (U.calling g mk a) (Vm.Alike.refl U.vm) q.2.1.2⟩, q.2.2⟩
set_option maxHeartbeats 4000000 in
set_option maxRecDepth 100000 in
theorem whole_start {p : Program} {e : Env} {s : State} {m : MethodId} {below : List Frame} {meth : Method} {c : Code} (l : Launch) {b L : Nat} {xs : Nat → Int32} (hL : L ≤ 2560) (C0 : lw_At p s m meth c b L xs) : W p l e room_1 s m #[Value.ref b] below meth c s.heap [] 0 0 (lw_Z below #[Value.ref b] s) (entryFrame m ([Value.ref b] : List Value).toArray 4) := by
  obtain ⟨D, cA, CM, X⟩ := law_at C0
  obtain ⟨-, -, hr, -, -, -, hX, hbl, hlocks, -⟩ := C0
  have hl := lv_entry [Value.ref b] (n := 4) (Nat.le_of_ble_eq_true rfl)
  rw [lg_entry_eq]
  generalize (lg_sl [Value.ref b] ++ List.replicate (4 - (lg_sl [Value.ref b]).length) Slot.unset).toArray = ls at hl ⊢
  have hl : lv_has ls 4 [(0, .ref b)] := hl
  have kC := X.2.2.2.2.2.1
  have kM := X.2.2.2.2.2.2.1
  have hg := X.2.2.2.2.1
  have hS0 : va_S (AL s) s.heap s.heap [] := va_S.rf
  have hP0 : va_P D kcl [] s.heap := fun k q h => by simp at h
  have hD0 : va_D (AL s) [] := ⟨fun i j a b h => by simp at h, fun k q h => by simp at h⟩
  refine va_new (own := "MemberInspectionLaw") (C := N_C) (T := F_C) (N := 3) (ci := 5) (Ts := gd_tbl) (fs := [.null, .long 0, .long 0]) X.1 X.2.1 hg in_C ft_C to_C X.2.2.2.1 (hg _ wd_10) (hg _ wd_11) (hg _ wd_1) kC hP0 hD0 hS0 (fun q h => h) rfl (fun j hj => match j, hj with
    | 0, _ => rfl
    | 1, _ => rfl
    | 2, _ => rfl
    | k + 3, h => absurd h (by omega)) (Nat.le_of_ble_eq_true rfl) (Nat.le_of_ble_eq_true rfl) d_L_law_0 (fun x H1 hP1 hD1 hS1 => ?_)
  refine lv_dup X.1 X.2.1 d_L_law_3 rfl ?_
  refine va_callv (va_runI (free := AL s) (As := []) ⟨X.1, X.2.1, X.2.2.1, X.2.2.2.1, hg⟩ (c_C_init l D (AL s) cA x) (cwI 0 hg (kgood ki_C_init) rfl rfl rfl (hg _ ki_C_init.2.1) (hg _ wd_12) (hg _ wd_13) rfl ki_C_init.2.2 ⟨Nat.le_of_ble_eq_true rfl, Nat.le_of_ble_eq_true rfl⟩) ⟨kblindG (fun u U h q => va_AO.moved h q), fun U hU hW => ⟨rfl, by
      obtain ⟨q1, q2⟩ := lpre (A := AL s) (B := CI0 D (AL s) x) X kC hS1 (fun q h => h) (fun q h => Nat.le_trans hS1.1 h) ⟨hP1, hD1⟩ U hU hW
      exact ⟨⟨q1, va_AO.moved hW.alike X.2.2.2.2.2.2.2.2.1⟩, q2⟩⟩⟩ rfl rfl hl.1 rfl (lv_room (Nat.le_of_ble_eq_true rfl)) d_L_law_4 ⟨Nat.le_of_ble_eq_true rfl, Nat.le_of_ble_eq_true rfl⟩) hS1 (fun q _ h => h) (fun q h => h) (fun hs t2 H2 locs2 et2 _ _ hC2 hz2 hk2 hS2 => ?_)
  rw [et2] at hC2
  refine lv_astore_n (lv' := [(1, .ref x), (0, .ref b)]) X.1 X.2.1 d_L_law_7 rfl hl (by decide) rfl (fun ls1 hl1 => ?_)
  refine va_new (own := "MemberInspectionLaw") (C := N_M) (T := F_M) (N := 14) (ci := 6) (Ts := gd_tbl) (fs := fs0M) X.1 X.2.1 hg in_M ft_M to_M X.2.2.2.1 (hg _ wd_365) (hg _ wd_366) (hg _ wd_2) kC hC2.1 hC2.2 hS2 (fun q h => h) rfl (fun j hj => match j, hj with
    | 0, _ => rfl
    | 1, _ => rfl
    | 2, _ => rfl
    | 3, _ => rfl
    | 4, _ => rfl
    | 5, _ => rfl
    | 6, _ => rfl
    | 7, _ => rfl
    | 8, _ => rfl
    | 9, _ => rfl
    | 10, _ => rfl
    | 11, _ => rfl
    | 12, _ => rfl
    | 13, _ => rfl
    | k + 14, h => absurd h (by omega)) (Nat.le_of_ble_eq_true rfl) (Nat.le_of_ble_eq_true rfl) d_L_law_8 (fun y H3 hP3 hD3 hS3 => ?_)
  have hlast : (cw x hs cA K0 ++ [(y, (.inr (6, fs0M) : va_E))])[(cw x hs cA K0).length]? = some (y, .inr (6, fs0M)) := by simp
  have hfst : ∀ (k : Nat) (q : Nat × va_E), (cw x hs cA K0)[k]? = some q → (cw x hs cA K0 ++ [(y, (.inr (6, fs0M) : va_E))])[k]? = some q := fun k q hq => by
    rw [List.getElem?_append_left (List.getElem?_eq_some_iff.mp hq).1]
    exact hq
  have hPc : va_P D kcl (cw x hs cA K0) H3 := fun k q hq => hP3 k q (hfst k q hq)
  have hyA : AL s y := hD3.2 _ _ hlast
  have hylt : y < H3.size := (hP3 _ _ hlast).lt
  have hne : ∀ (k : Nat) (q : Nat × va_E), (cw x hs cA K0)[k]? = some q → q.1 ≠ y ∧ q.1 < H3.size := fun k q hq => by
    refine ⟨fun e => ?_, (hPc k q hq).lt⟩
    have := hD3.1 k _ q _ (hfst k q hq) hlast e
    have := (List.getElem?_eq_some_iff.mp hq).1
    omega
  have hPm : va_P D kcl [(y, .inr (6, fs0M))] H3 := fun k q hq => by
    have hk : k < 1 := (List.getElem?_eq_some_iff.mp hq).1
    have : k = 0 := by omega
    subst this
    cases hq
    exact hP3 _ _ hlast
  have hDm : va_D (fun q => q = y ∨ H3.size ≤ q) [(y, .inr (6, fs0M))] := ⟨fun i j a d hi hj _ => by
    have hi : i < 1 := (List.getElem?_eq_some_iff.mp hi).1
    have hj : j < 1 := (List.getElem?_eq_some_iff.mp hj).1
    omega, fun k q hq => by
    have hk : k < 1 := (List.getElem?_eq_some_iff.mp hq).1
    have : k = 0 := by omega
    subst this
    cases hq
    exact Or.inl rfl⟩
  have hA1 : ∀ q, (q = y ∨ H3.size ≤ q) → AL s q := fun q h => by
    rcases h with h | h
    · exact h ▸ hyA
    · exact Nat.le_trans hS3.1 h
  refine lv_dup X.1 X.2.1 d_L_law_11 rfl ?_
  refine va_callv (va_runI (free := fun q => q = y ∨ H3.size ≤ q) (As := []) ⟨X.1, X.2.1, X.2.2.1, X.2.2.2.1, hg⟩ (c_M_init l D (fun q => q = y ∨ H3.size ≤ q) CM y) (cwI 0 hg (kgood ki_M_init) rfl rfl rfl (hg _ ki_M_init.2.1) (hg _ wd_367) (hg _ wd_368) rfl ki_M_init.2.2 ⟨Nat.le_of_ble_eq_true rfl, Nat.le_of_ble_eq_true rfl⟩) ⟨kblindG (fun u U h q => q), fun U hU hW => ⟨rfl, by
      obtain ⟨q1, q2⟩ := lpre (A := fun q => q = y ∨ H3.size ≤ q) (B := MI0 D (fun q => q = y ∨ H3.size ≤ q) y) X kM hS3 (fun q h => hA1 q h) (fun q h => Or.inr h) ⟨hPm, hDm⟩ U hU hW
      exact ⟨⟨q1, trivial⟩, q2⟩⟩⟩ rfl rfl hl1.1 rfl (lv_room (Nat.le_of_ble_eq_true rfl)) d_L_law_12 ⟨Nat.le_of_ble_eq_true rfl, Nat.le_of_ble_eq_true rfl⟩) hS3 (fun q _ h => hA1 q h) (fun q h => hA1 q h) (fun AM t4 H4 locs4 et4 _ hAM0 hM4 hz4 hk4 hS4 => ?_)
  rw [et4] at hM4
  have hAMk : ∀ k : Nat, k < 10 → (AM k = y ∨ H3.size ≤ AM k) ∧ AM k < H4.size := fun k hk => by
    obtain ⟨q, h1, h2⟩ := mw_in AM CM M0 hk
    rw [← h2]
    exact ⟨hM4.2.2 k q h1, (hM4.1 k q h1).lt⟩
  have I : LI D cA CM s x hs AM H4 locs4 K0 M0 := by
    refine ⟨hS4, ⟨hPc.kept (fun k q hq => hk4 q.1 (hne k q hq).2 (fun h => ?_)), hC2.2.1, fun k q hq => ⟨hC2.2.2 k q hq, fun j hj e => ?_⟩⟩, ⟨hM4.1, mw_AO hM4.2⟩, fun k hk => ⟨hA1 _ (hAMk k hk).1, (hAMk k hk).2⟩⟩
    · rcases h with h | h
      · exact (hne k q hq).1 h
      · have := (hne k q hq).2
        omega
    · rcases (hAMk j hj).1 with h | h
      · exact (hne k q hq).1 (e.trans h)
      · have := (hne k q hq).2
        omega
  rw [← hAM0]
  refine lv_astore_n (lv' := [(2, .ref (AM 0)), (1, .ref x), (0, .ref b)]) X.1 X.2.1 d_L_law_15 rfl hl1 (by decide) rfl (fun ls2 hl2 => ?_)
  refine lv_iconst (v := (0 : Int32)) X.1 X.2.1 d_L_law_16 (by decide) ?_
  refine lv_istore_n (lv' := [(3, .int 0), (2, .ref (AM 0)), (1, .ref x), (0, .ref b)]) X.1 X.2.1 d_L_law_17 rfl hl2 (by decide) rfl (fun ls3 hl3 => ?_)
  exact law_loop hr hlocks X hX hbl hL 512 0 H4 locs4 _ _ K0 M0 ls3 (by omega) (by omega) I sim_0 hl3 (by decide) (by decide)
