/-! the law's entry -/
set_option maxHeartbeats 4000000 in
set_option maxRecDepth 100000 in
theorem law_at {p : Program} {s : State} {m : MethodId} {meth : Method} {c : Code} {b L : Nat} {xs : Nat → Int32} (C0 : lw_At p s m meth c b L xs) : ∃ (D : va_G) (cA : ClassId) (CM : Nat → ClassId), LC D cA CM p s m #[Value.ref b] c := by
  obtain ⟨hx, hb, hr, hml, hown, hts, hX, hbl, hlocks, hgv⟩ := C0
  have hg : ∀ w ∈ gd_tbl, w.before #[Value.ref b] s = true := fun w hw => hts w (List.mem_filter.mp hw).1
  have hv := flat_of_before _ hgv
  obtain ⟨e0, f0, k0⟩ := u_known (C := N_B) (T := F_B) (N := 3) hg in_B (hg _ wd_63)
  obtain ⟨e1, f1, k1⟩ := u_known (C := N_I) (T := F_I) (N := 6) hg in_I (hg _ wd_107)
  obtain ⟨e2, f2, k2⟩ := u_known (C := N_P) (T := F_P) (N := 0) hg in_P (hg _ wd_151)
  obtain ⟨e3, f3, k3⟩ := u_known (C := N_S) (T := F_S) (N := 7) hg in_S (hg _ wd_135)
  obtain ⟨e4, f4, k4⟩ := u_known (C := N_T) (T := F_T) (N := 1) hg in_T (hg _ wd_39)
  obtain ⟨e5, f5, k5⟩ := u_known (C := N_C) (T := F_C) (N := 3) hg in_C (hg _ wd_11)
  obtain ⟨e6, f6, k6⟩ := u_known (C := N_M) (T := F_M) (N := 14) hg in_M (hg _ wd_366)
  have hao : (Cond.arrayOver (.object "MemberInspection$Held")).before #[Value.ref b] s = true := hts _ (by decide +kernel)
  obtain ⟨comp, cH, kH', g1, g2, g3, g4, g5⟩ := Cond.arrayOver_spec (args := #[Value.ref b]) (first := s) (o := none) (s := s) (idx := []) hao
  obtain ⟨cI, kI, pI, i1, i2, i3⟩ := Cond.arrayClass_spec (args := #[Value.ref b]) (first := s) (o := none) (s := s) (idx := []) (hg _ wd_415)
  obtain ⟨cJ, kJ, pJ, j1, j2, j3⟩ := Cond.arrayClass_spec (args := #[Value.ref b]) (first := s) (o := none) (s := s) (idx := []) (hg _ wd_416)
  obtain ⟨cD, kD, pD, d1, d2, d3⟩ := Cond.arrayClass_spec (args := #[Value.ref b]) (first := s) (o := none) (s := s) (idx := []) (hg _ wd_417)
  have hI : ArrOfT s cI .int ∧ va_RA s cI .int := ⟨fun N z => ⟨(fun k h => by cases h), kI, i2, pI, i3⟩, i1⟩
  have hJ : ArrOfT s cJ .long ∧ va_RA s cJ .long := ⟨fun N z => ⟨(fun k h => by cases h), kJ, j2, pJ, j3⟩, j1⟩
  have hDd : ArrOfT s cD .double ∧ va_RA s cD .double := ⟨fun N z => ⟨(fun k h => by cases h), kD, d2, pD, d3⟩, d1⟩
  have hH : ArrOfT s cH (.object "MemberInspection$Held") ∧ va_RA s cH (.object "MemberInspection$Held") := ⟨fun N z => ⟨(fun k h => by cases h), kH', g3, comp, g4⟩, kH', comp, g3, g4, g1, g5⟩
  let D : va_G := (fun k => match k with | 0 => e0 | 1 => e1 | 2 => e2 | 3 => e3 | 4 => e4 | 5 => e5 | _ => e6, fun k => match k with | 0 => f0 | 1 => f1 | 2 => f2 | 3 => f3 | 4 => f4 | 5 => f5 | _ => f6)
  let CM : Nat → ClassId := fun k => match k with | 2 => cJ | 3 => cD | _ => cI
  have hKn : ∀ (k : Nat) (q : vw_C), kcl[k]? = some q → u_Kn s q.1 q.2.1 q.2.2 (D.1 k) (D.2 k) := by
    intro k q hq
    have hk : k < 7 := (List.getElem?_eq_some_iff.mp hq).1
    rcases (show k = 0 ∨ k = 1 ∨ k = 2 ∨ k = 3 ∨ k = 4 ∨ k = 5 ∨ k = 6 by omega) with rfl | rfl | rfl | rfl | rfl | rfl | rfl
    · cases hq
      exact k0
    · cases hq
      exact k1
    · cases hq
      exact k2
    · cases hq
      exact k3
    · cases hq
      exact k4
    · cases hq
      exact k5
    · cases hq
      exact k6
  have kC : va_K D kcl (tysC cH) s := ⟨hKn, fun k q hq => by
    have hk : k < 1 := (List.getElem?_eq_some_iff.mp hq).1
    have : k = 0 := by omega
    subst this
    cases hq
    exact hH⟩
  have kM : va_K D kcl (tysM CM) s := ⟨hKn, fun k q hq => by
    have hk : k < 9 := (List.getElem?_eq_some_iff.mp hq).1
    rcases (show k = 0 ∨ k = 1 ∨ k = 2 ∨ k = 3 ∨ k = 4 ∨ k = 5 ∨ k = 6 ∨ k = 7 ∨ k = 8 by omega) with rfl | rfl | rfl | rfl | rfl | rfl | rfl | rfl | rfl
    · cases hq
      exact hI
    · cases hq
      exact hJ
    · cases hq
      exact hDd
    · cases hq
      exact hI
    · cases hq
      exact hI
    · cases hq
      exact hI
    · cases hq
      exact hI
    · cases hq
      exact hI
    · cases hq
      exact hI⟩
  have hN : NF s := by
    have m1 : ∀ q ∈ nfF, Cond.fieldLinkNest q.1 q.2.1 q.2.2.1 q.2.2.2.1 q.2.2.2.2.1 q.2.2.2.2.2 ∈ lw_tbl := by decide +kernel
    have m2 : ∀ q ∈ nfM, Cond.methodLinkNest q.1 q.2.1 q.2.2.1 q.2.2.2 ∈ lw_tbl := by decide +kernel
    have m3 : ∀ q ∈ nfC, Cond.castable q.1 q.2 ∈ lw_tbl := by decide +kernel
    have m4 : ∀ q ∈ nfD, Cond.declares q ∈ lw_tbl := by decide +kernel
    have m5 : ∀ q ∈ nfN, Cond.not (.castable q.1 q.2) ∈ flatC (Jvm.Cond.and given_1 narrow_1) := by decide +kernel
    exact ⟨fun q hq => va_Nw.of rfl (hts _ (m1 q hq)), fun q hq => va_Nw.of rfl (hts _ (m2 q hq)), fun q hq => va_Nw.of rfl (hts _ (m3 q hq)), fun q hq => va_Nw.of rfl (hts _ (m4 q hq)), fun q hq => va_Nc.of (hv _ (m5 q hq))⟩
  have hS : ∀ A : Nat → Prop, (∀ q : Nat, q < s.heap.size → ¬ A q) → SF A s s.heap := by
    intro A hA q hq
    have n1 : ∀ q ∈ sfL, Cond.laysStatic "MemberInspection" q.1 "[I" ∈ lw_tbl := by decide +kernel
    have n2 : ∀ q ∈ sfL, Cond.arrayOf (Term.static "MemberInspection" q.1 "[I") .int ∈ flatC (Jvm.Cond.and given_1 narrow_1) := by decide +kernel
    have n3 : ∀ q ∈ sfL, Cond.eq (.length (Term.static "MemberInspection" q.1 "[I")) (.int (Int32.ofNat q.2.length)) ∈ flatC (Jvm.Cond.and given_1 narrow_1) := by decide +kernel
    have n4 : ∀ q ∈ sfL, ∀ j, j < q.2.length → Cond.eq (.elem (Term.static "MemberInspection" q.1 "[I") (.int (Int32.ofNat j))) (.int (q.2.getD j 0)) ∈ flatC (Jvm.Cond.and given_1 narrow_1) := by decide +kernel
    have n5 : ∀ q ∈ sfL, q.2.length < 2 ^ 31 := by decide +kernel
    obtain ⟨t, t1, t2⟩ := va_Tof (tm := Term.static "MemberInspection" q.1 "[I") (f := fun j => .int (q.2.getD j 0)) (A := A) (n5 q hq) (hv _ (n2 q hq)) (va_eqt (hv _ (n3 q hq))) (fun j hj => va_eqt (hv _ (n4 q hq j hj))) hA
    exact ⟨t, va_Zof (hts _ (n1 q hq)) (hg _ wd_1) t1 hA, t2⟩
  exact ⟨D, cH, CM, hx, hb, hml, hown, hg, kC, kM, hN, va_AO.of hao, hS⟩
