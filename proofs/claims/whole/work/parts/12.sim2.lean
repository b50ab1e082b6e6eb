theorem nI_nm1 (j : Nat) (hj : j < 2 ^ 31) : ¬ nI j < -1 := by
  rw [Int32.lt_iff_toInt_lt, nI_toInt hj, show (-1 : Int32).toInt = -1 from rfl]
  omega
theorem lt_m1 {a : Int32} (h : a < 0) (e : ¬ a = -1) : a < -1 := by
  rw [Int32.lt_iff_toInt_lt, show (-1 : Int32).toInt = -1 from rfl]
  rw [Int32.lt_iff_toInt_lt, show (0 : Int32).toInt = 0 from rfl] at h
  have : a.toInt ≠ -1 := fun q => e (Int32.toInt_inj.mp q)
  omega
theorem sim_last {N : Nat} {K : KT} {M : MT} (hS : Sim N K M) : w_C_last K (fun r => w_M_last M (fun r' => r = r')) := by
  obtain ⟨n, ad, hn, ho, hs, hl, hC⟩ := hS
  exact hl
theorem sim_hold {N : Nat} {K : KT} {M : MT} (hS : Sim N K M) (a1 a2 : Int32) : w_C_hold K a1 a2 (fun r K' => w_M_hold M a1 a2 (fun r' M' => r = r' ∧ Sim N K' M')) := by
  have hS0 := hS
  obtain ⟨n, ad, hn, ho, hs, hl, hC⟩ := hS
  unfold w_C_hold w_M_hold
  rcases ixs a1 (n := 8) (by omega) with ⟨h, hh, rfl⟩ | h1
  · have c1 : ¬ nI h < 0 := nI_pos (by omega)
    have c2 : ¬ (8 : Int32) ≤ nI h := nI_ge (b := 8) hh (by omega)
    have c3 : ¬ (7 : Int32) < nI h := nI_nlt (b := h) (a := 7) (by omega) (by omega)
    have v1 : vp_in (nI h) 9 := vp_in_nI (by omega) (by omega)
    rw [nI_clamp (show h < 2 ^ 31 by omega)]
    refine pC_below c1 c2 (br_f n01 ?_)
    by_cases e : a2 = -1
    · subst e
      refine br_t rfl (br_t rfl ⟨(fun a e => by cases e), v1, ?_⟩)
      refine pM_in c1 c3 (br_f n01 ?_)
      refine pM_in (by decide) (by decide) (br_f n01 ?_)
      refine br_f (by decide) ⟨v1, rfl, n, ad, hn, ho, hs, rfl, sc_held hC ⟨0, by omega, rfl, rfl⟩⟩
    · refine br_f e ?_
      rcases ixs a2 (n := 9) (by omega) with ⟨j, hj, rfl⟩ | h2
      · have v2 : vp_in (nI j) 9 := vp_in_nI hj (by omega)
        rw [nI_clamp (show j < 2 ^ 31 by omega)]
        refine pC_below (nI_pos (by omega)) (nI_ge (b := 9) hj (by omega)) (br_f n01 (br_f e ⟨v2, fun r er => ?_⟩))
        obtain ⟨i, hi, x1, x2⟩ := sc_hand hC hj
        have er : r = rfi ad i := er.trans x2
        subst er
        refine ⟨sv_ok hC hi, v1, ?_⟩
        refine pM_in c1 c3 (br_f n01 ?_)
        refine pM_in (nI_nm1 j (by omega)) (nI_nlt (b := j) (a := 8) (by omega) (by omega)) (br_f n01 ?_)
        exact br_t (nI_pos' (by omega)) ⟨v2, v1, rfl, n, ad, hn, ho, hs, rfl, sc_held hC ⟨i, hi, x1, rfl⟩⟩
      · refine pC_nbelow h2 (br_t rfl ?_)
        refine pM_in c1 c3 (br_f n01 ?_)
        refine pM_nin ?_ (br_t rfl ⟨rfl, hS0⟩)
        rcases h2 with q | q
        · exact Or.inl (lt_m1 q e)
        · exact ix_lt (n := 8) (by omega) (Or.inr q) |>.imp (fun z => lt_m1 z e) id
  · exact pC_nbelow h1 (br_t rfl (pM_nin (ix_lt (n := 7) (by omega) h1) (br_t rfl ⟨rfl, hS0⟩)))
theorem sim_typed {N : Nat} {K : KT} {M : MT} (hS : Sim N K M) (a1 a2 a3 : Int32) : w_C_typed K a1 a2 a3 (fun r => w_M_typed M a1 a2 a3 (fun r' => r = r')) := by
  unfold w_C_typed w_M_typed
  rcases ixs a1 (n := 13) (by omega) with ⟨i, hi, rfl⟩ | h1
  · have c1 : ¬ nI i < 0 := nI_pos (by omega)
    have c2 : ¬ (13 : Int32) ≤ nI i := nI_ge (b := 13) hi (by omega)
    have c3 : ¬ (12 : Int32) < nI i := nI_nlt (b := i) (a := 12) (by omega) (by omega)
    rw [nI_clamp (show i < 2 ^ 31 by omega)]
    refine pC_below c1 c2 (br_f n01 ?_)
    by_cases z0 : a3 = 0
    · subst z0
      refine br_t rfl ?_
      unfold w_C_typedTakes
      rcases ixs a2 (n := 13) (by omega) with ⟨j, hj, rfl⟩ | h2
      · refine pC_below (nI_pos (by omega)) (nI_ge (b := 13) hj (by omega)) (br_f n01 (pC_takes hi hj ?_))
        have key : ∀ v : Int32, v = (if tkf i j then 1 else 0) → w_M_in (nI i) 0 12 (fun r4_1 => ((r4_1 = (0 : Int32)) → ((v = (-1 : Int32)))) ∧ (¬ (r4_1 = (0 : Int32)) → (w_M_in 0 (0 : Int32) (3 : Int32) (fun r13_2 => ((r13_2 = (0 : Int32)) → ((v = (-1 : Int32)))) ∧ (¬ (r13_2 = (0 : Int32)) → ((((0 : Int32) = (1 : Int32)) → (w_M_above (nI i) (fun r27_13 => v = r27_13))) ∧ (¬ ((0 : Int32) = (1 : Int32)) → ((((0 : Int32) = (2 : Int32)) → (w_M_elements (nI i) (fun r37_11 => v = r37_11))) ∧ (¬ ((0 : Int32) = (2 : Int32)) → ((((0 : Int32) = (3 : Int32)) → (((nI i = (1 : Int32)) → (v = (1 : Int32))) ∧ (¬ (nI i = (1 : Int32)) → (((nI i = (4 : Int32)) → (v = (1 : Int32))) ∧ (¬ (nI i = (4 : Int32)) → (((nI i < (7 : Int32)) → (v = (0 : Int32))) ∧ (¬ (nI i < (7 : Int32)) → (v = (1 : Int32))))))))) ∧ (¬ ((0 : Int32) = (3 : Int32)) → (w_M_in (nI j) (0 : Int32) (12 : Int32) (fun r72_3 => ((r72_3 = (0 : Int32)) → (v = (-1 : Int32))) ∧ (¬ (r72_3 = (0 : Int32)) → (w_M_takes (nI i) (nI j) (fun r82_4 => ((r82_4 = (0 : Int32)) → (v = (0 : Int32))) ∧ (¬ (r82_4 = (0 : Int32)) → (v = (1 : Int32))))))))))))))))))) := by
          intro v hv
          refine pM_in c1 c3 (br_f n01 (pM_in (by decide) (by decide) (br_f n01 (br_f (by decide) (br_f (by decide) (br_f (by decide) ?_))))))
          refine pM_in (nI_pos (by omega)) (nI_nlt (b := j) (a := 12) (by omega) (by omega)) (br_f n01 (pM_takes hi hj ?_))
          rw [hv]
          cases tkf i j
          · exact br_t rfl rfl
          · exact br_f (by decide) rfl
        have kk := fun v hv => key v hv
        cases hb : tkf i j
        · exact br_t rfl (kk 0 (by rw [hb]; rfl))
        · exact br_f (by decide) (kk 1 (by rw [hb]; rfl))
      · refine pC_nbelow h2 (br_t rfl ?_)
        refine pM_in c1 c3 (br_f n01 (pM_in (by decide) (by decide) (br_f n01 (br_f (by decide) (br_f (by decide) (br_f (by decide) ?_))))))
        exact pM_nin (ix_lt (n := 12) (by omega) h2) (br_t rfl rfl)
    · refine br_f z0 ?_
      by_cases z1 : a3 = 1
      · subst z1
        refine br_t rfl ⟨vp_in_nI (N := 13) hi (by omega), ?_⟩
        refine pM_in c1 c3 (br_f n01 (pM_in (by decide) (by decide) (br_f n01 (br_t rfl ?_))))
        exact m_M_above (dM_above i hi) (fun _ e => e.symm)
      · refine br_f z1 ?_
        by_cases z2 : a3 = 2
        · subst z2
          refine br_t rfl ⟨vp_in_nI (N := 13) hi (by omega), ?_⟩
          refine pM_in c1 c3 (br_f n01 (pM_in (by decide) (by decide) (br_f n01 (br_f (by decide) (br_t rfl ?_)))))
          exact m_M_elements (dM_elements i hi) (fun _ e => e.symm)
        · refine br_f z2 ?_
          by_cases z3 : a3 = 3
          · subst z3
            refine br_t rfl ⟨vp_in_nI (N := 13) hi (by omega), ?_⟩
            refine pM_in c1 c3 (br_f n01 (pM_in (by decide) (by decide) (br_f n01 (br_f (by decide) (br_f (by decide) (br_t rfl ?_))))))
            have t : ∀ i, i < 13 → (((nI i) = (1 : Int32)) → (sf_ABSTRACT_TYPES.getD i 0 = (1 : Int32))) ∧ (¬ ((nI i) = (1 : Int32)) → ((((nI i) = (4 : Int32)) → (sf_ABSTRACT_TYPES.getD i 0 = (1 : Int32))) ∧ (¬ ((nI i) = (4 : Int32)) → ((((nI i) < (7 : Int32)) → (sf_ABSTRACT_TYPES.getD i 0 = (0 : Int32))) ∧ (¬ ((nI i) < (7 : Int32)) → (sf_ABSTRACT_TYPES.getD i 0 = (1 : Int32))))))) := by decide +kernel
            exact t i hi
          · refine br_f z3 ?_
            refine pM_in c1 c3 (br_f n01 ?_)
            rcases ixs a3 (n := 4) (by omega) with ⟨j, hj, rfl⟩ | h3
            · rcases (show j = 0 ∨ j = 1 ∨ j = 2 ∨ j = 3 by omega) with rfl | rfl | rfl | rfl
              · exact absurd rfl z0
              · exact absurd rfl z1
              · exact absurd rfl z2
              · exact absurd rfl z3
            · exact pM_nin (ix_lt (n := 3) (by omega) h3) (br_t rfl rfl)
  · exact pC_nbelow h1 (br_t rfl (pM_nin (ix_lt (n := 12) (by omega) h1) (br_t rfl rfl)))
