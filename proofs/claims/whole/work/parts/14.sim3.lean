theorem sim_put {N : Nat} {K : KT} {M : MT} (hN : N + 1 < 520) (hS : Sim N K M) (a1 a2 : Int32) (a3 : Int64) : w_C_put K a1 a2 a3 (fun r K' => w_M_put M a1 a2 a3 (fun r' M' => r = r' ∧ Sim (N + 1) K' M')) := by
  have hS0 := hS.up (Nat.le_succ N)
  obtain ⟨n, ad, hn, ho, hs, hl, hC⟩ := hS
  unfold w_C_put w_M_put
  rcases ixs a1 (n := 8) (by omega) with ⟨h, hh, rfl⟩ | h1
  · have c1 : ¬ nI h < 0 := nI_pos (by omega)
    have c2 : ¬ (8 : Int32) ≤ nI h := nI_ge (b := 8) hh (by omega)
    have c3 : ¬ (7 : Int32) < nI h := nI_nlt (b := h) (a := 7) (by omega) (by omega)
    have v1 : vp_in (nI h) 9 := vp_in_nI (by omega) (by omega)
    refine pC_below c1 c2 (br_f n01 ?_)
    rcases ixs a2 (n := 9) (by omega) with ⟨k, hk, rfl⟩ | h2
    · have d1 : ¬ nI k < 0 := nI_pos (by omega)
      have d3 : ¬ (8 : Int32) < nI k := nI_nlt (b := k) (a := 8) (by omega) (by omega)
      refine pC_below d1 (nI_ge (b := 9) hk (by omega)) (br_f n01 ?_)
      by_cases e8 : k = 8
      · subst e8
        refine br_t rfl (fun q hq => ?_)
        obtain ⟨t, ht, hf, hm⟩ := kfm10 a3
        refine hf _ (rC_T ⟨okR_new (by decide), v1, ?_⟩)
        refine pM_in c1 c3 (br_f n01 (pM_in d1 d3 (br_f n01 (br_t rfl ?_))))
        refine rM_create ho (by omega) ⟨by decide, by decide, vp_in_nI (by omega) (by omega), v1, rfl, ?_⟩
        rw [hm, nI_clamp (show n + 1 < 2 ^ 31 by omega)]
        exact sim_made (M := M) hn hs hC hq rfl rfl rfl rfl rfl rfl rfl rfl rfl (fun i hi => pk_un hi) (fun i hi => pk_uLn hi) (fun _ _ => rfl) (fun _ _ => rfl) rfl rfl rfl rfl pk_us pk_uLs rfl rfl (Or.inr (Or.inl ⟨t, ht, rfl, rfl, lN_i t, rfl⟩))
      · have e8' : ¬ nI k = 8 := fun e => e8 (nI_inj (b := 8) (by omega) (by omega) e)
        refine br_f e8' ?_
        unfold w_C_boxMade w_M_put_b87 w_M_put_b100 w_M_put_b114 w_M_put_b127 w_M_put_b139 w_M_put_b155 w_M_put_b171
        rcases (show k = 0 ∨ k = 1 ∨ k = 2 ∨ k = 3 ∨ k = 4 ∨ k = 5 ∨ k = 6 ∨ k = 7 by omega) with rfl | rfl | rfl | rfl | rfl | rfl | rfl | rfl
        · repeat (first | refine br_t (by decide) ?_ | refine br_f (by decide) ?_)
          refine rC_boxW (fun q hq => ⟨okR_new (by decide), v1, ?_⟩)
          refine pM_in c1 c3 (br_f n01 (pM_in d1 d3 (br_f n01 ?_)))
          repeat (first | refine br_t (by decide) ?_ | refine br_f (by decide) ?_)
          refine rM_box (k := 0) ho (by omega) ⟨v1, rfl, ?_⟩
          exact sim_box (k := 0) hn hs hC hq (by decide) (fun _ => ⟨rfl, rfl, rng_0 a3⟩) (fun h => absurd h (by decide))
        · repeat (first | refine br_t (by decide) ?_ | refine br_f (by decide) ?_)
          refine rC_boxW (fun q hq => ⟨okR_new (by decide), v1, ?_⟩)
          refine pM_in c1 c3 (br_f n01 (pM_in d1 d3 (br_f n01 ?_)))
          repeat (first | refine br_t (by decide) ?_ | refine br_f (by decide) ?_)
          refine rM_box (k := 1) ho (by omega) ⟨v1, rfl, ?_⟩
          exact sim_box (k := 1) hn hs hC hq (by decide) (fun _ => ⟨rfl, rfl, rng_1 a3.toInt32.toInt8⟩) (fun h => absurd h (by decide))
        · repeat (first | refine br_t (by decide) ?_ | refine br_f (by decide) ?_)
          refine rC_boxW (fun q hq => ⟨okR_new (by decide), v1, ?_⟩)
          refine pM_in c1 c3 (br_f n01 (pM_in d1 d3 (br_f n01 ?_)))
          repeat (first | refine br_t (by decide) ?_ | refine br_f (by decide) ?_)
          refine rM_box (k := 2) ho (by omega) ⟨v1, rfl, ?_⟩
          exact sim_box (k := 2) hn hs hC hq (by decide) (fun _ => ⟨rfl, rfl, rng_2 a3⟩) (fun h => absurd h (by decide))
        · repeat (first | refine br_t (by decide) ?_ | refine br_f (by decide) ?_)
          refine rC_boxW (fun q hq => ⟨okR_new (by decide), v1, ?_⟩)
          refine pM_in c1 c3 (br_f n01 (pM_in d1 d3 (br_f n01 ?_)))
          repeat (first | refine br_t (by decide) ?_ | refine br_f (by decide) ?_)
          refine rM_box (k := 3) ho (by omega) ⟨v1, rfl, ?_⟩
          exact sim_box (k := 3) hn hs hC hq (by decide) (fun _ => ⟨rfl, rfl, rng_3 a3.toInt32.toInt16⟩) (fun h => absurd h (by decide))
        · repeat (first | refine br_t (by decide) ?_ | refine br_f (by decide) ?_)
          refine rC_boxW (fun q hq => ⟨okR_new (by decide), v1, ?_⟩)
          refine pM_in c1 c3 (br_f n01 (pM_in d1 d3 (br_f n01 ?_)))
          repeat (first | refine br_t (by decide) ?_ | refine br_f (by decide) ?_)
          refine rM_box (k := 4) ho (by omega) ⟨v1, rfl, ?_⟩
          exact sim_box (k := 4) hn hs hC hq (by decide) (fun _ => ⟨rfl, rfl, rng_4 a3.toInt32⟩) (fun h => absurd h (by decide))
        · repeat (first | refine br_t (by decide) ?_ | refine br_f (by decide) ?_)
          refine rC_boxW (fun q hq => ⟨okR_new (by decide), v1, ?_⟩)
          refine pM_in c1 c3 (br_f n01 (pM_in d1 d3 (br_f n01 ?_)))
          repeat (first | refine br_t (by decide) ?_ | refine br_f (by decide) ?_)
          refine rM_box (k := 5) ho (by omega) ⟨v1, rfl, ?_⟩
          exact sim_box (k := 5) hn hs hC hq (by decide) (fun _ => ⟨rfl, rfl, rng_5 a3⟩) (fun h => absurd h (by decide))
        · repeat (first | refine br_t (by decide) ?_ | refine br_f (by decide) ?_)
          refine ⟨fp_ef (fp_l2f a3), fp_f2d (fp_ef (fp_l2f a3)), rC_boxR (fun q hq => ⟨okR_new (by decide), v1, ?_⟩)⟩
          refine pM_in c1 c3 (br_f n01 (pM_in d1 d3 (br_f n01 ?_)))
          repeat (first | refine br_t (by decide) ?_ | refine br_f (by decide) ?_)
          refine ⟨fp_ef (fp_l2f a3), fp_f2d (fp_ef (fp_l2f a3)), ?_⟩
          repeat (first | refine br_t (by decide) ?_ | refine br_f (by decide) ?_)
          refine rM_box (k := 6) ho (by omega) ⟨v1, rfl, ?_⟩
          exact sim_box (k := 6) hn hs hC hq (by decide) (fun h => absurd h (by decide)) (fun _ => ⟨rfl, fp_f2d (fp_ef (fp_l2f a3))⟩)
        · repeat (first | refine br_t (by decide) ?_ | refine br_f (by decide) ?_)
          refine ⟨fp_e (fp_l2d a3), rC_boxR (fun q hq => ⟨okR_new (by decide), v1, ?_⟩)⟩
          refine pM_in c1 c3 (br_f n01 (pM_in d1 d3 (br_f n01 ?_)))
          repeat (first | refine br_t (by decide) ?_ | refine br_f (by decide) ?_)
          refine ⟨fp_e (fp_l2d a3), ?_⟩
          refine rM_box (k := 7) ho (by omega) ⟨v1, rfl, ?_⟩
          exact sim_box (k := 7) hn hs hC hq (by decide) (fun h => absurd h (by decide)) (fun _ => ⟨rfl, fp_e (fp_l2d a3)⟩)
    · refine pC_nbelow h2 (br_t rfl ?_)
      exact pM_in c1 c3 (br_f n01 (pM_nin (ix_lt (n := 8) (by omega) h2) (br_t rfl ⟨rfl, hS0⟩)))
  · exact pC_nbelow h1 (br_t rfl (pM_nin (ix_lt (n := 7) (by omega) h1) (br_t rfl ⟨rfl, hS0⟩)))
theorem sim_make {N : Nat} {K : KT} {M : MT} (hN : N + 1 < 520) (hS : Sim N K M) (a1 a2 a3 : Int32) : w_C_make K a1 a2 a3 (fun r K' => w_M_make M a1 a2 a3 (fun r' M' => r = r' ∧ Sim (N + 1) K' M')) := by
  have hS0 := hS.up (Nat.le_succ N)
  obtain ⟨n, ad, hn, ho, hs, hl, hC⟩ := hS
  have hS1 : Sim (N + 1) (ksLa K 0) (ms_last M 0) := ⟨n, ad, by omega, ho, hs, rfl, hC⟩
  have vp5 : vp_in (nI (n + 1)) 520 := vp_in_nI (by omega) (by omega)
  obtain ⟨-, -, -, -, h4⟩ := id hC
  obtain ⟨d2, d3, d4, d5, d6, d7, d8⟩ := h4 (n + 1) (by omega)
  have rr0 : ∀ ad' : Nat → Nat, RR (n + 1) ad' none 0 := fun _ => ⟨0, by omega, rfl, rfl⟩
  unfold w_C_make w_M_make
  rcases ixs a1 (n := 8) (by omega) with ⟨h, hh, rfl⟩ | h1
  · have c1 : ¬ nI h < 0 := nI_pos (by omega)
    have c2 : ¬ (8 : Int32) ≤ nI h := nI_ge (b := 8) hh (by omega)
    have c3 : ¬ (7 : Int32) < nI h := nI_nlt (b := h) (a := 7) (by omega) (by omega)
    refine pC_below c1 c2 (br_f n01 ?_)
    unfold w_C_newObject w_M_make_b59 w_M_make_b26 w_M_make_b89 w_M_make_b157 w_M_make_b166 w_M_make_b191
    by_cases e2 : a2 = 0
    · refine br_t e2 (m_C_hasEmptyConstructor (dC_hasEmpty h hh) (fun r er => ?_))
      subst er
      rcases (show h = 0 ∨ h = 1 ∨ h = 2 ∨ h = 3 ∨ h = 4 ∨ h = 5 ∨ h = 6 ∨ h = 7 by omega) with rfl | rfl | rfl | rfl | rfl | rfl | rfl | rfl
      · repeat (first | refine br_t (by decide) ?_ | refine br_f (by decide) ?_ | refine br_t e2 ?_ | refine br_f e2 ?_ | refine ⟨(by unfold vp_in; decide), ?_⟩ | refine ⟨vp5, ?_⟩)
        refine fun q hq => rC_P ?_
        refine rC_answer (okR_new (by decide)) ?_
        refine pM_in c1 c3 (br_f n01 ?_)
        repeat (first | refine br_t (by decide) ?_ | refine br_f (by decide) ?_ | refine br_t e2 ?_ | refine br_f e2 ?_ | refine ⟨(by unfold vp_in; decide), ?_⟩ | refine ⟨vp5, ?_⟩)
        refine rM_create ho (by omega) ?_
        repeat (first | refine br_t (by decide) ?_ | refine br_f (by decide) ?_ | refine br_t e2 ?_ | refine br_f e2 ?_ | refine ⟨(by unfold vp_in; decide), ?_⟩ | refine ⟨vp5, ?_⟩)
        refine ⟨rfl, ?_⟩
        rw [e8c]
        exact sim_made (M := M) (h := 8) hn hs hC hq rfl rfl rfl rfl rfl rfl rfl rfl rfl (fun i hi => pk_un hi) (fun _ _ => rfl) (fun _ _ => rfl) (fun _ _ => rfl) rfl rfl rfl rfl pk_us rfl rfl rfl (Or.inr (Or.inr (Or.inl ⟨rfl, rfl⟩)))
      · repeat (first | refine br_t (by decide) ?_ | refine br_f (by decide) ?_ | refine br_t e2 ?_ | refine br_f e2 ?_ | refine ⟨(by unfold vp_in; decide), ?_⟩ | refine ⟨vp5, ?_⟩)
        refine pM_in c1 c3 (br_f n01 ?_)
        repeat (first | refine br_t (by decide) ?_ | refine br_f (by decide) ?_ | refine br_t e2 ?_ | refine br_f e2 ?_ | refine ⟨(by unfold vp_in; decide), ?_⟩ | refine ⟨vp5, ?_⟩)
        exact ⟨rfl, hS1⟩
      · repeat (first | refine br_t (by decide) ?_ | refine br_f (by decide) ?_ | refine br_t e2 ?_ | refine br_f e2 ?_ | refine ⟨(by unfold vp_in; decide), ?_⟩ | refine ⟨vp5, ?_⟩)
        refine pM_in c1 c3 (br_f n01 ?_)
        repeat (first | refine br_t (by decide) ?_ | refine br_f (by decide) ?_ | refine br_t e2 ?_ | refine br_f e2 ?_ | refine ⟨(by unfold vp_in; decide), ?_⟩ | refine ⟨vp5, ?_⟩)
        exact ⟨rfl, hS1⟩
      · repeat (first | refine br_t (by decide) ?_ | refine br_f (by decide) ?_ | refine br_t e2 ?_ | refine br_f e2 ?_ | refine ⟨(by unfold vp_in; decide), ?_⟩ | refine ⟨vp5, ?_⟩)
        refine fun q hq => rC_T ?_
        refine rC_answer (okR_new (by decide)) ?_
        refine pM_in c1 c3 (br_f n01 ?_)
        repeat (first | refine br_t (by decide) ?_ | refine br_f (by decide) ?_ | refine br_t e2 ?_ | refine br_f e2 ?_ | refine ⟨(by unfold vp_in; decide), ?_⟩ | refine ⟨vp5, ?_⟩)
        refine rM_create ho (by omega) ?_
        repeat (first | refine br_t (by decide) ?_ | refine br_f (by decide) ?_ | refine br_t e2 ?_ | refine br_f e2 ?_ | refine ⟨(by unfold vp_in; decide), ?_⟩ | refine ⟨vp5, ?_⟩)
        refine ⟨rfl, ?_⟩
        rw [e8c]
        exact sim_made (M := M) (h := 8) hn hs hC hq rfl rfl rfl rfl rfl rfl rfl rfl rfl (fun i hi => pk_un hi) (fun _ _ => rfl) (fun _ _ => rfl) (fun _ _ => rfl) rfl rfl rfl rfl pk_us d2 rfl rfl (Or.inr (Or.inl ⟨0, by omega, rfl, rfl, rfl, rfl⟩))
      · repeat (first | refine br_t (by decide) ?_ | refine br_f (by decide) ?_ | refine br_t e2 ?_ | refine br_f e2 ?_ | refine ⟨(by unfold vp_in; decide), ?_⟩ | refine ⟨vp5, ?_⟩)
        refine pM_in c1 c3 (br_f n01 ?_)
        repeat (first | refine br_t (by decide) ?_ | refine br_f (by decide) ?_ | refine br_t e2 ?_ | refine br_f e2 ?_ | refine ⟨(by unfold vp_in; decide), ?_⟩ | refine ⟨vp5, ?_⟩)
        exact ⟨rfl, hS1⟩
      · repeat (first | refine br_t (by decide) ?_ | refine br_f (by decide) ?_ | refine br_t e2 ?_ | refine br_f e2 ?_ | refine ⟨(by unfold vp_in; decide), ?_⟩ | refine ⟨vp5, ?_⟩)
        refine fun q hq => rC_I ?_
        refine rC_answer (okR_new (by decide)) ?_
        refine pM_in c1 c3 (br_f n01 ?_)
        repeat (first | refine br_t (by decide) ?_ | refine br_f (by decide) ?_ | refine br_t e2 ?_ | refine br_f e2 ?_ | refine ⟨(by unfold vp_in; decide), ?_⟩ | refine ⟨vp5, ?_⟩)
        refine rM_create ho (by omega) ?_
        repeat (first | refine br_t (by decide) ?_ | refine br_f (by decide) ?_ | refine br_t e2 ?_ | refine br_f e2 ?_ | refine ⟨(by unfold vp_in; decide), ?_⟩ | refine ⟨vp5, ?_⟩)
        refine ⟨rfl, ?_⟩
        rw [e8c]
        exact sim_made (M := M) (h := 8) hn hs hC hq rfl rfl rfl rfl rfl rfl rfl rfl rfl (fun i hi => pk_un hi) (fun _ _ => rfl) (fun _ _ => rfl) (fun _ _ => rfl) rfl rfl rfl rfl pk_us d2 d3 rfl (Or.inr (Or.inr (Or.inr ⟨Or.inl ⟨rfl, rfl⟩, rfl, rfl, rfl, rfl, fp_0, rr0 _, rr0 _, rr0 _⟩)))
      · repeat (first | refine br_t (by decide) ?_ | refine br_f (by decide) ?_ | refine br_t e2 ?_ | refine br_f e2 ?_ | refine ⟨(by unfold vp_in; decide), ?_⟩ | refine ⟨vp5, ?_⟩)
        refine pM_in c1 c3 (br_f n01 ?_)
        repeat (first | refine br_t (by decide) ?_ | refine br_f (by decide) ?_ | refine br_t e2 ?_ | refine br_f e2 ?_ | refine ⟨(by unfold vp_in; decide), ?_⟩ | refine ⟨vp5, ?_⟩)
        exact ⟨rfl, hS1⟩
      · repeat (first | refine br_t (by decide) ?_ | refine br_f (by decide) ?_ | refine br_t e2 ?_ | refine br_f e2 ?_ | refine ⟨(by unfold vp_in; decide), ?_⟩ | refine ⟨vp5, ?_⟩)
        refine pM_in c1 c3 (br_f n01 ?_)
        repeat (first | refine br_t (by decide) ?_ | refine br_f (by decide) ?_ | refine br_t e2 ?_ | refine br_f e2 ?_ | refine ⟨(by unfold vp_in; decide), ?_⟩ | refine ⟨vp5, ?_⟩)
        exact ⟨rfl, hS1⟩
    · refine br_f e2 (m_C_hasIntConstructor (dC_hasInt h hh) (fun r er => ?_))
      subst er
      rcases (show h = 0 ∨ h = 1 ∨ h = 2 ∨ h = 3 ∨ h = 4 ∨ h = 5 ∨ h = 6 ∨ h = 7 by omega) with rfl | rfl | rfl | rfl | rfl | rfl | rfl | rfl
      · repeat (first | refine br_t (by decide) ?_ | refine br_f (by decide) ?_ | refine br_t e2 ?_ | refine br_f e2 ?_ | refine ⟨(by unfold vp_in; decide), ?_⟩ | refine ⟨vp5, ?_⟩)
        refine pM_in c1 c3 (br_f n01 ?_)
        repeat (first | refine br_t (by decide) ?_ | refine br_f (by decide) ?_ | refine br_t e2 ?_ | refine br_f e2 ?_ | refine ⟨(by unfold vp_in; decide), ?_⟩ | refine ⟨vp5, ?_⟩)
        exact ⟨rfl, hS1⟩
      · repeat (first | refine br_t (by decide) ?_ | refine br_f (by decide) ?_ | refine br_t e2 ?_ | refine br_f e2 ?_ | refine ⟨(by unfold vp_in; decide), ?_⟩ | refine ⟨vp5, ?_⟩)
        refine pM_in c1 c3 (br_f n01 ?_)
        repeat (first | refine br_t (by decide) ?_ | refine br_f (by decide) ?_ | refine br_t e2 ?_ | refine br_f e2 ?_ | refine ⟨(by unfold vp_in; decide), ?_⟩ | refine ⟨vp5, ?_⟩)
        exact ⟨rfl, hS1⟩
      · repeat (first | refine br_t (by decide) ?_ | refine br_f (by decide) ?_ | refine br_t e2 ?_ | refine br_f e2 ?_ | refine ⟨(by unfold vp_in; decide), ?_⟩ | refine ⟨vp5, ?_⟩)
        refine rC_boxW (fun q hq => ?_)
        refine rC_answer (okR_new (by decide)) ?_
        refine pM_in c1 c3 (br_f n01 ?_)
        repeat (first | refine br_t (by decide) ?_ | refine br_f (by decide) ?_ | refine br_t e2 ?_ | refine br_f e2 ?_ | refine ⟨(by unfold vp_in; decide), ?_⟩ | refine ⟨vp5, ?_⟩)
        refine rM_create ho (by omega) ?_
        repeat (first | refine br_t (by decide) ?_ | refine br_f (by decide) ?_ | refine br_t e2 ?_ | refine br_f e2 ?_ | refine ⟨(by unfold vp_in; decide), ?_⟩ | refine ⟨vp5, ?_⟩)
        refine ⟨rfl, ?_⟩
        rw [nI_clamp (show n + 1 < 2 ^ 31 by omega), e8c]
        exact sim_made (M := M) (h := 8) hn hs hC hq rfl rfl rfl rfl rfl rfl rfl rfl rfl (fun i hi => pk_un hi) (fun i hi => pk_uLn hi) (fun _ _ => rfl) (fun _ _ => rfl) rfl rfl rfl rfl pk_us pk_uLs rfl rfl (Or.inl ⟨4, by omega, rfl, rfl, rfl, fun _ => ⟨rfl, rfl, rng_4 a3⟩, fun h => absurd h (by decide)⟩)
      · repeat (first | refine br_t (by decide) ?_ | refine br_f (by decide) ?_ | refine br_t e2 ?_ | refine br_f e2 ?_ | refine ⟨(by unfold vp_in; decide), ?_⟩ | refine ⟨vp5, ?_⟩)
        refine pM_in c1 c3 (br_f n01 ?_)
        repeat (first | refine br_t (by decide) ?_ | refine br_f (by decide) ?_ | refine br_t e2 ?_ | refine br_f e2 ?_ | refine ⟨(by unfold vp_in; decide), ?_⟩ | refine ⟨vp5, ?_⟩)
        exact ⟨rfl, hS1⟩
      · repeat (first | refine br_t (by decide) ?_ | refine br_f (by decide) ?_ | refine br_t e2 ?_ | refine br_f e2 ?_ | refine ⟨(by unfold vp_in; decide), ?_⟩ | refine ⟨vp5, ?_⟩)
        refine pM_in c1 c3 (br_f n01 ?_)
        repeat (first | refine br_t (by decide) ?_ | refine br_f (by decide) ?_ | refine br_t e2 ?_ | refine br_f e2 ?_ | refine ⟨(by unfold vp_in; decide), ?_⟩ | refine ⟨vp5, ?_⟩)
        exact ⟨rfl, hS1⟩
      · repeat (first | refine br_t (by decide) ?_ | refine br_f (by decide) ?_ | refine br_t e2 ?_ | refine br_f e2 ?_ | refine ⟨(by unfold vp_in; decide), ?_⟩ | refine ⟨vp5, ?_⟩)
        refine fun q hq => rC_I ?_
        refine rC_answer (okR_new (by decide)) ?_
        refine pM_in c1 c3 (br_f n01 ?_)
        repeat (first | refine br_t (by decide) ?_ | refine br_f (by decide) ?_ | refine br_t e2 ?_ | refine br_f e2 ?_ | refine ⟨(by unfold vp_in; decide), ?_⟩ | refine ⟨vp5, ?_⟩)
        refine rM_create ho (by omega) ?_
        repeat (first | refine br_t (by decide) ?_ | refine br_f (by decide) ?_ | refine br_t e2 ?_ | refine br_f e2 ?_ | refine ⟨(by unfold vp_in; decide), ?_⟩ | refine ⟨vp5, ?_⟩)
        refine ⟨rfl, ?_⟩
        rw [nI_clamp (show n + 1 < 2 ^ 31 by omega), e8c]
        exact sim_made (M := M) (h := 8) hn hs hC hq rfl rfl rfl rfl rfl rfl rfl rfl rfl (fun i hi => pk_un hi) (fun i hi => pk_uLn hi) (fun _ _ => rfl) (fun _ _ => rfl) rfl rfl rfl rfl pk_us pk_uLs d3 rfl (Or.inr (Or.inr (Or.inr ⟨Or.inl ⟨rfl, rfl⟩, rfl, rfl, rfl, rfl, fp_0, rr0 _, rr0 _, rr0 _⟩)))
      · repeat (first | refine br_t (by decide) ?_ | refine br_f (by decide) ?_ | refine br_t e2 ?_ | refine br_f e2 ?_ | refine ⟨(by unfold vp_in; decide), ?_⟩ | refine ⟨vp5, ?_⟩)
        refine fun q hq => rC_S ?_
        refine rC_answer (okR_new (by decide)) ?_
        refine pM_in c1 c3 (br_f n01 ?_)
        repeat (first | refine br_t (by decide) ?_ | refine br_f (by decide) ?_ | refine br_t e2 ?_ | refine br_f e2 ?_ | refine ⟨(by unfold vp_in; decide), ?_⟩ | refine ⟨vp5, ?_⟩)
        refine rM_create ho (by omega) ?_
        repeat (first | refine br_t (by decide) ?_ | refine br_f (by decide) ?_ | refine br_t e2 ?_ | refine br_f e2 ?_ | refine ⟨(by unfold vp_in; decide), ?_⟩ | refine ⟨vp5, ?_⟩)
        refine ⟨rfl, ?_⟩
        rw [nI_clamp (show n + 1 < 2 ^ 31 by omega), e8c]
        exact sim_made (M := M) (h := 8) hn hs hC hq rfl rfl rfl rfl rfl rfl rfl rfl rfl (fun i hi => pk_un hi) (fun i hi => pk_uLn hi) (fun _ _ => rfl) (fun i hi => pk_un hi) rfl rfl rfl rfl pk_us pk_uLs d3 pk_us (Or.inr (Or.inr (Or.inr ⟨Or.inr ⟨rfl, rfl, rfl, rfl⟩, rfl, rfl, rfl, rfl, fp_0, rr0 _, rr0 _, rr0 _⟩)))
      · repeat (first | refine br_t (by decide) ?_ | refine br_f (by decide) ?_ | refine br_t e2 ?_ | refine br_f e2 ?_ | refine ⟨(by unfold vp_in; decide), ?_⟩ | refine ⟨vp5, ?_⟩)
        refine pM_in c1 c3 (br_f n01 ?_)
        repeat (first | refine br_t (by decide) ?_ | refine br_f (by decide) ?_ | refine br_t e2 ?_ | refine br_f e2 ?_ | refine ⟨(by unfold vp_in; decide), ?_⟩ | refine ⟨vp5, ?_⟩)
        exact ⟨rfl, hS1⟩
  · exact pC_nbelow h1 (br_t rfl (pM_nin (ix_lt (n := 7) (by omega) h1) (br_t rfl ⟨rfl, hS0⟩)))
