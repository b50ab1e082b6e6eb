set_option maxHeartbeats 4000000 in
theorem sim_invoke {N : Nat} {K : KT} {M : MT} (hN : N + 1 < 520) (hS : Sim N K M) (a1 a2 a3 a4 : Int32) : w_C_invoke K a1 a2 a3 a4 (fun r K' => w_M_invoke M a1 a2 a3 a4 (fun r' M' => r = r' ∧ Sim (N + 1) K' M')) := by
  have hS0 := hS.up (Nat.le_succ N)
  obtain ⟨n, ad, hn, ho, hs, hl, hC⟩ := hS
  have P1 : ∀ {a : Int32} {b : Nat}, b + 1 < 2 ^ 31 → a < 0 ∨ nI (b + 1) ≤ a → a < 0 ∨ nI b < a := fun h x => ix_lt h x
  rcases ixs a1 (n := 9) (by omega) with ⟨h, hh, rfl⟩ | h1
  · rcases ixs a2 (n := 6) (by omega) with ⟨m, hm, rfl⟩ | h2
    · rcases ixs a3 (n := 3) (by omega) with ⟨c3, h3, rfl⟩ | h3
      · rcases ixs a4 (n := 81) (by omega) with ⟨c, hc, rfl⟩ | h4
        · obtain ⟨i, hi, x1, x2⟩ := sc_hand hC hh
          obtain ⟨j, hj, y1, y2⟩ := sc_hand hC (show c / 9 < 9 by omega)
          obtain ⟨k, hk, w1, w2⟩ := sc_hand hC (show c % 9 < 9 by omega)
          obtain ⟨s, hs12, es, et, e0⟩ := sv_sort hC hi
          obtain ⟨s1, hs1, es1, et1, e01⟩ := sv_sort hC hj
          obtain ⟨s2, hs2, es2, et2, e02⟩ := sv_sort hC hk
          have hS3 : Sim (N + 1) (ksLa K 0) (ms_last M 0) := ⟨n, ad, by omega, ho, hs, rfl, hC⟩
          have i5 : i < 520 := by omega
          have gm : ∀ Q : Int32 → MT → Prop, (m ≠ 2 → i = 0 → Q 1 (ms_last M 0)) → (m ≠ 2 → i ≠ 0 → ¬ (s = 10 ∨ s = 11) → Q 2 (ms_last M 0)) → ((m = 2 ∨ (s = 10 ∨ s = 11)) → ∀ z1 z4 : Int32, w_M_invoke_b111 M z1 (nI m) (nI c3) z4 (nI i) (nI j) (nI k) Q) → w_M_invoke M (nI h) (nI m) (nI c3) (nI c) Q := fun Q q0 q1 q2 =>
            rM_inv hh hm h3 hc i5 hs12 es e0 x1 q0 q1 (fun z z1 z4 => by
              rw [y1, w1]
              exact q2 z z1 z4)
          refine rC_inv hC hh hm h3 hc hi hs12 x2 et (fun m2 z => gm _ (fun _ _ => ⟨rfl, hS3⟩) (fun _ z' => absurd z z') (fun z' => by
            have := e0.mp z
            omega)) (fun m2 z hso => gm _ (fun _ z' => absurd z' z) (fun _ _ _ => ⟨rfl, hS3⟩) (fun z' => absurd (z'.resolve_left m2) hso)) (fun hq => rC_tail hm h3 hc (fun hne => ?_) (fun heq => ?_))
          · refine gm _ (fun m2 z => by
              have := e0.mp z
              omega) (fun m2 _ hso => absurd (hq.resolve_left m2) hso) (fun _ z1 z4 => ?_)
            rcases (show m = 0 ∨ m = 1 ∨ m = 2 ∨ m = 3 ∨ m = 4 ∨ m = 5 by omega) with rfl | rfl | rfl | rfl | rfl | rfl
            · rcases (show c3 = 0 ∨ c3 = 1 by
                have : cnt 0 = 2 := rfl
                omega) with rfl | rfl
              · exact rM_b111_0_0 ⟨rfl, hS3⟩
              · exact rM_b111_0_1 ⟨rfl, hS3⟩
            · rcases (show c3 = 0 ∨ c3 = 1 by
                have : cnt 1 = 2 := rfl
                omega) with rfl | rfl
              · exact rM_b111_1_0 ⟨rfl, hS3⟩
              · exact rM_b111_1_1 ⟨rfl, hS3⟩
            · rcases (show c3 = 0 ∨ c3 = 2 by
                have : cnt 2 = 1 := rfl
                omega) with rfl | rfl
              · exact rM_b111_2_0 ⟨rfl, hS3⟩
              · exact rM_b111_2_2 ⟨rfl, hS3⟩
            · rcases (show c3 = 0 ∨ c3 = 1 by
                have : cnt 3 = 2 := rfl
                omega) with rfl | rfl
              · exact rM_b111_3_0 ⟨rfl, hS3⟩
              · exact rM_b111_3_1 ⟨rfl, hS3⟩
            · rcases (show c3 = 0 ∨ c3 = 2 by
                have : cnt 4 = 1 := rfl
                omega) with rfl | rfl
              · exact rM_b111_4_0 ⟨rfl, hS3⟩
              · exact rM_b111_4_2 ⟨rfl, hS3⟩
            · rcases (show c3 = 0 ∨ c3 = 2 by
                have : cnt 5 = 1 := rfl
                omega) with rfl | rfl
              · exact rM_b111_5_0 ⟨rfl, hS3⟩
              · exact rM_b111_5_2 ⟨rfl, hS3⟩
          · rw [y2, w2]
            have gm2 := fun (Q : Int32 → MT → Prop) (q2 : ∀ z1 z4 : Int32, w_M_invoke_b111 M z1 (nI m) (nI c3) z4 (nI i) (nI j) (nI k) Q) => gm Q (fun m2 z => by
              have := e0.mp z
              omega) (fun m2 _ hso => absurd (hq.resolve_left m2) hso) (fun _ => q2)
            subst heq
            rcases (show m = 0 ∨ m = 1 ∨ m = 2 ∨ m = 3 ∨ m = 4 ∨ m = 5 by omega) with rfl | rfl | rfl | rfl | rfl | rfl
            · exact sim_inv0 hN hn ho hs hC hi hs12 es et e0 hj hs1 es1 et1 e01 hk hs2 es2 et2 e02 (hq.resolve_left (by decide)) (fun Q hQ => gm2 Q (fun z1 z4 => rM_b111_0 hQ))
            · exact sim_inv1 hN hn ho hs hC hi hs12 es et e0 hj hs1 es1 et1 e01 hk hs2 es2 et2 e02 (hq.resolve_left (by decide)) (fun Q hQ => gm2 Q (fun z1 z4 => rM_b111_1 hQ))
            · exact sim_inv2 hN hn ho hs hC hi hs12 es et e0 hj hs1 es1 et1 e01 hk hs2 es2 et2 e02 (fun Q hQ => gm2 Q (fun z1 z4 => rM_b111_2 hQ))
            · exact sim_inv3 hN hn ho hs hC hi hs12 es et e0 hj hs1 es1 et1 e01 hk hs2 es2 et2 e02 (hq.resolve_left (by decide)) (fun Q hQ => gm2 Q (fun z1 z4 => rM_b111_3 hQ))
            · exact sim_inv4 hN hn ho hs hC hi hs12 es et e0 hj hs1 es1 et1 e01 hk hs2 es2 et2 e02 (hq.resolve_left (by decide)) (fun Q hQ => gm2 Q (fun z1 z4 => rM_b111_4 hQ))
            · exact sim_inv5 hN hn ho hs hC hi hs12 es et e0 hj hs1 es1 et1 e01 hk hs2 es2 et2 e02 (hq.resolve_left (by decide)) (fun Q hQ => gm2 Q (fun z1 z4 => rM_b111_5 hQ))
        · unfold w_C_invoke w_M_invoke
          refine pC_below (nI_pos (by omega)) (nI_ge (b := 9) hh (by omega)) (br_f n01 (pC_below (nI_pos (by omega)) (nI_ge (b := 6) hm (by omega)) (br_f n01 (pC_below (nI_pos (by omega)) (nI_ge (b := 3) h3 (by omega)) (br_f n01 (pC_nbelow h4 (br_t rfl ?_)))))))
          exact pM_in (nI_pos (by omega)) (nI_nlt (b := h) (a := 8) (by omega) (by omega)) (br_f n01 (pM_in (nI_pos (by omega)) (nI_nlt (b := m) (a := 5) (by omega) (by omega)) (br_f n01 (pM_in (nI_pos (by omega)) (nI_nlt (b := c3) (a := 2) (by omega) (by omega)) (br_f n01 (pM_nin (ix_lt (n := 80) (by omega) h4) (br_t rfl ⟨rfl, hS0⟩)))))))
      · unfold w_C_invoke w_M_invoke
        refine pC_below (nI_pos (by omega)) (nI_ge (b := 9) hh (by omega)) (br_f n01 (pC_below (nI_pos (by omega)) (nI_ge (b := 6) hm (by omega)) (br_f n01 (pC_nbelow h3 (br_t rfl ?_)))))
        exact pM_in (nI_pos (by omega)) (nI_nlt (b := h) (a := 8) (by omega) (by omega)) (br_f n01 (pM_in (nI_pos (by omega)) (nI_nlt (b := m) (a := 5) (by omega) (by omega)) (br_f n01 (pM_nin (ix_lt (n := 2) (by omega) h3) (br_t rfl ⟨rfl, hS0⟩)))))
    · unfold w_C_invoke w_M_invoke
      refine pC_below (nI_pos (by omega)) (nI_ge (b := 9) hh (by omega)) (br_f n01 (pC_nbelow h2 (br_t rfl ?_)))
      exact pM_in (nI_pos (by omega)) (nI_nlt (b := h) (a := 8) (by omega) (by omega)) (br_f n01 (pM_nin (ix_lt (n := 5) (by omega) h2) (br_t rfl ⟨rfl, hS0⟩)))
  · unfold w_C_invoke w_M_invoke
    refine pC_nbelow h1 (br_t rfl ?_)
    exact pM_nin (ix_lt (n := 8) (by omega) h1) (br_t rfl ⟨rfl, hS0⟩)
