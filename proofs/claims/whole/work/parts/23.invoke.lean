set_option maxHeartbeats 4000000 in
theorem sim_inv3 {N n : Nat} {ad : Nat → Nat} {K : KT} {M : MT} (hN : N + 1 < 520) (hn : n ≤ N) (ho : m_objects M = nI n) (hs : kSh K = m_shared M) (hC : SS n ad K M) {i s j s1 k s2 : Nat} (hi : i ≤ n) (hs12 : s ≤ 12) (es : m_sort M i = nI s) (et : ktg K (rfi ad i) = tgN s) (e0 : i = 0 ↔ s = 0) (hj : j ≤ n) (hs1 : s1 ≤ 12) (es1 : m_sort M j = nI s1) (et1 : ktg K (rfi ad j) = tgN s1) (e01 : j = 0 ↔ s1 = 0) (hk : k ≤ n) (hs2 : s2 ≤ 12) (es2 : m_sort M k = nI s2) (et2 : ktg K (rfi ad k) = tgN s2) (e02 : k = 0 ↔ s2 = 0) {W : (Int32 → MT → Prop) → Prop} (hso : s = 10 ∨ s = 11) (go : ∀ Q : Int32 → MT → Prop, w_M_div M (nI j) (nI k) Q → W Q) : w_C_inv_args K (nI 3) (rfi ad i) (rfi ad j) (rfi ad k) (fun r K' => W (fun r' M' => r = r' ∧ Sim (N + 1) K' M')) := by
  have hC' : SS n ad (ksLa K 0) M := hC
  have et' : ktg (ksLa K 0) (rfi ad i) = tgN s := et
  have hS2 : ∀ (w : Int64) (r : UInt64), Sim (N + 1) (ksLa K 0) (ms_last (ms_realNow (ms_wholeNow M w) r) 0) := fun w r => ⟨n, ad, by omega, ob_last (ob_now ho), sh_last (sh_now hs), rfl, ss_last (ss_now hC)⟩
  have hS3 : Sim (N + 1) (ksLa K 0) (ms_last M 0) := ⟨n, ad, by omega, ho, hs, rfl, hC⟩
  have i5 : i < 520 := by omega
  have j5 : j < 520 := by omega
  have k5 : k < 520 := by omega
  have vi := vp_in_nI (N := 520) i5 (by omega)
  have vj := vp_in_nI (N := 520) j5 (by omega)
  have vk := vp_in_nI (N := 520) k5 (by omega)
  have ci : (nI i).toNatClampNeg = i := nI_clamp (by omega)
  have cj : (nI j).toNatClampNeg = j := nI_clamp (by omega)
  have ck : (nI k).toNatClampNeg = k := nI_clamp (by omega)
  unfold w_C_inv_args
  rw [show sf_FIRST_WANTS.getD (nI 3).toNatClampNeg 0 = nI 4 by decide, show sf_SECOND_WANTS.getD (nI 3).toNatClampNeg 0 = nI 4 by decide]
  refine ⟨by unfold vp_in; decide, ?_⟩
  have hok := sv_ok hC' hi
  obtain ⟨sp, s3, g1, g2, g3, i1, g4, g5, g6, g7, g8, g9, g10, g11⟩ := sv_sp hC hi e0 es hso
  have hI : isI (ksLa K 0) (rfi ad i) := by
    rw [g1]
    exact sv_isI (K := ksLa K 0) g2 g3
  have hb : kob (ksLa K 0) (rfi ad i) = kO K (ad i) := by
    rw [g1]
    rfl
  have hit : ¬ bI (ktg (ksLa K 0) (rfi ad i) == 1 || ktg (ksLa K 0) (rfi ad i) == 3) = 0 := by
    rw [et', tg_it hs12, decide_eq_true hso]
    decide
  refine rC_conv hC' hj hs1 es1 et1 (by decide) ?_
  cases h1 : cvt s1 4
  · refine br_t rfl (go _ ?_)
    unfold w_M_div
    exact rM_unboxes (k := 4) j5 hs1 es1 (by decide) (fun _ => br_t rfl ⟨rfl, hS3⟩) (fun z => by rw [h1] at z; cases z)
  · refine br_f n01 ⟨by unfold vp_in; decide, rC_conv hC' hk hs2 es2 et2 (by decide) ?_⟩
    cases h2 : cvt s2 4
    · refine br_t rfl (go _ ?_)
      unfold w_M_div
      refine rM_unboxes (k := 4) j5 hs1 es1 (by decide) (fun z => by rw [h1] at z; cases z) (fun _ r _ => br_f n01 ?_)
      exact rM_unboxes (M := ms_realNow (ms_wholeNow M (m_whole M j)) r) (k := 4) k5 hs2 es2 (by decide) (fun _ => br_t rfl ⟨rfl, hS2 _ r⟩) (fun z => by rw [h2] at z; cases z)
    · refine br_f n01 (br_f (by decide) ⟨hok, br_f hit ⟨hI, ?_⟩⟩)
      unfold w_C_invokeOn
      obtain ⟨c1, c18, ec1, hw1⟩ := cvt_src h1
      obtain ⟨c2, c28, ec2, hw2⟩ := cvt_src h2
      have hl1 := wid_4 c1 c18 hw1
      have hl2 := wid_4 c2 c28 hw2
      refine br_f (by decide) (br_f (by decide) (br_f (by decide) (br_t (by decide) (rC_wholeOf hC' hj (k := c1) (by omega) (by rw [es1, ec1]) (rC_wholeOf hC' hk (k := c2) (by omega) (by rw [es2, ec2]) ?_)))))
      unfold w_C_quotientOf
      by_cases b0 : (m_whole M k).toInt32 = 0
      · refine br_t b0 (go _ ?_)
        unfold w_M_div
        refine rM_unboxes (k := 4) j5 hs1 es1 (by decide) (fun z => by rw [h1] at z; cases z) (fun _ r _ => br_f n01 ?_)
        refine rM_unboxes (M := ms_realNow (ms_wholeNow M (m_whole M j)) r) (k := 4) k5 hs2 es2 (by decide) (fun z => by rw [h2] at z; cases z) (fun _ r' _ => br_f n01 (br_t b0 ⟨rfl, ?_⟩))
        exact ⟨n, ad, by omega, ob_last (ob_now (ob_now ho)), sh_last (sh_now (sh_now hs)), (show Int32.toInt64 1 = 1 by decide), ss_last (ss_now (ss_now hC))⟩
      · refine br_f b0 ⟨b0, rC_boxW' (k := 4) (r := 0) (by decide) (fun q hq => rC_answer okW (go _ ?_))⟩
        unfold w_M_div
        refine rM_unboxes (k := 4) j5 hs1 es1 (by decide) (fun z => by rw [h1] at z; cases z) (fun _ r _ => br_f n01 ?_)
        refine rM_unboxes (M := ms_realNow (ms_wholeNow M (m_whole M j)) r) (k := 4) k5 hs2 es2 (by decide) (fun z => by rw [h2] at z; cases z) (fun _ r' _ => br_f n01 (br_f b0 ?_))
        rw [now_h]
        simp only [now_w]
        by_cases b1 : (m_whole M k).toInt32 = -1
        · refine br_t b1 (rM_answer (k := 4) (n := n) (ob_now (ob_now ho)) (by omega) ⟨rfl, ?_⟩)
          rw [b1, dv_m1]
          exact sim_boxed (r0 := 0) (w0 := (-(m_whole M j).toInt32).toInt64) (M := ms_realNow (ms_wholeNow (ms_realNow (ms_wholeNow M (m_whole M j)) r) (m_whole M k)) r') hn (sh_now (sh_now hs)) (ss_now (ss_now hC)) hq (by decide) (fun _ => ⟨rfl, rng_4 _⟩) (fun z => absurd z (by decide))
        · refine br_f b1 ⟨b0, ?_⟩
          generalize (m_whole M j).toInt32 / (m_whole M k).toInt32 = v
          refine rM_answer (k := 4) (n := n) (ob_now (ob_now ho)) (by omega) ⟨rfl, ?_⟩
          exact sim_boxed (k := 4) (r0 := 0) (w0 := v.toInt64) (M := ms_realNow (ms_wholeNow (ms_realNow (ms_wholeNow M (m_whole M j)) r) (m_whole M k)) r') hn (sh_now (sh_now hs)) (ss_now (ss_now hC)) hq (by decide) (fun _ => ⟨rfl, rng_4 _⟩) (fun z => absurd z (by decide))
