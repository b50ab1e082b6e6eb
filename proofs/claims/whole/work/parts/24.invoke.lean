set_option maxHeartbeats 4000000 in
theorem sim_inv4 {N n : Nat} {ad : Nat → Nat} {K : KT} {M : MT} (hN : N + 1 < 520) (hn : n ≤ N) (ho : m_objects M = nI n) (hs : kSh K = m_shared M) (hC : SS n ad K M) {i s j s1 k s2 : Nat} (hi : i ≤ n) (hs12 : s ≤ 12) (es : m_sort M i = nI s) (et : ktg K (rfi ad i) = tgN s) (e0 : i = 0 ↔ s = 0) (hj : j ≤ n) (hs1 : s1 ≤ 12) (es1 : m_sort M j = nI s1) (et1 : ktg K (rfi ad j) = tgN s1) (e01 : j = 0 ↔ s1 = 0) (hk : k ≤ n) (hs2 : s2 ≤ 12) (es2 : m_sort M k = nI s2) (et2 : ktg K (rfi ad k) = tgN s2) (e02 : k = 0 ↔ s2 = 0) {W : (Int32 → MT → Prop) → Prop} (hso : s = 10 ∨ s = 11) (go : ∀ Q : Int32 → MT → Prop, w_M_pick M (nI i) (nI j) Q → W Q) : w_C_inv_args K (nI 4) (rfi ad i) (rfi ad j) (rfi ad k) (fun r K' => W (fun r' M' => r = r' ∧ Sim (N + 1) K' M')) := by
  have hC' : SS n ad (ksLa K 0) M := hC
  have et' : ktg (ksLa K 0) (rfi ad i) = tgN s := et
  have hS2 : ∀ (w : Int64) (r : UInt64), Sim (N + 1) (ksLa K 0) (ms_last (ms_realNow (ms_wholeNow M w) r) 0) := fun w r => ⟨n, ad, by omega, ob_last (ob_now ho), sh_last (sh_now hs), rfl, ss_last (ss_now hC)⟩
  have hS3 : Sim (N + 1) (ksLa K 0) (ms_last M 0) := ⟨n, ad, by omega, ho, hs, rfl, hC⟩
  have i5 : i < 520 := by omega
  have j5 : j < 520 := by omega
  have k5 : k < 520 := by omega
  have vi := vp_in_nI (N := 520) i5 (by omega)
  have vj := vp_in_nI (N := 520) j5 (by omega)
  have vk := vp_in_nI (N := 520) k5 (by omega)
  have ci : (nI i).toNatClampNeg = i := nI_clamp (by omega)
  have cj : (nI j).toNatClampNeg = j := nI_clamp (by omega)
  have ck : (nI k).toNatClampNeg = k := nI_clamp (by omega)
  unfold w_C_inv_args
  rw [show sf_FIRST_WANTS.getD (nI 4).toNatClampNeg 0 = 9 by decide, show sf_SECOND_WANTS.getD (nI 4).toNatClampNeg 0 = 10 by decide]
  refine ⟨by unfold vp_in; decide, ?_⟩
  have hok := sv_ok hC' hi
  obtain ⟨sp, s3, g1, g2, g3, i1, g4, g5, g6, g7, g8, g9, g10, g11⟩ := sv_sp hC hi e0 es hso
  have hI : isI (ksLa K 0) (rfi ad i) := by
    rw [g1]
    exact sv_isI (K := ksLa K 0) g2 g3
  have hb : kob (ksLa K 0) (rfi ad i) = kO K (ad i) := by
    rw [g1]
    rfl
  have hit : ¬ bI (ktg (ksLa K 0) (rfi ad i) == 1 || ktg (ksLa K 0) (rfi ad i) == 3) = 0 := by
    rw [et', tg_it hs12, decide_eq_true hso]
    decide
  refine rC_conv9 hC' hj hs1 et1 e01 ?_
  have et1' : ktg (ksLa K 0) (rfi ad j) = tgN s1 := et1
  have v9 : ∀ z : j ≠ 0, fit s1 5 = decide (s1 = 10 ∨ s1 = 11) := fun z => by
    show decide (s1 = 0 ∨ s1 = 10 ∨ s1 = 11) = decide (s1 = 10 ∨ s1 = 11)
    exact decide_eq_decide.mpr ⟨fun x => x.resolve_left (fun y => z (e01.mpr y)), Or.inr⟩
  by_cases z : j = 0
  · have zs := e01.mp z
    rw [show fit s1 5 = true from decide_eq_true (Or.inl zs)]
    refine br_f n01 ⟨by unfold vp_in; decide, rC_conv10 (br_f n01 (br_f (by decide) ⟨hok, br_f hit ⟨hI, ?_⟩⟩))⟩
    unfold w_C_invokeOn w_C_pickOf
    refine br_f (by decide) (br_f (by decide) (br_f (by decide) (br_f (by decide) (br_t (by decide) ⟨sv_ok hC' hj, ?_⟩))))
    rw [et1', tg_it hs1, decide_eq_false (show ¬ (s1 = 10 ∨ s1 = 11) by omega)]
    refine br_t rfl (go _ ?_)
    have z0 : nI j = 0 := by rw [z]; rfl
    exact br_t z0 (br_t z0 ⟨rfl, n, ad, by omega, ho, hs, (show Int32.toInt64 2 = 2 by decide), hC⟩)
  · have z0 : ¬ nI j = 0 := fun e => z (nI_inj (b := 0) (by omega) (by omega) e)
    rw [v9 z]
    by_cases s1o : s1 = 10 ∨ s1 = 11
    · rw [decide_eq_true s1o]
      refine br_f n01 ⟨by unfold vp_in; decide, rC_conv10 (br_f n01 (br_f (by decide) ⟨hok, br_f hit ⟨hI, ?_⟩⟩))⟩
      unfold w_C_invokeOn w_C_pickOf
      obtain ⟨sp', s3', g1', g2', g3', i1', g4', -⟩ := sv_sp hC hj e01 es1 s1o
      have hIj : isI (ksLa K 0) (rfi ad j) := by
        rw [g1']
        exact sv_isI (K := ksLa K 0) g2' g3'
      have hbj : kob (ksLa K 0) (rfi ad j) = kO K (ad j) := by
        rw [g1']
        rfl
      refine br_f (by decide) (br_f (by decide) (br_f (by decide) (br_f (by decide) (br_t (by decide) ⟨sv_ok hC' hj, ?_⟩))))
      rw [et1', tg_it hs1, decide_eq_true s1o]
      refine br_f n01 ⟨hIj, ?_⟩
      have ei : (m_whole M i).toInt32 = oI (kO K (ad i)) := by
        rw [g4]
        exact Int32.toInt32_toInt64 _
      have ej : (m_whole M j).toInt32 = oI (kO K (ad j)) := by
        rw [g4']
        exact Int32.toInt32_toInt64 _
      have hI2 : isI (ksLa K 0) (some (ad i)) := sv_isI (K := ksLa K 0) g2 g3
      have hb2 : kob (ksLa K 0) (some (ad i)) = kO K (ad i) := rfl
      have goM : ∀ (v : Int32) (Q : Int32 → MT → Prop), (m_sort M i = 11 → v = m_extra M i + (m_whole M j).toInt32) → (¬ m_sort M i = 11 → v = (m_whole M i).toInt32 - (m_whole M j).toInt32) → w_M_answer M (nI 4) v.toInt64 Q → w_M_pick M (nI i) (nI j) Q := by
        intro v Q q1 q2 hQ
        unfold w_M_pick
        refine br_f z0 (rM_isItem j5 hs1 es1 ?_)
        rw [decide_eq_true s1o, ci, cj]
        refine br_f n01 (br_f z0 ⟨vj, vi, ?_⟩)
        by_cases x : m_sort M i = 11
        · rw [q1 x] at hQ
          exact br_t x ⟨vi, hQ⟩
        · rw [q2 x] at hQ
          exact br_f x ⟨vi, hQ⟩
      have fin : ∀ v : Int32, (m_sort M i = 11 → v = m_extra M i + (m_whole M j).toInt32) → (¬ m_sort M i = 11 → v = (m_whole M i).toInt32 - (m_whole M j).toInt32) → w_C_boxOfWhole (ksLa K 0) 4 v.toInt64 (fun r20 K20 => w_C_answer K20 r20 (fun r K' => W (fun r' M' => r = r' ∧ Sim (N + 1) K' M'))) := by
        intro v q1 q2
        refine rC_boxW' (k := 4) (r := 0) (by decide) (fun q hq => rC_answer okW (go _ (goM v _ q1 q2 (rM_answer (k := 4) (n := n) ho (by omega) ⟨rfl, ?_⟩))))
        exact sim_boxed (M := M) hn hs hC hq (by decide) (fun _ => ⟨rfl, rng_4 _⟩) (fun z => absurd z (by decide))
      rcases sp with ⟨p1, p2⟩ | ⟨p1, p2, p3, -⟩
      · rw [g1]
        refine ⟨ad i, rfl, g2, Or.inl ⟨p2, hI2, hIj, ?_⟩⟩
        rw [hb2, hbj]
        exact fin _ (fun x => absurd (p1.symm.trans x) (by decide)) (fun _ => by rw [ei, ej])
      · rw [g1]
        refine ⟨ad i, rfl, g2, Or.inr ⟨p2, ⟨ad i, rfl, g2, p2⟩, hIj, ?_⟩⟩
        rw [hb2, hbj, show oX (kO K (ad i)) = m_extra M i from p3]
        exact fin _ (fun _ => by rw [ej]) (fun x => absurd p1 x)
    · rw [decide_eq_false s1o]
      refine br_t rfl (go _ ?_)
      unfold w_M_pick
      refine br_f z0 (rM_isItem j5 hs1 es1 ?_)
      rw [decide_eq_false s1o]
      exact br_t rfl ⟨rfl, hS3⟩
set_option maxHeartbeats 4000000 in
theorem sim_inv5 {N n : Nat} {ad : Nat → Nat} {K : KT} {M : MT} (hN : N + 1 < 520) (hn : n ≤ N) (ho : m_objects M = nI n) (hs : kSh K = m_shared M) (hC : SS n ad K M) {i s j s1 k s2 : Nat} (hi : i ≤ n) (hs12 : s ≤ 12) (es : m_sort M i = nI s) (et : ktg K (rfi ad i) = tgN s) (e0 : i = 0 ↔ s = 0) (hj : j ≤ n) (hs1 : s1 ≤ 12) (es1 : m_sort M j = nI s1) (et1 : ktg K (rfi ad j) = tgN s1) (e01 : j = 0 ↔ s1 = 0) (hk : k ≤ n) (hs2 : s2 ≤ 12) (es2 : m_sort M k = nI s2) (et2 : ktg K (rfi ad k) = tgN s2) (e02 : k = 0 ↔ s2 = 0) {W : (Int32 → MT → Prop) → Prop} (hso : s = 10 ∨ s = 11) (go : ∀ Q : Int32 → MT → Prop, w_M_self M (nI i) (nI j) Q → W Q) : w_C_inv_args K (nI 5) (rfi ad i) (rfi ad j) (rfi ad k) (fun r K' => W (fun r' M' => r = r' ∧ Sim (N + 1) K' M')) := by
  have hC' : SS n ad (ksLa K 0) M := hC
  have et' : ktg (ksLa K 0) (rfi ad i) = tgN s := et
  have hS2 : ∀ (w : Int64) (r : UInt64), Sim (N + 1) (ksLa K 0) (ms_last (ms_realNow (ms_wholeNow M w) r) 0) := fun w r => ⟨n, ad, by omega, ob_last (ob_now ho), sh_last (sh_now hs), rfl, ss_last (ss_now hC)⟩
  have hS3 : Sim (N + 1) (ksLa K 0) (ms_last M 0) := ⟨n, ad, by omega, ho, hs, rfl, hC⟩
  have i5 : i < 520 := by omega
  have j5 : j < 520 := by omega
  have k5 : k < 520 := by omega
  have vi := vp_in_nI (N := 520) i5 (by omega)
  have vj := vp_in_nI (N := 520) j5 (by omega)
  have vk := vp_in_nI (N := 520) k5 (by omega)
  have ci : (nI i).toNatClampNeg = i := nI_clamp (by omega)
  have cj : (nI j).toNatClampNeg = j := nI_clamp (by omega)
  have ck : (nI k).toNatClampNeg = k := nI_clamp (by omega)
  unfold w_C_inv_args
  rw [show sf_FIRST_WANTS.getD (nI 5).toNatClampNeg 0 = nI 3 by decide, show sf_SECOND_WANTS.getD (nI 5).toNatClampNeg 0 = 10 by decide]
  refine ⟨by unfold vp_in; decide, ?_⟩
  have hok := sv_ok hC' hi
  obtain ⟨sp, s3, g1, g2, g3, i1, g4, g5, g6, g7, g8, g9, g10, g11⟩ := sv_sp hC hi e0 es hso
  have hI : isI (ksLa K 0) (rfi ad i) := by
    rw [g1]
    exact sv_isI (K := ksLa K 0) g2 g3
  have hb : kob (ksLa K 0) (rfi ad i) = kO K (ad i) := by
    rw [g1]
    rfl
  have hit : ¬ bI (ktg (ksLa K 0) (rfi ad i) == 1 || ktg (ksLa K 0) (rfi ad i) == 3) = 0 := by
    rw [et', tg_it hs12, decide_eq_true hso]
    decide
  refine rC_conv hC' hj hs1 es1 et1 (by decide) ?_
  cases h1 : cvt s1 3
  · refine br_t rfl (go _ ?_)
    unfold w_M_self
    exact rM_unboxes (k := 3) j5 hs1 es1 (by decide) (fun _ => br_t rfl ⟨rfl, hS3⟩) (fun z => by rw [h1] at z; cases z)
  · refine br_f n01 ⟨by unfold vp_in; decide, rC_conv10 (br_f n01 (br_f (by decide) ⟨hok, br_f hit ⟨hI, ?_⟩⟩))⟩
    unfold w_C_invokeOn
    obtain ⟨c1, c18, ec1, hw1⟩ := cvt_src h1
    have hl1 := wid_3 c1 c18 hw1
    refine br_f (by decide) (br_f (by decide) (br_f (by decide) (br_f (by decide) (br_f (by decide) (br_t (by decide) (rC_wholeOf hC' hj (k := c1) (by omega) (by rw [es1, ec1]) ⟨hI, ?_⟩))))))
    rw [hb]
    have hss := ss_set1v hC' hi e0 es hso (v := (m_whole M j).toInt32.toInt8.toInt32) (by rw [Int8.toInt8_toInt32])
    have ek : ksR (ksLa K 0) (rfi ad i) (osS (kO K (ad i)) (m_whole M j).toInt32.toInt8.toInt32) = ksO (ksLa K 0) (ad i) (osS (kO (ksLa K 0) (ad i)) (m_whole M j).toInt32.toInt8.toInt32) := by
      rw [g1]
      rfl
    rw [ek]
    refine rC_answer (sv_ok hss hi) (go _ ?_)
    unfold w_M_self
    refine rM_unboxes (k := 3) j5 hs1 es1 (by decide) (fun z => by rw [h1] at z; cases z) (fun _ r _ => br_f n01 ⟨vi, vp8, rfl, ?_⟩)
    rw [ci, e8c]
    exact ⟨n, ad, by omega, ho, hs, rfl, sc_held hss ⟨i, hi, rfl, rfl⟩⟩
