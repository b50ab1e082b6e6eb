/-! what converts, on both sides -/
def cvt (s k : Nat) : Bool := decide (1 ≤ s ∧ s ≤ 8) && wid (s - 1) k
def fit (s f : Nat) : Bool := if f = 4 then true else if f = 3 then decide (s = 0 ∨ s = 9) else decide (s = 0 ∨ s = 10 ∨ s = 11)
theorem bI01 (b : Bool) : z01 (bI b) := by cases b <;> first | exact Or.inl rfl | exact Or.inr rfl
theorem sv_box {n : Nat} {ad : Nat → Nat} {K : KT} {M : MT} (h : SS n ad K M) {j k : Nat} (hj : j ≤ n) (hk : k < 8) (es : m_sort M j = nI (k + 1)) : ∃ p : Nat, rfi ad j = some p ∧ p ∈ kL K ∧ (kO K p).1 = 0 ∧ oI (kO K p) = nI k ∧ (k < 6 → oL (kO K p) = m_whole M j ∧ oD (kO K p) = FP.l2d (m_whole M j) ∧ rng k (m_whole M j)) ∧ (6 ≤ k → oD (kO K p) = m_real M j ∧ vf_n64 (m_real M j)) := by
  have h0 : j ≠ 0 := fun e => by
    rw [e, h.1] at es
    exact absurd (nI_inj (a := 0) (by omega) (by omega) es) (by omega)
  obtain ⟨m1, m2⟩ := h.2.1 j (by omega) hj
  refine ⟨ad j, sv_some h0, m1, ?_⟩
  rw [es] at m2
  rcases m2 with ⟨k', hk', e, f1, f2, f3, f4⟩ | ⟨t, -, e, -⟩ | ⟨e, -⟩ | ⟨⟨e, -⟩ | ⟨e, -⟩, -⟩
  · have := nI_inj (by omega) (by omega) e
    have : k' = k := by omega
    subst this
    exact ⟨f1, f2, f3, f4⟩
  · exact absurd (nI_inj (b := 9) (by omega) (by omega) e) (by omega)
  · exact absurd (nI_inj (b := 12) (by omega) (by omega) e) (by omega)
  · exact absurd (nI_inj (b := 10) (by omega) (by omega) e) (by omega)
  · exact absurd (nI_inj (b := 11) (by omega) (by omega) e) (by omega)
theorem tg_box {s : Nat} (hs : s ≤ 12) : (tgN s == 0) = decide (1 ≤ s ∧ s ≤ 8) := by
  rcases (show s = 0 ∨ s = 1 ∨ s = 2 ∨ s = 3 ∨ s = 4 ∨ s = 5 ∨ s = 6 ∨ s = 7 ∨ s = 8 ∨ s = 9 ∨ s = 10 ∨ s = 11 ∨ s = 12 by omega) with rfl | rfl | rfl | rfl | rfl | rfl | rfl | rfl | rfl | rfl | rfl | rfl | rfl <;> decide
theorem tg_text {s : Nat} (hs : s ≤ 12) : (tgN s == 4) = decide (s = 9) := by
  rcases (show s = 0 ∨ s = 1 ∨ s = 2 ∨ s = 3 ∨ s = 4 ∨ s = 5 ∨ s = 6 ∨ s = 7 ∨ s = 8 ∨ s = 9 ∨ s = 10 ∨ s = 11 ∨ s = 12 by omega) with rfl | rfl | rfl | rfl | rfl | rfl | rfl | rfl | rfl | rfl | rfl | rfl | rfl <;> decide
theorem tg_it {s : Nat} (hs : s ≤ 12) : (tgN s == 1 || tgN s == 3) = decide (s = 10 ∨ s = 11) := by
  rcases (show s = 0 ∨ s = 1 ∨ s = 2 ∨ s = 3 ∨ s = 4 ∨ s = 5 ∨ s = 6 ∨ s = 7 ∨ s = 8 ∨ s = 9 ∨ s = 10 ∨ s = 11 ∨ s = 12 by omega) with rfl | rfl | rfl | rfl | rfl | rfl | rfl | rfl | rfl | rfl | rfl | rfl | rfl <;> decide
theorem rC_conv {n : Nat} {ad : Nat → Nat} {K : KT} {M : MT} (h : SS n ad K M) {j s k : Nat} (hj : j ≤ n) (hs : s ≤ 12) (es : m_sort M j = nI s) (et : ktg K (rfi ad j) = tgN s) (hk : k < 8) {post : Int32 → Prop} (hp : post (bI (cvt s k))) : w_C_converts K (rfi ad j) (nI k) post := by
  unfold w_C_converts
  refine br_f (fun e => absurd (nI_inj (b := 10) (by omega) (by omega) e) (by omega)) (br_f (fun e => absurd (nI_inj (b := 8) (by omega) (by omega) e) (by omega)) (br_f (fun e => absurd (nI_inj (b := 9) (by omega) (by omega) e) (by omega)) ⟨sv_ok h hj, ?_⟩))
  rw [et, tg_box hs]
  unfold cvt at hp
  cases hb : decide (1 ≤ s ∧ s ≤ 8)
  · rw [hb] at hp
    exact br_t rfl ⟨Or.inl rfl, hp⟩
  · rw [hb] at hp
    have h18 := of_decide_eq_true hb
    obtain ⟨p, e1, e2, e3, e4, -⟩ := sv_box h (k := s - 1) hj (by omega) (by rw [es, show s - 1 + 1 = s by omega])
    have hT : isT K (rfi ad j) 0 := ⟨p, e1, e2, e3⟩
    refine br_f n01 ⟨hT, hT, ?_⟩
    have q : oI (kob K (rfi ad j)) = nI (s - 1) := by rw [e1]; exact e4
    rw [q]
    exact pC_widens (by omega) hk ⟨bI01 _, hp⟩
theorem rM_unboxes {M : MT} {j s k : Nat} (hj : j < 520) (hs : s ≤ 12) (es : m_sort M j = nI s) (hk : k < 8) {post : Int32 → MT → Prop} (p0 : cvt s k = false → post 0 M) (p1 : cvt s k = true → ∀ r : UInt64, (6 ≤ k → r = rr (s - 1) k (m_whole M j) (m_real M j)) → post 1 (ms_realNow (ms_wholeNow M (m_whole M j)) r)) : w_M_unboxes M (nI j) (nI k) post := by
  have v := vp_in_nI (N := 520) hj (by omega)
  unfold w_M_unboxes
  refine rM_isBox hj hs es ?_
  rw [nI_clamp (show j < 2 ^ 31 by omega)]
  unfold cvt at p0 p1
  cases hb : decide (1 ≤ s ∧ s ≤ 8)
  · rw [hb] at p0
    exact br_t rfl ⟨Or.inl rfl, p0 rfl⟩
  · rw [hb] at p0 p1
    have h18 := of_decide_eq_true hb
    have e1 : m_sort M j - 1 = nI (s - 1) := by
      rw [es]
      have := nI_pred (s - 1)
      rw [show s - 1 + 1 = s by omega] at this
      exact this
    have e2 : m_sort (ms_realNow (ms_wholeNow M (m_whole M j)) (m_real (ms_wholeNow M (m_whole M j)) j)) j - 1 = nI (s - 1) := e1
    rw [e1, e2]
    refine br_f n01 ⟨v, pM_widens (by omega) hk ?_⟩
    cases hw : wid (s - 1) k
    · rw [hw] at p0
      exact br_t rfl ⟨Or.inl rfl, p0 rfl⟩
    · rw [hw] at p1
      exact br_f n01 ⟨v, v, v, rM_convert (by omega) hk (fun r hr => ⟨Or.inr rfl, p1 rfl r hr⟩)⟩
theorem rC_fits {n : Nat} {ad : Nat → Nat} {K : KT} {M : MT} (h : SS n ad K M) {j s f : Nat} (hj : j ≤ n) (hs : s ≤ 12) (et : ktg K (rfi ad j) = tgN s) (e0 : j = 0 ↔ s = 0) (hf : 3 ≤ f ∧ f ≤ 5) {post : Int32 → Prop} (hp : post (bI (fit s f))) : w_C_converts K (rfi ad j) (sf_FIELD_WANTS.getD f 0) post := by
  unfold w_C_converts
  have hok := sv_ok h hj
  rcases (show f = 3 ∨ f = 4 ∨ f = 5 by omega) with rfl | rfl | rfl
  · refine br_f (by decide) (br_t (by decide) ?_)
    by_cases z : j = 0
    · rw [show fit s 3 = true from decide_eq_true (Or.inl (e0.mp z))] at hp
      exact br_t (sv_none.mpr z) ⟨Or.inr rfl, hp⟩
    · refine br_f (fun e => z (sv_none.mp e)) ⟨hok, ?_⟩
      rw [et, tg_text hs]
      have q : fit s 3 = decide (s = 9) := by
        show decide (s = 0 ∨ s = 9) = decide (s = 9)
        exact decide_eq_decide.mpr ⟨fun x => x.resolve_left (fun y => z (e0.mpr y)), Or.inr⟩
      rw [q] at hp
      cases hb : decide (s = 9)
      · rw [hb] at hp
        exact br_t rfl ⟨Or.inl rfl, hp⟩
      · rw [hb] at hp
        exact br_f n01 ⟨Or.inr rfl, hp⟩
  · exact br_t (by decide) ⟨Or.inr rfl, hp⟩
  · refine br_f (by decide) (br_f (by decide) (br_t (by decide) ?_))
    by_cases z : j = 0
    · rw [show fit s 5 = true from decide_eq_true (Or.inl (e0.mp z))] at hp
      exact br_t (sv_none.mpr z) ⟨Or.inr rfl, hp⟩
    · refine br_f (fun e => z (sv_none.mp e)) ⟨hok, ?_⟩
      rw [et, tg_it hs]
      have q : fit s 5 = decide (s = 10 ∨ s = 11) := by
        show decide (s = 0 ∨ s = 10 ∨ s = 11) = decide (s = 10 ∨ s = 11)
        exact decide_eq_decide.mpr ⟨fun x => x.resolve_left (fun y => z (e0.mpr y)), Or.inr⟩
      rw [q] at hp
      cases hb : decide (s = 10 ∨ s = 11)
      · rw [hb] at hp
        exact br_t rfl ⟨Or.inl rfl, hp⟩
      · rw [hb] at hp
        exact br_f n01 ⟨Or.inr rfl, hp⟩
theorem rM_fits {M : MT} {j s f : Nat} (hj : j < 520) (hs : s ≤ 12) (es : m_sort M j = nI s) (e0 : j = 0 ↔ s = 0) (hf : 3 ≤ f ∧ f ≤ 5) {post : Int32 → Prop} (hp : post (bI (fit s f))) : w_M_fits M (nI j) (nI f) post := by
  have v := vp_in_nI (N := 520) hj (by omega)
  unfold w_M_fits
  rcases (show f = 3 ∨ f = 4 ∨ f = 5 by omega) with rfl | rfl | rfl
  · refine br_t (by decide) ?_
    by_cases z : j = 0
    · rw [show fit s 3 = true from decide_eq_true (Or.inl (e0.mp z))] at hp
      exact br_t (by rw [z]; rfl) ⟨Or.inr rfl, hp⟩
    · refine br_f (fun e => z (nI_inj (b := 0) (by omega) (by omega) e)) ⟨v, ?_⟩
      rw [nI_clamp (show j < 2 ^ 31 by omega), es]
      by_cases s9 : s = 9
      · rw [show fit s 3 = true from decide_eq_true (Or.inr s9)] at hp
        exact br_t (by rw [s9]; rfl) ⟨Or.inr rfl, hp⟩
      · rw [show fit s 3 = false from decide_eq_false (fun x => x.elim (fun y => z (e0.mpr y)) s9)] at hp
        exact br_f (fun e => s9 (nI_inj (b := 9) (by omega) (by omega) e)) ⟨Or.inl rfl, hp⟩
  · exact br_f (by decide) (br_t (by decide) ⟨Or.inr rfl, hp⟩)
  · refine br_f (by decide) (br_f (by decide) ?_)
    by_cases z : j = 0
    · rw [show fit s 5 = true from decide_eq_true (Or.inl (e0.mp z))] at hp
      exact br_t (by rw [z]; rfl) ⟨Or.inr rfl, hp⟩
    · refine br_f (fun e => z (nI_inj (b := 0) (by omega) (by omega) e)) (rM_isItem hj hs es ?_)
      have q : fit s 5 = decide (s = 10 ∨ s = 11) := by
        show decide (s = 0 ∨ s = 10 ∨ s = 11) = decide (s = 10 ∨ s = 11)
        exact decide_eq_decide.mpr ⟨fun x => x.resolve_left (fun y => z (e0.mpr y)), Or.inr⟩
      rw [q] at hp
      cases hb : decide (s = 10 ∨ s = 11)
      · rw [hb] at hp
        exact br_t rfl ⟨Or.inl rfl, hp⟩
      · rw [hb] at hp
        exact br_f n01 ⟨Or.inr rfl, hp⟩
theorem rC_wholeOf {n : Nat} {ad : Nat → Nat} {K : KT} {M : MT} (h : SS n ad K M) {j k : Nat} (hj : j ≤ n) (hk : k < 6) (es : m_sort M j = nI (k + 1)) {post : Int64 → Prop} (hp : post (m_whole M j)) : w_C_wholeOf K (rfi ad j) post := by
  obtain ⟨p, e1, e2, e3, e4, e5, -⟩ := sv_box h (k := k) hj (by omega) es
  have hT : isT K (rfi ad j) 0 := ⟨p, e1, e2, e3⟩
  have et : ktg K (rfi ad j) = 0 := by rw [e1]; exact e3
  unfold w_C_wholeOf
  refine ⟨sv_ok h hj, ?_⟩
  rw [et]
  refine br_f (by decide) ⟨hT, hT, ?_⟩
  have q : oL (kob K (rfi ad j)) = m_whole M j := by rw [e1]; exact (e5 hk).1
  rw [q]
  exact hp
theorem rC_realOf {n : Nat} {ad : Nat → Nat} {K : KT} {M : MT} (h : SS n ad K M) {j k : Nat} (hj : j ≤ n) (hk : k < 8) (es : m_sort M j = nI (k + 1)) {post : UInt64 → Prop} (hp : vf_n64 (rr k 7 (m_whole M j) (m_real M j)) → post (rr k 7 (m_whole M j) (m_real M j))) : w_C_realOf K (rfi ad j) post := by
  obtain ⟨p, e1, e2, e3, e4, e5, e6⟩ := sv_box h (k := k) hj hk es
  have hT : isT K (rfi ad j) 0 := ⟨p, e1, e2, e3⟩
  have et : ktg K (rfi ad j) = 0 := by rw [e1]; exact e3
  have vn : vf_n64 (rr k 7 (m_whole M j) (m_real M j)) := rr_n (fun z => (e6 z).2)
  have hp' := hp vn
  unfold w_C_realOf
  refine ⟨sv_ok h hj, ?_⟩
  rw [et]
  refine br_f (by decide) ⟨hT, hT, ?_⟩
  have q : oD (kob K (rfi ad j)) = rr k 7 (m_whole M j) (m_real M j) := by
    rw [e1]
    show oD (kO K p) = _
    unfold rr
    by_cases h6 : 6 ≤ k
    · rw [if_pos h6]
      exact (e6 h6).1
    · rw [if_neg h6, if_neg (by decide)]
      exact (e5 (by omega)).2.1
  rw [q]
  exact hp'
theorem rC_textOf {n : Nat} {ad : Nat → Nat} {K : KT} {M : MT} (h : SS n ad K M) {j s : Nat} (hj : j ≤ n) (hs : s ≤ 12) (et : ktg K (rfi ad j) = tgN s) (e0 : j = 0 ↔ s = 0) (hf : fit s 3 = true) {post : Option Nat → Prop} (hp : post (rfi ad j)) : w_C_textOf K (rfi ad j) post := by
  have hq : s = 0 ∨ s = 9 := of_decide_eq_true hf
  unfold w_C_textOf
  refine ⟨sv_ok h hj, ?_⟩
  rw [et, tg_text hs]
  rcases hq with q | q
  · have z := e0.mpr q
    rw [z] at hp ⊢
    rw [q]
    exact br_t rfl hp
  · subst q
    exact br_f (by decide) ⟨sv_isT h hj (fun z => absurd (e0.mp z) (by decide)) et, hp⟩
theorem rC_itemOf {n : Nat} {ad : Nat → Nat} {K : KT} {M : MT} (h : SS n ad K M) {j s : Nat} (hj : j ≤ n) (hs : s ≤ 12) (et : ktg K (rfi ad j) = tgN s) (e0 : j = 0 ↔ s = 0) (hf : fit s 5 = true) {post : Option Nat → Prop} (hp : post (rfi ad j)) : w_C_itemOf K (rfi ad j) post := by
  have hq : s = 0 ∨ s = 10 ∨ s = 11 := of_decide_eq_true hf
  unfold w_C_itemOf
  refine ⟨sv_ok h hj, ?_⟩
  rw [et, tg_it hs]
  rcases hq with q | q | q
  · have z := e0.mpr q
    rw [z] at hp ⊢
    rw [q]
    exact br_t rfl hp
  · subst q
    exact br_f (by decide) ⟨Or.inl (sv_isT h hj (fun z => absurd (e0.mp z) (by decide)) et), hp⟩
  · subst q
    exact br_f (by decide) ⟨Or.inr (sv_isT h hj (fun z => absurd (e0.mp z) (by decide)) et), hp⟩
/-! set -/
theorem rC_stored {K : KT} {p : Nat} {f : Nat} {r3 : Option Nat} (hm : p ∈ kL K) (ht : (kO K p).1 = 1 ∨ (kO K p).1 = 3) (h7 : ¬ nI f = 7) (h8 : ¬ nI f = 8) {post : KT → Prop} (hp : w_I_write K p (nI f) r3 post) : w_C_store K (some p) (nI f) r3 post := by
  unfold w_C_store
  refine br_f h7 ?_
  have e1 : ktg K (some p) = (kO K p).1 := rfl
  have hok : okR K (some p) := fun a e => by
    cases e
    exact ⟨hm, by rcases ht with e | e <;> rw [e] <;> decide⟩
  refine ⟨hok, ?_⟩
  rw [e1]
  rcases ht with e | e
  · rw [e]
    exact br_f (by decide) ⟨Or.inl ⟨p, rfl, hm, e⟩, p, rfl, hm, Or.inl ⟨e, hp⟩⟩
  · rw [e]
    exact br_f (by decide) ⟨Or.inr ⟨p, rfl, hm, e⟩, p, rfl, hm, Or.inr ⟨e, br_f h8 ⟨⟨p, rfl, hm, e⟩, hp⟩⟩⟩
theorem rC_stored8 {K : KT} {p : Nat} {r3 : Option Nat} (hm : p ∈ kL K) (e : (kO K p).1 = 3) {post : KT → Prop} (hp : w_C_wholeOf K r3 (fun w => post (ksO K p (osX (kO K p) w.toInt32.toInt16.toInt32)))) : w_C_store K (some p) 8 r3 post := by
  unfold w_C_store
  have e1 : ktg K (some p) = (kO K p).1 := rfl
  have hok : okR K (some p) := fun a x => by
    cases x
    exact ⟨hm, by rw [e]; decide⟩
  have hT : isT K (some p) 3 := ⟨p, rfl, hm, e⟩
  refine br_f (by decide) ⟨hok, ?_⟩
  rw [e1, e]
  refine br_f (by decide) ⟨Or.inr hT, p, rfl, hm, Or.inr ⟨e, br_t rfl ?_⟩⟩
  unfold w_C_wholeOf at hp ⊢
  exact ⟨hp.1, fun c => ⟨hT, hp.2.1 c⟩, fun c => ⟨(hp.2.2 c).1, (hp.2.2 c).2.1, hT, (hp.2.2 c).2.2⟩⟩
set_option maxHeartbeats 4000000 in
theorem rM_b126_0 {M : MT} {i : Nat} (hi : i < 520) {z1 z3 z5 z6 z7 : Int32} {post : Int32 → MT → Prop} (hp : post 0 (ms_last (ms_whole M i (m_wholeNow M)) 0)) : w_M_set_b126 M z1 (nI 0) z3 (nI i) z5 z6 z7 post := by
  have v := vp_in_nI (N := 520) hi (by omega)
  unfold w_M_set_b126
  repeat (first | refine br_t (by decide) ?_ | refine br_f (by decide) ?_ | refine ⟨v, ?_⟩)
  try rw [nI_clamp (show i < 2 ^ 31 by omega)]
  exact hp
set_option maxHeartbeats 4000000 in
theorem rM_b126_1 {M : MT} {i : Nat} (hi : i < 520) {z1 z3 z5 z6 z7 : Int32} {post : Int32 → MT → Prop} (hp : post 0 (ms_last (ms_small M i (m_wholeNow M).toInt32) 0)) : w_M_set_b126 M z1 (nI 1) z3 (nI i) z5 z6 z7 post := by
  have v := vp_in_nI (N := 520) hi (by omega)
  unfold w_M_set_b126
  repeat (first | refine br_t (by decide) ?_ | refine br_f (by decide) ?_ | refine ⟨v, ?_⟩)
  try rw [nI_clamp (show i < 2 ^ 31 by omega)]
  exact hp
set_option maxHeartbeats 4000000 in
theorem rM_b126_2 {M : MT} {i : Nat} (hi : i < 520) {z1 z3 z5 z6 z7 : Int32} {post : Int32 → MT → Prop} (hp : post 0 (ms_last (ms_real M i (m_realNow M)) 0)) : w_M_set_b126 M z1 (nI 2) z3 (nI i) z5 z6 z7 post := by
  have v := vp_in_nI (N := 520) hi (by omega)
  unfold w_M_set_b126
  repeat (first | refine br_t (by decide) ?_ | refine br_f (by decide) ?_ | refine ⟨v, ?_⟩)
  try rw [nI_clamp (show i < 2 ^ 31 by omega)]
  exact hp
set_option maxHeartbeats 4000000 in
theorem rM_b126_3 {M : MT} {i : Nat} (hi : i < 520) {z1 z3 z5 z6 z7 : Int32} {post : Int32 → MT → Prop} (hp : post 0 (ms_last (ms_text M i z5) 0)) : w_M_set_b126 M z1 (nI 3) z3 (nI i) z5 z6 z7 post := by
  have v := vp_in_nI (N := 520) hi (by omega)
  unfold w_M_set_b126
  repeat (first | refine br_t (by decide) ?_ | refine br_f (by decide) ?_ | refine ⟨v, ?_⟩)
  try rw [nI_clamp (show i < 2 ^ 31 by omega)]
  exact hp
set_option maxHeartbeats 4000000 in
theorem rM_b126_4 {M : MT} {i : Nat} (hi : i < 520) {z1 z3 z5 z6 z7 : Int32} {post : Int32 → MT → Prop} (hp : post 0 (ms_last (ms_any M i z5) 0)) : w_M_set_b126 M z1 (nI 4) z3 (nI i) z5 z6 z7 post := by
  have v := vp_in_nI (N := 520) hi (by omega)
  unfold w_M_set_b126
  repeat (first | refine br_t (by decide) ?_ | refine br_f (by decide) ?_ | refine ⟨v, ?_⟩)
  try rw [nI_clamp (show i < 2 ^ 31 by omega)]
  exact hp
set_option maxHeartbeats 4000000 in
theorem rM_b126_5 {M : MT} {i : Nat} (hi : i < 520) {z1 z3 z5 z6 z7 : Int32} {post : Int32 → MT → Prop} (hp : post 0 (ms_last (ms_next M i z5) 0)) : w_M_set_b126 M z1 (nI 5) z3 (nI i) z5 z6 z7 post := by
  have v := vp_in_nI (N := 520) hi (by omega)
  unfold w_M_set_b126
  repeat (first | refine br_t (by decide) ?_ | refine br_f (by decide) ?_ | refine ⟨v, ?_⟩)
  try rw [nI_clamp (show i < 2 ^ 31 by omega)]
  exact hp
set_option maxHeartbeats 4000000 in
theorem rM_b126_7 {M : MT} {i : Nat} (hi : i < 520) {z1 z3 z5 z6 z7 : Int32} {post : Int32 → MT → Prop} (hp : post 0 (ms_last (ms_shared M (m_wholeNow M)) 0)) : w_M_set_b126 M z1 (nI 7) z3 (nI i) z5 z6 z7 post := by
  have v := vp_in_nI (N := 520) hi (by omega)
  unfold w_M_set_b126
  repeat (first | refine br_t (by decide) ?_ | refine br_f (by decide) ?_ | refine ⟨v, ?_⟩)
  try rw [nI_clamp (show i < 2 ^ 31 by omega)]
  exact hp
set_option maxHeartbeats 4000000 in
theorem rM_b126_8 {M : MT} {i : Nat} (hi : i < 520) {z1 z3 z5 z6 z7 : Int32} {post : Int32 → MT → Prop} (hp : post 0 (ms_last (ms_extra M i (m_wholeNow M).toInt32) 0)) : w_M_set_b126 M z1 (nI 8) z3 (nI i) z5 z6 z7 post := by
  have v := vp_in_nI (N := 520) hi (by omega)
  unfold w_M_set_b126
  repeat (first | refine br_t (by decide) ?_ | refine br_f (by decide) ?_ | refine ⟨v, ?_⟩)
  try rw [nI_clamp (show i < 2 ^ 31 by omega)]
  exact hp
set_option maxHeartbeats 4000000 in
theorem rM_set {M : MT} {hh i s f g j s' : Nat} (hh9 : hh < 9) (hi : i < 520) (hs : s ≤ 12) (es : m_sort M i = nI s) (e0 : i = 0 ↔ s = 0) (x1 : m_held M hh = nI i) (hf : f < 9) (hg : g < 9) (hj : j < 520) (hs' : s' ≤ 12) (es' : m_sort M j = nI s') (e0' : j = 0 ↔ s' = 0) (x1' : m_held M g = nI j) {post : Int32 → MT → Prop}
    (p0 : rff s f ≠ 0 → post (nI (rff s f)) (ms_last M 0))
    (p3 : rff s f = 0 → f = 6 → post 3 (ms_last M 0))
    (p2 : rff s f = 0 → f ≠ 6 → ((3 ≤ f ∧ f ≤ 5) ∧ fit s' f = false) ∨ ((f < 3 ∨ 5 < f) ∧ cvt s' (kd f) = false) → post 2 (ms_last M 0))
    (p1 : rff s f = 0 → f ≠ 6 → (f < 3 ∨ 5 < f) → cvt s' (kd f) = true → ∀ (r : UInt64) (z1 z3 z6 z7 : Int32), (6 ≤ kd f → r = rr (s' - 1) (kd f) (m_whole M j) (m_real M j)) → w_M_set_b126 (ms_realNow (ms_wholeNow M (m_whole M j)) r) z1 (nI f) z3 (nI i) (nI j) z6 z7 post)
    (p4 : rff s f = 0 → 3 ≤ f ∧ f ≤ 5 → fit s' f = true → ∀ z1 z3 z6 z7 : Int32, w_M_set_b126 M z1 (nI f) z3 (nI i) (nI j) z6 z7 post) : w_M_set M (nI hh) (nI f) (nI g) post := by
  unfold w_M_set
  rw [nI_clamp (show hh < 2 ^ 31 by omega), x1, nI_clamp (show g < 2 ^ 31 by omega), x1']
  refine pM_in (nI_pos (by omega)) (nI_nlt (b := hh) (a := 8) (by omega) (by omega)) (br_f n01 (pM_in (nI_pos (by omega)) (nI_nlt (b := f) (a := 8) (by omega) (by omega)) (br_f n01 (pM_in (nI_pos (by omega)) (nI_nlt (b := g) (a := 8) (by omega) (by omega)) (br_f n01 ⟨vp_in_nI hh9 (by omega), vp_in_nI hg (by omega), rM_reach hi hs es e0 hf ?_⟩)))))
  by_cases hr : rff s f = 0
  · refine br_t (by rw [hr]; rfl) ?_
    by_cases f6 : f = 6
    · refine br_t (by rw [f6]; rfl) ?_
      exact br_f (by decide) (p3 hr f6)
    · refine br_f (fun e => f6 (nI_inj (b := 6) (by omega) (by omega) e)) ?_
      unfold w_M_set_b71
      refine br_t (by rw [hr]; rfl) (pM_kindOf hf ?_)
      by_cases hf3 : f < 3 ∨ 5 < f
      · obtain ⟨k8, k6, -, kk⟩ := kd_lt hf hf3
        rw [kk]
        refine br_t (nI_le (a := 0) (by omega) (by omega)) (rM_unboxes hj hs' es' k8 (fun z => ?_) (fun z r hr' => ?_))
        · exact br_t rfl (p2 hr f6 (Or.inr ⟨hf3, z⟩))
        · exact br_f n01 (p1 hr f6 hf3 z r _ _ _ _ hr')
      · obtain ⟨-, kk⟩ := kd_hi (f := f) (by omega) (by omega)
        refine br_f (by
          rcases (show f = 3 ∨ f = 4 ∨ f = 5 by omega) with rfl | rfl | rfl <;> decide) (rM_fits hj hs' es' e0' (by omega) ?_)
        cases z : fit s' f
        · exact br_t rfl (p2 hr f6 (Or.inl ⟨by omega, z⟩))
        · exact br_f n01 (p4 hr (by omega) z _ _ _ _)
  · exact br_f (rff_ne hr) (br_f (rff_ne hr) (p0 hr))
