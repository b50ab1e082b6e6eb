/-! what an object is, on both sides -/
theorem rM_isBox {M : MT} {i s : Nat} {post : Int32 → Prop} (hi : i < 520) (hs : s ≤ 12) (es : m_sort M i = nI s) (hp : post (bI (decide (1 ≤ s ∧ s ≤ 8)))) : w_M_isBox M (nI i) post := by
  unfold w_M_isBox
  rw [nI_clamp (show i < 2 ^ 31 by omega), es]
  refine ⟨vp_in_nI hi (by omega), ?_⟩
  rcases (show s = 0 ∨ 9 ≤ s ∨ (1 ≤ s ∧ s ≤ 8) by omega) with h | h | h
  · subst h
    exact pM_nin (Or.inl (by decide)) ⟨Or.inl rfl, hp⟩
  · have e : decide (1 ≤ s ∧ s ≤ 8) = false := decide_eq_false (by omega)
    rw [e] at hp
    exact pM_nin (Or.inr (nI_lt (a := 8) (b := s) (by omega) (by omega))) ⟨Or.inl rfl, hp⟩
  · have e : decide (1 ≤ s ∧ s ≤ 8) = true := decide_eq_true h
    rw [e] at hp
    exact pM_in (nI_nlt (a := s) (b := 1) (by omega) (by omega)) (nI_nlt (b := s) (a := 8) (by omega) (by omega)) ⟨Or.inr rfl, hp⟩
theorem rM_isItem {M : MT} {i s : Nat} {post : Int32 → Prop} (hi : i < 520) (hs : s ≤ 12) (es : m_sort M i = nI s) (hp : post (bI (decide (s = 10 ∨ s = 11)))) : w_M_isItem M (nI i) post := by
  unfold w_M_isItem
  have v := vp_in_nI (N := 520) hi (by omega)
  rw [nI_clamp (show i < 2 ^ 31 by omega), es]
  refine ⟨v, ?_⟩
  by_cases h : s = 10
  · subst h
    exact br_t rfl ⟨Or.inr rfl, hp⟩
  · refine br_f (fun e => h (nI_inj (b := 10) (by omega) (by omega) e)) ⟨v, ?_⟩
    by_cases h2 : s = 11
    · subst h2
      exact br_t rfl ⟨Or.inr rfl, hp⟩
    · have e : decide (s = 10 ∨ s = 11) = false := decide_eq_false (by omega)
      rw [e] at hp
      exact br_f (fun e => h2 (nI_inj (b := 11) (by omega) (by omega) e)) ⟨Or.inl rfl, hp⟩
/-- the type of an object of sort s -/
def tyS (s : Nat) : Nat := [0, 0, 1, 0, 1, 2, 1, 1, 1, 3, 5, 6, 0].getD s 0
set_option maxHeartbeats 4000000 in
theorem rM_isOf0 {M : MT} {i s : Nat} {post : Int32 → Prop} (hi : i < 520) (hs : s ≤ 12) (h1 : 1 ≤ s) (es : m_sort M i = nI s) (hp : post (bI (tkf 0 (tyS s)))) : w_M_isOf M (nI i) (nI 0) post := by
  unfold w_M_isOf
  have v := vp_in_nI (N := 520) hi (by omega)
  rw [nI_clamp (show i < 2 ^ 31 by omega), es]
  refine ⟨v, ?_⟩
  rcases (show s = 1 ∨ s = 2 ∨ s = 3 ∨ s = 4 ∨ s = 5 ∨ s = 6 ∨ s = 7 ∨ s = 8 ∨ s = 9 ∨ s = 10 ∨ s = 11 ∨ s = 12 by omega) with rfl | rfl | rfl | rfl | rfl | rfl | rfl | rfl | rfl | rfl | rfl | rfl <;> (repeat' (first | exact ⟨Or.inr rfl, hp⟩ | exact ⟨Or.inl rfl, hp⟩ | refine br_t (by decide) ?_ | refine br_f (by decide) ?_ | refine rM_isBox hi (by decide) es ?_ | refine rM_isItem hi (by decide) es ?_))
set_option maxHeartbeats 4000000 in
theorem rM_isOf1 {M : MT} {i s : Nat} {post : Int32 → Prop} (hi : i < 520) (hs : s ≤ 12) (h1 : 1 ≤ s) (es : m_sort M i = nI s) (hp : post (bI (tkf 1 (tyS s)))) : w_M_isOf M (nI i) (nI 1) post := by
  unfold w_M_isOf
  have v := vp_in_nI (N := 520) hi (by omega)
  rw [nI_clamp (show i < 2 ^ 31 by omega), es]
  refine ⟨v, ?_⟩
  rcases (show s = 1 ∨ s = 2 ∨ s = 3 ∨ s = 4 ∨ s = 5 ∨ s = 6 ∨ s = 7 ∨ s = 8 ∨ s = 9 ∨ s = 10 ∨ s = 11 ∨ s = 12 by omega) with rfl | rfl | rfl | rfl | rfl | rfl | rfl | rfl | rfl | rfl | rfl | rfl <;> (repeat' (first | exact ⟨Or.inr rfl, hp⟩ | exact ⟨Or.inl rfl, hp⟩ | refine br_t (by decide) ?_ | refine br_f (by decide) ?_ | refine rM_isBox hi (by decide) es ?_ | refine rM_isItem hi (by decide) es ?_))
set_option maxHeartbeats 4000000 in
theorem rM_isOf2 {M : MT} {i s : Nat} {post : Int32 → Prop} (hi : i < 520) (hs : s ≤ 12) (h1 : 1 ≤ s) (es : m_sort M i = nI s) (hp : post (bI (tkf 2 (tyS s)))) : w_M_isOf M (nI i) (nI 2) post := by
  unfold w_M_isOf
  have v := vp_in_nI (N := 520) hi (by omega)
  rw [nI_clamp (show i < 2 ^ 31 by omega), es]
  refine ⟨v, ?_⟩
  rcases (show s = 1 ∨ s = 2 ∨ s = 3 ∨ s = 4 ∨ s = 5 ∨ s = 6 ∨ s = 7 ∨ s = 8 ∨ s = 9 ∨ s = 10 ∨ s = 11 ∨ s = 12 by omega) with rfl | rfl | rfl | rfl | rfl | rfl | rfl | rfl | rfl | rfl | rfl | rfl <;> (repeat' (first | exact ⟨Or.inr rfl, hp⟩ | exact ⟨Or.inl rfl, hp⟩ | refine br_t (by decide) ?_ | refine br_f (by decide) ?_ | refine rM_isBox hi (by decide) es ?_ | refine rM_isItem hi (by decide) es ?_))
set_option maxHeartbeats 4000000 in
theorem rM_isOf3 {M : MT} {i s : Nat} {post : Int32 → Prop} (hi : i < 520) (hs : s ≤ 12) (h1 : 1 ≤ s) (es : m_sort M i = nI s) (hp : post (bI (tkf 3 (tyS s)))) : w_M_isOf M (nI i) (nI 3) post := by
  unfold w_M_isOf
  have v := vp_in_nI (N := 520) hi (by omega)
  rw [nI_clamp (show i < 2 ^ 31 by omega), es]
  refine ⟨v, ?_⟩
  rcases (show s = 1 ∨ s = 2 ∨ s = 3 ∨ s = 4 ∨ s = 5 ∨ s = 6 ∨ s = 7 ∨ s = 8 ∨ s = 9 ∨ s = 10 ∨ s = 11 ∨ s = 12 by omega) with rfl | rfl | rfl | rfl | rfl | rfl | rfl | rfl | rfl | rfl | rfl | rfl <;> (repeat' (first | exact ⟨Or.inr rfl, hp⟩ | exact ⟨Or.inl rfl, hp⟩ | refine br_t (by decide) ?_ | refine br_f (by decide) ?_ | refine rM_isBox hi (by decide) es ?_ | refine rM_isItem hi (by decide) es ?_))
set_option maxHeartbeats 4000000 in
theorem rM_isOf4 {M : MT} {i s : Nat} {post : Int32 → Prop} (hi : i < 520) (hs : s ≤ 12) (h1 : 1 ≤ s) (es : m_sort M i = nI s) (hp : post (bI (tkf 4 (tyS s)))) : w_M_isOf M (nI i) (nI 4) post := by
  unfold w_M_isOf
  have v := vp_in_nI (N := 520) hi (by omega)
  rw [nI_clamp (show i < 2 ^ 31 by omega), es]
  refine ⟨v, ?_⟩
  rcases (show s = 1 ∨ s = 2 ∨ s = 3 ∨ s = 4 ∨ s = 5 ∨ s = 6 ∨ s = 7 ∨ s = 8 ∨ s = 9 ∨ s = 10 ∨ s = 11 ∨ s = 12 by omega) with rfl | rfl | rfl | rfl | rfl | rfl | rfl | rfl | rfl | rfl | rfl | rfl <;> (repeat' (first | exact ⟨Or.inr rfl, hp⟩ | exact ⟨Or.inl rfl, hp⟩ | refine br_t (by decide) ?_ | refine br_f (by decide) ?_ | refine rM_isBox hi (by decide) es ?_ | refine rM_isItem hi (by decide) es ?_))
set_option maxHeartbeats 4000000 in
theorem rM_isOf5 {M : MT} {i s : Nat} {post : Int32 → Prop} (hi : i < 520) (hs : s ≤ 12) (h1 : 1 ≤ s) (es : m_sort M i = nI s) (hp : post (bI (tkf 5 (tyS s)))) : w_M_isOf M (nI i) (nI 5) post := by
  unfold w_M_isOf
  have v := vp_in_nI (N := 520) hi (by omega)
  rw [nI_clamp (show i < 2 ^ 31 by omega), es]
  refine ⟨v, ?_⟩
  rcases (show s = 1 ∨ s = 2 ∨ s = 3 ∨ s = 4 ∨ s = 5 ∨ s = 6 ∨ s = 7 ∨ s = 8 ∨ s = 9 ∨ s = 10 ∨ s = 11 ∨ s = 12 by omega) with rfl | rfl | rfl | rfl | rfl | rfl | rfl | rfl | rfl | rfl | rfl | rfl <;> (repeat' (first | exact ⟨Or.inr rfl, hp⟩ | exact ⟨Or.inl rfl, hp⟩ | refine br_t (by decide) ?_ | refine br_f (by decide) ?_ | refine rM_isBox hi (by decide) es ?_ | refine rM_isItem hi (by decide) es ?_))
set_option maxHeartbeats 4000000 in
theorem rM_isOf6 {M : MT} {i s : Nat} {post : Int32 → Prop} (hi : i < 520) (hs : s ≤ 12) (h1 : 1 ≤ s) (es : m_sort M i = nI s) (hp : post (bI (tkf 6 (tyS s)))) : w_M_isOf M (nI i) (nI 6) post := by
  unfold w_M_isOf
  have v := vp_in_nI (N := 520) hi (by omega)
  rw [nI_clamp (show i < 2 ^ 31 by omega), es]
  refine ⟨v, ?_⟩
  rcases (show s = 1 ∨ s = 2 ∨ s = 3 ∨ s = 4 ∨ s = 5 ∨ s = 6 ∨ s = 7 ∨ s = 8 ∨ s = 9 ∨ s = 10 ∨ s = 11 ∨ s = 12 by omega) with rfl | rfl | rfl | rfl | rfl | rfl | rfl | rfl | rfl | rfl | rfl | rfl <;> (repeat' (first | exact ⟨Or.inr rfl, hp⟩ | exact ⟨Or.inl rfl, hp⟩ | refine br_t (by decide) ?_ | refine br_f (by decide) ?_ | refine rM_isBox hi (by decide) es ?_ | refine rM_isItem hi (by decide) es ?_))
set_option maxHeartbeats 4000000 in
theorem rM_isOf7 {M : MT} {i s : Nat} {post : Int32 → Prop} (hi : i < 520) (hs : s ≤ 12) (h1 : 1 ≤ s) (es : m_sort M i = nI s) (hp : post (bI (tkf 7 (tyS s)))) : w_M_isOf M (nI i) (nI 7) post := by
  unfold w_M_isOf
  have v := vp_in_nI (N := 520) hi (by omega)
  rw [nI_clamp (show i < 2 ^ 31 by omega), es]
  refine ⟨v, ?_⟩
  rcases (show s = 1 ∨ s = 2 ∨ s = 3 ∨ s = 4 ∨ s = 5 ∨ s = 6 ∨ s = 7 ∨ s = 8 ∨ s = 9 ∨ s = 10 ∨ s = 11 ∨ s = 12 by omega) with rfl | rfl | rfl | rfl | rfl | rfl | rfl | rfl | rfl | rfl | rfl | rfl <;> (repeat' (first | exact ⟨Or.inr rfl, hp⟩ | exact ⟨Or.inl rfl, hp⟩ | refine br_t (by decide) ?_ | refine br_f (by decide) ?_ | refine rM_isBox hi (by decide) es ?_ | refine rM_isItem hi (by decide) es ?_))
theorem rM_isOf {M : MT} {i s t : Nat} {post : Int32 → Prop} (hi : i < 520) (hs : s ≤ 12) (h1 : 1 ≤ s) (ht : t < 8) (es : m_sort M i = nI s) (hp : post (bI (tkf t (tyS s)))) : w_M_isOf M (nI i) (nI t) post := by
  rcases (show t = 0 ∨ t = 1 ∨ t = 2 ∨ t = 3 ∨ t = 4 ∨ t = 5 ∨ t = 6 ∨ t = 7 by omega) with rfl | rfl | rfl | rfl | rfl | rfl | rfl | rfl
  · exact rM_isOf0 hi hs h1 es hp
  · exact rM_isOf1 hi hs h1 es hp
  · exact rM_isOf2 hi hs h1 es hp
  · exact rM_isOf3 hi hs h1 es hp
  · exact rM_isOf4 hi hs h1 es hp
  · exact rM_isOf5 hi hs h1 es hp
  · exact rM_isOf6 hi hs h1 es hp
  · exact rM_isOf7 hi hs h1 es hp
theorem sv_tag {K : KT} {p : Nat} (hp : p ∈ kL K) {t : Nat} (h : (kO K p).1 = t) : isT K (some p) t := ⟨p, rfl, hp, h⟩
theorem rC_type {n : Nat} {ad : Nat → Nat} {K : KT} {M : MT} (h : SS n ad K M) {i s : Nat} (hi : i ≤ n) (h0 : i ≠ 0) (hs : s ≤ 12) (es : m_sort M i = nI s) {post : Int32 → Prop} (hp : post (nI (tyS s))) : w_v_type K (rfi ad i) post := by
  obtain ⟨m1, m2⟩ := h.2.1 i (by omega) hi
  rw [sv_some h0]
  refine ⟨ad i, rfl, m1, ?_⟩
  rcases m2 with ⟨k, hk, e, q, e2, -⟩ | ⟨t, -, e, q, -⟩ | ⟨e, q⟩ | ⟨⟨e, q⟩ | ⟨e, q, -⟩, -⟩
  · rw [es] at e
    have := nI_inj (by omega) (by omega) e
    subst this
    have e' : oI (kob K (some (ad i))) = nI k := e2
    refine Or.inl ⟨q, sv_tag m1 q, ?_⟩
    rw [e', nI_clamp (show k < 2 ^ 31 by omega)]
    refine ⟨vp_in_nI hk (show (8 : Nat) < 2 ^ 31 by decide), ?_⟩
    rcases (show k = 0 ∨ k = 1 ∨ k = 2 ∨ k = 3 ∨ k = 4 ∨ k = 5 ∨ k = 6 ∨ k = 7 by omega) with rfl | rfl | rfl | rfl | rfl | rfl | rfl | rfl <;> exact hp
  · rw [es] at e
    have := nI_inj (b := 9) (by omega) (by omega) e
    subst this
    exact Or.inr (Or.inr (Or.inr (Or.inr ⟨q, hp⟩)))
  · rw [es] at e
    have := nI_inj (b := 12) (by omega) (by omega) e
    subst this
    exact Or.inr (Or.inr (Or.inl ⟨q, hp⟩))
  · rw [es] at e
    have := nI_inj (b := 10) (by omega) (by omega) e
    subst this
    exact Or.inr (Or.inl ⟨q, hp⟩)
  · rw [es] at e
    have := nI_inj (b := 11) (by omega) (by omega) e
    subst this
    exact Or.inr (Or.inr (Or.inr (Or.inl ⟨q, hp⟩)))
theorem tyS_lt {s : Nat} (h : s ≤ 12) : tyS s < 13 := by
  rcases (show s = 0 ∨ s = 1 ∨ s = 2 ∨ s = 3 ∨ s = 4 ∨ s = 5 ∨ s = 6 ∨ s = 7 ∨ s = 8 ∨ s = 9 ∨ s = 10 ∨ s = 11 ∨ s = 12 by omega) with rfl | rfl | rfl | rfl | rfl | rfl | rfl | rfl | rfl | rfl | rfl | rfl | rfl <;> decide
theorem Sim.now {N : Nat} {K : KT} {M : MT} (h : Sim N K M) {w : Int64} {r : UInt64} : Sim N K (ms_realNow (ms_wholeNow M w) r) := by
  obtain ⟨n, ad, hn, ho, hs, hl, hC⟩ := h
  exact ⟨n, ad, hn, ho, hs, hl, hC⟩
theorem sim_cast {N : Nat} {K : KT} {M : MT} (hN : N < 520) (hS : Sim N K M) (a1 a2 : Int32) : w_C_cast K a1 a2 (fun r K' => w_M_cast M a1 a2 (fun r' M' => r = r' ∧ Sim N K' M')) := by
  have hS0 := hS
  obtain ⟨n, ad, hn, ho, hs, hl, hC⟩ := hS
  unfold w_C_cast
  rcases ixs a1 (n := 9) (by omega) with ⟨h, hh, rfl⟩ | h1
  · have c1 : ¬ nI h < 0 := nI_pos (by omega)
    have c2 : ¬ (9 : Int32) ≤ nI h := nI_ge (b := 9) hh (by omega)
    have c3 : ¬ (8 : Int32) < nI h := nI_nlt (b := h) (a := 8) (by omega) (by omega)
    have v1 : vp_in (nI h) 9 := vp_in_nI (by omega) (by omega)
    rw [nI_clamp (show h < 2 ^ 31 by omega)]
    obtain ⟨i, hi, x1, x2⟩ := sc_hand hC hh
    have x2' : kH (ksLa K 0) h = rfi ad i := x2
    refine pC_below c1 c2 (br_f n01 ?_)
    rcases ixs a2 (n := 8) (by omega) with ⟨t, ht, rfl⟩ | h2
    · have d1 : ¬ nI t < 0 := nI_pos (by omega)
      have d3 : ¬ (7 : Int32) < nI t := nI_nlt (b := t) (a := 7) (by omega) (by omega)
      refine pC_below d1 (nI_ge (b := 8) ht (by omega)) (br_f n01 ⟨v1, fun r er => ?_⟩)
      rw [er, x2']
      have hsim : Sim N (ksH (ksLa K 0) 8 (rfi ad i)) (ms_last (ms_held M 8 (nI i)) 0) := ⟨n, ad, hn, ho, hs, rfl, sc_held hC ⟨i, hi, rfl, rfl⟩⟩
      by_cases h0 : i = 0
      · subst h0
        refine br_t rfl (rC_answer (sv_ok (K := ksLa K 0) (M := M) hC hi) ?_)
        unfold w_M_cast
        rw [nI_clamp (show h < 2 ^ 31 by omega)]
        refine pM_in c1 c3 (br_f n01 (pM_in d1 d3 (br_f n01 ⟨v1, ?_⟩)))
        rw [x1, e8c]
        exact br_t rfl ⟨vp8, rfl, hsim⟩
      · obtain ⟨s, hs12, es, et, e0⟩ := sv_sort hC hi
        have h1s : 1 ≤ s := by
          rcases Nat.eq_zero_or_pos s with q | q
          · exact absurd (e0.mpr q) h0
          · exact q
        refine br_f (fun e => h0 (sv_none.mp e)) (rC_type (K := ksLa K 0) (M := M) hC hi h0 hs12 es (pC_takes (by omega) (tyS_lt hs12) ?_))
        have key : ∀ (b : Bool) (post : Int32 → MT → Prop), tkf t (tyS s) = b → (b = false → post 7 (ms_last M 0)) → (b = true → post 0 (ms_last (ms_held M 8 (nI i)) 0)) → w_M_cast M (nI h) (nI t) post := by
          intro b post hb q1 q2
          unfold w_M_cast
          rw [nI_clamp (show h < 2 ^ 31 by omega)]
          refine pM_in c1 c3 (br_f n01 (pM_in d1 d3 (br_f n01 ⟨v1, ?_⟩)))
          rw [x1, e8c]
          refine br_f (fun e => h0 (nI_inj (b := 0) (by omega) (by omega) e)) (rM_isOf (by omega) hs12 h1s ht es ?_)
          rw [hb]
          cases b
          · exact br_t rfl (q1 rfl)
          · exact br_f n01 ⟨vp8, q2 rfl⟩
        cases hb : tkf t (tyS s)
        · exact br_t rfl (key false _ hb (fun _ => ⟨rfl, n, ad, hn, ho, hs, rfl, hC⟩) (fun e => by cases e))
        · exact br_f n01 (rC_answer (sv_ok (K := ksLa K 0) (M := M) hC hi) (key true _ hb (fun e => by cases e) (fun _ => ⟨rfl, hsim⟩)))
    · refine pC_nbelow h2 (br_t rfl ?_)
      unfold w_M_cast
      exact pM_in c1 c3 (br_f n01 (pM_nin (ix_lt (n := 7) (by omega) h2) (br_t rfl ⟨rfl, hS0⟩)))
  · refine pC_nbelow h1 (br_t rfl ?_)
    unfold w_M_cast
    exact pM_nin (ix_lt (n := 8) (by omega) h1) (br_t rfl ⟨rfl, hS0⟩)
/-! value -/
theorem sim_value {N : Nat} {K : KT} {M : MT} (hN : N < 520) (hS : Sim N K M) (a1 : Int32) : w_C_value K a1 (fun r => w_M_value M a1 (fun r' M' => r = r' ∧ Sim N K M')) := by
  have hS0 := hS
  obtain ⟨n, ad, hn, ho, hs, hl, hC⟩ := hS
  unfold w_C_value
  rcases ixs a1 (n := 9) (by omega) with ⟨h, hh, rfl⟩ | h1
  · have c1 : ¬ nI h < 0 := nI_pos (by omega)
    have c2 : ¬ (9 : Int32) ≤ nI h := nI_ge (b := 9) hh (by omega)
    have c3 : ¬ (8 : Int32) < nI h := nI_nlt (b := h) (a := 8) (by omega) (by omega)
    have v1 : vp_in (nI h) 9 := vp_in_nI (by omega) (by omega)
    rw [nI_clamp (show h < 2 ^ 31 by omega)]
    obtain ⟨i, hi, x1, x2⟩ := sc_hand hC hh
    have vi : vp_in (nI i) 520 := vp_in_nI (by omega) (by omega)
    have ci : (nI i).toNatClampNeg = i := nI_clamp (by omega)
    have i5 : i < 520 := by omega
    refine pC_below c1 c2 (br_f n01 ⟨v1, fun r er => ?_⟩)
    rw [er, x2]
    by_cases h0 : i = 0
    · have es : m_sort M i = nI 0 := by rw [h0]; exact hC.1
      refine br_t (sv_none.mpr h0) ?_
      unfold w_M_value
      rw [nI_clamp (show h < 2 ^ 31 by omega), x1, ci]
      refine pM_in c1 c3 (br_f n01 ⟨v1, vi, ?_⟩)
      refine br_f (by rw [es]; decide) (rM_isBox i5 (by decide) es (br_t rfl ⟨rfl, hS0⟩))
    · obtain ⟨m1, m2⟩ := hC.2.1 i (by omega) hi
      refine br_f (fun e => h0 (sv_none.mp e)) ?_
      rw [sv_some h0]
      refine ⟨ad i, rfl, m1, ?_⟩
      rcases m2 with ⟨k, hk, e, q, e2, l1, l2⟩ | ⟨t, ht, e, q, e2, e3⟩ | ⟨e, q⟩ | ⟨⟨e, q⟩ | ⟨e, q, -⟩, -⟩
      · have e' : oI (kob K (some (ad i))) = nI k := e2
        have e9 : ¬ m_sort M i = 9 := by
          rw [e]
          exact fun z => absurd (nI_inj (b := 9) (by omega) (by omega) z) (by omega)
        have hm : ∀ post : Int64 → MT → Prop, (k < 6 → post (m_whole M i) (ms_realNow (ms_wholeNow M (m_whole M i)) (m_real M i))) → (6 ≤ k → vf_n64 (m_real M i) ∧ post (FP.d2l (FP.dmul (m_real M i) (4620693217682128896 : UInt64))) (ms_realNow (ms_wholeNow M (m_whole M i)) (m_real M i))) → w_M_value M (nI h) post := by
          intro post g1 g2
          unfold w_M_value
          rw [nI_clamp (show h < 2 ^ 31 by omega), x1, ci]
          refine pM_in c1 c3 (br_f n01 ⟨v1, vi, br_f e9 (rM_isBox i5 (s := k + 1) (by omega) e ?_)⟩)
          rw [decide_eq_true (show 1 ≤ k + 1 ∧ k + 1 ≤ 8 by omega)]
          refine br_f n01 ⟨vi, vi, vi, ?_⟩
          have es : m_sort (ms_realNow (ms_wholeNow M (m_whole M i)) (m_real (ms_wholeNow M (m_whole M i)) i)) i - 1 = nI k := by
            show m_sort M i - 1 = nI k
            rw [e]
            exact nI_pred k
          rw [es]
          by_cases h6 : k < 6
          · exact br_f (nI_ge (b := 6) h6 (by omega)) (g1 h6)
          · obtain ⟨w1, w2⟩ := g2 (by omega)
            exact br_t (nI_le (a := 6) (b := k) (by omega) (by omega)) ⟨fp_8 w1, w2⟩
        refine Or.inl ⟨q, sv_tag m1 q, ?_⟩
        rw [e']
        refine ⟨ad i, rfl, m1, q, ?_⟩
        unfold w_B_toldAs
        rw [e']
        have hb := sv_tag m1 q
        by_cases h6 : k < 6
        · refine br_f (nI_nlt (a := 5) (b := k) (by omega) (by omega)) ⟨hb, ?_⟩
          exact hm _ (fun _ => ⟨(l1 h6).1, hS0.now⟩) (fun z => absurd z (by omega))
        · obtain ⟨w1, w2⟩ := l2 (by omega)
          have w1' : oD (kob K (some (ad i))) = m_real M i := w1
          have k5 : (5 : Int32) < nI k := nI_lt (a := 5) (b := k) (by omega) (by omega)
          rw [w1']
          refine br_t k5 ?_
          by_cases k6 : k = 6
          · subst k6
            exact br_t rfl ⟨hb, br_t (by decide) ⟨hb, fp_8 w2, hm _ (fun z => absurd z (by omega)) (fun _ => ⟨w2, rfl, hS0.now⟩)⟩⟩
          · refine br_f (fun z => k6 (nI_inj (b := 6) (by omega) (by omega) z)) ⟨hb, fp_8 w2, hm _ (fun z => absurd z (by omega)) (fun _ => ⟨w2, rfl, hS0.now⟩)⟩
      · refine Or.inr (Or.inr (Or.inr (Or.inr ⟨q, sv_tag m1 q, ?_⟩)))
        unfold w_M_value
        rw [nI_clamp (show h < 2 ^ 31 by omega), x1, ci]
        refine pM_in c1 c3 (br_f n01 ⟨v1, vi, br_t e ⟨vi, ?_, hS0⟩⟩)
        have e2' : oI (kob K (some (ad i))) = nI t := e2
        rw [e2', e3]
        exact nI_l (by omega)
      · refine Or.inr (Or.inr (Or.inl ⟨q, ?_⟩))
        unfold w_M_value
        rw [nI_clamp (show h < 2 ^ 31 by omega), x1, ci]
        unfold w_H_told
        refine pM_in c1 c3 (br_f n01 ⟨v1, vi, br_f (by rw [e]; decide) ?_⟩)
        exact rM_isBox i5 (s := 12) (by decide) e (br_t rfl ⟨rfl, hS0⟩)
      · refine Or.inr (Or.inl ⟨q, ?_⟩)
        unfold w_M_value
        rw [nI_clamp (show h < 2 ^ 31 by omega), x1, ci]
        unfold w_H_told
        refine pM_in c1 c3 (br_f n01 ⟨v1, vi, br_f (by rw [e]; decide) ?_⟩)
        exact rM_isBox i5 (s := 10) (by decide) e (br_t rfl ⟨rfl, hS0⟩)
      · refine Or.inr (Or.inr (Or.inr (Or.inl ⟨q, ?_⟩)))
        unfold w_M_value
        rw [nI_clamp (show h < 2 ^ 31 by omega), x1, ci]
        unfold w_H_told
        refine pM_in c1 c3 (br_f n01 ⟨v1, vi, br_f (by rw [e]; decide) ?_⟩)
        exact rM_isBox i5 (s := 11) (by decide) e (br_t rfl ⟨rfl, hS0⟩)
  · refine pC_nbelow h1 (br_t rfl ?_)
    unfold w_M_value
    exact pM_nin (ix_lt (n := 8) (by omega) h1) (br_t rfl ⟨rfl, hS0⟩)
