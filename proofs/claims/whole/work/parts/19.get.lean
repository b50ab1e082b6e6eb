theorem kd_lt {f : Nat} (hf : f < 9) (h : f < 3 ∨ 5 < f) : kd f < 8 ∧ (kd f < 6 ↔ f ≠ 2) ∧ sf_FIELD_WANTS.getD f 0 = nI (kd f) ∧ kdf f = nI (kd f) := by
  rcases (show f = 0 ∨ f = 1 ∨ f = 2 ∨ f = 6 ∨ f = 7 ∨ f = 8 by omega) with rfl | rfl | rfl | rfl | rfl | rfl <;> decide
theorem kd_hi {f : Nat} (h1 : 3 ≤ f) (h2 : f ≤ 5) : (8 : Int32) ≤ sf_FIELD_WANTS.getD f 0 ∧ kdf f < 0 := by
  rcases (show f = 3 ∨ f = 4 ∨ f = 5 by omega) with rfl | rfl | rfl <;> decide
theorem rC_field {n : Nat} {ad : Nat → Nat} {K : KT} {M : MT} (h : SS n ad K M) (hs : kSh K = m_shared M) {i s : Nat} (hi : i ≤ n) (e0 : i = 0 ↔ s = 0) (es : m_sort M i = nI s) {f : Nat} (hf : f < 9) (hr : rff s f = 0) {post : Option Nat → KT → Prop} (p1 : 3 ≤ f → f ≤ 5 → ∀ r : Option Nat, RR n ad r (fo M i f) → post r K) (p2 : (f < 3 ∨ 5 < f) → ∀ q : Nat, q ∉ kL K → FV n ad M i f → post (some q) (kNew K q (oW (kd f) (fw M i f) (m_real M i)))) : w_C_fieldOf K (rfi ad i) (nI f) post := by
  rcases (show f = 0 ∨ f = 1 ∨ f = 2 ∨ f = 3 ∨ f = 4 ∨ f = 5 ∨ f = 6 ∨ f = 7 ∨ f = 8 by omega) with rfl | rfl | rfl | rfl | rfl | rfl | rfl | rfl | rfl
  · exact rC_field0 h hs hi e0 es hr (p2 (by decide))
  · exact rC_field1 h hs hi e0 es hr (p2 (by decide))
  · exact rC_field2 h hs hi e0 es hr (p2 (by decide))
  · exact rC_field3 h hs hi e0 es hr (p1 (by decide) (by decide))
  · exact rC_field4 h hs hi e0 es hr (p1 (by decide) (by decide))
  · exact rC_field5 h hs hi e0 es hr (p1 (by decide) (by decide))
  · exact rC_field6 h hs hi e0 es hr (p2 (by decide))
  · exact rC_field7 h hs hi e0 es hr (p2 (by decide))
  · exact rC_field8 h hs hi e0 es hr (p2 (by decide))
theorem rM_take {f i : Nat} (hf : f < 3 ∨ 5 < f) (hf9 : f < 9) {M : MT} (hi : i < 520) {post : MT → Prop} (hp : ∀ (w : Int64) (r : UInt64), (f ≠ 2 → w = fw M i f) → (f = 2 → r = m_real M i) → post (ms_realNow (ms_wholeNow M w) r)) : w_M_take M (nI i) (nI f) post := by
  rcases (show f = 0 ∨ f = 1 ∨ f = 2 ∨ f = 6 ∨ f = 7 ∨ f = 8 by omega) with rfl | rfl | rfl | rfl | rfl | rfl
  · exact rM_take0 hi hp
  · exact rM_take1 hi hp
  · exact rM_take2 hi hp
  · exact rM_take6 hi hp
  · exact rM_take7 hi hp
  · exact rM_take8 hi hp
theorem sim_boxed {N n : Nat} {ad : Nat → Nat} {K : KT} {M : MT} (hn : n ≤ N) (hs : kSh K = m_shared M) (hC : SS n ad K M) {q h k : Nat} (hq : q ∉ kL K) (hk : k < 8) {w w0 : Int64} {r r0 : UInt64} (hw : k < 6 → w = w0 ∧ rng k w0) (hr : 6 ≤ k → r = r0 ∧ vf_n64 r0) :
    Sim (N + 1) (ksH (kNew (ksLa K 0) q (oW k w0 r0)) h (some q)) (ms_last (ms_held (ms_real (ms_whole (ms_sort (ms_objects (ms_realNow (ms_wholeNow M w) r) (nI (n + 1))) (n + 1) (nI (k + 1))) (n + 1) w) (n + 1) r) h (nI (n + 1))) 0) := by
  obtain ⟨-, -, -, -, h4⟩ := id hC
  obtain ⟨d2, d3, d4, d5, d6, d7, d8⟩ := h4 (n + 1) (by omega)
  refine sim_made (M := M) (q := q) (h := h) (o := oW k w0 r0) (s := nI (k + 1)) (w := w) (r := r) (x := 0) hn hs hC hq rfl rfl rfl rfl rfl rfl rfl rfl rfl (fun i hi => pk_un hi) (fun i hi => pk_uLn hi) (fun i hi => vf_un hi) (fun _ _ => rfl) rfl rfl rfl rfl pk_us pk_uLs vf_us d5 ?_
  by_cases h6 : k < 6
  · have e : oW k w0 r0 = (0, nI k, w0, FP.l2d w0, 0, none, none, none, 0) := if_pos h6
    obtain ⟨q1, q2⟩ := hw h6
    rw [e, q1]
    exact Or.inl ⟨k, hk, rfl, rfl, rfl, fun _ => ⟨rfl, rfl, q2⟩, fun x => absurd x (by omega)⟩
  · have e : oW k w0 r0 = (0, nI k, 0, r0, 0, none, none, none, 0) := if_neg h6
    obtain ⟨q1, q2⟩ := hr (by omega)
    rw [e, q1]
    exact Or.inl ⟨k, hk, rfl, rfl, rfl, fun x => absurd x h6, fun _ => ⟨rfl, q2⟩⟩
theorem ss_garbage {n : Nat} {ad : Nat → Nat} {K : KT} {M : MT} (h : SS n ad K M) {q : Nat} {o : Ob} (hq : q ∉ kL K) : SS n ad (kNew K q o) M := by
  obtain ⟨h0, h1, h2, h3, h4⟩ := h
  refine ⟨h0, fun i a b => ?_, h2, h3, h4⟩
  obtain ⟨m1, m2⟩ := h1 i a b
  refine ⟨List.mem_append_left _ m1, ?_⟩
  have e : kO (kNew K q o) (ad i) = kO K (ad i) := va_up_ne _ _ (fun e => hq (e ▸ m1))
  rw [e]
  exact m2
set_option maxHeartbeats 4000000 in
theorem rM_get {M : MT} {n hh i s f : Nat} (hh9 : hh < 9) (hi : i < 520) (hs : s ≤ 12) (es : m_sort M i = nI s) (e0 : i = 0 ↔ s = 0) (x1 : m_held M hh = nI i) (hf : f < 9) (ho : m_objects M = nI n) (hn : n + 1 < 520) {post : Int32 → MT → Prop}
    (p0 : rff s f ≠ 0 → post (nI (rff s f)) (ms_last M 0))
    (p1 : rff s f = 0 → 3 ≤ f → f ≤ 5 → post 0 (ms_last (ms_held M 8 (fo M i f)) 0))
    (p2 : rff s f = 0 → (f < 3 ∨ 5 < f) → ∀ (w : Int64) (r : UInt64), (f ≠ 2 → w = fw M i f) → (f = 2 → r = m_real M i) → post 0 (ms_last (ms_held (ms_real (ms_whole (ms_sort (ms_objects (ms_realNow (ms_wholeNow M w) r) (nI (n + 1))) (n + 1) (nI (kd f + 1))) (n + 1) w) (n + 1) r) 8 (nI (n + 1))) 0)) : w_M_get M (nI hh) (nI f) post := by
  have vi := vp_in_nI (N := 520) hi (by omega)
  unfold w_M_get
  rw [nI_clamp (show hh < 2 ^ 31 by omega), x1]
  refine pM_in (nI_pos (by omega)) (nI_nlt (b := hh) (a := 8) (by omega) (by omega)) (br_f n01 (pM_in (nI_pos (by omega)) (nI_nlt (b := f) (a := 8) (by omega) (by omega)) (br_f n01 ⟨vp_in_nI hh9 (by omega), rM_reach hi hs es e0 hf ?_⟩)))
  by_cases hr : rff s f = 0
  · refine br_t (by rw [hr]; rfl) (pM_kindOf hf ?_)
    by_cases hf3 : f < 3 ∨ 5 < f
    · obtain ⟨k8, k6, -, kk⟩ := kd_lt hf hf3
      rw [kk]
      refine br_f (nI_pos (by omega)) (rM_take hf3 hf hi (fun w r hw hr' => pM_kindOf hf ?_))
      rw [kk]
      refine rM_box (k := kd f) (n := n) ho hn ⟨vp8, ?_⟩
      rw [e8c]
      exact p2 hr hf3 w r hw hr'
    · obtain ⟨-, kk⟩ := kd_hi (f := f) (by omega) (by omega)
      refine br_t kk ?_
      rw [nI_clamp (show i < 2 ^ 31 by omega), e8c]
      have p1' := p1 hr (by omega) (by omega)
      rcases (show f = 3 ∨ f = 4 ∨ f = 5 by omega) with rfl | rfl | rfl
      · repeat (first | refine br_t (by decide) ?_ | refine br_f (by decide) ?_)
        exact ⟨vi, vp8, p1'⟩
      · repeat (first | refine br_t (by decide) ?_ | refine br_f (by decide) ?_)
        exact ⟨vi, vp8, p1'⟩
      · repeat (first | refine br_t (by decide) ?_ | refine br_f (by decide) ?_)
        exact ⟨vi, vp8, p1'⟩
  · refine br_f (fun e => hr (nI_inj (b := 0) ?_ (by omega) e)) (p0 hr)
    unfold rff
    repeat' split
    all_goals omega
/-! numbers that are told -/
def rr (k t : Nat) (w : Int64) (r : UInt64) : UInt64 := if 6 ≤ k then r else if t = 6 then FP.f2d (FP.l2f w) else FP.l2d w
def tv (k t : Nat) (w : Int64) (r : UInt64) : Int64 := if t < 6 then w else FP.d2l (FP.dmul (rr k t w r) (4620693217682128896 : UInt64))
theorem rr_n {k t : Nat} {w : Int64} {r : UInt64} (h : 6 ≤ k → vf_n64 r) : vf_n64 (rr k t w r) := by
  unfold rr
  by_cases h6 : 6 ≤ k
  · rw [if_pos h6]
    exact h h6
  · rw [if_neg h6]
    by_cases h7 : t = 6
    · rw [if_pos h7]
      exact fp_f2d (fp_l2f w)
    · rw [if_neg h7]
      exact fp_l2d w
theorem rM_convert {M : MT} {k t : Nat} (hk : k < 8) (ht : t < 8) {post : MT → Prop} (hp : ∀ r : UInt64, (6 ≤ t → r = rr k t (m_wholeNow M) (m_realNow M)) → post (ms_realNow M r)) : w_M_convert M (nI k) (nI t) post := by
  unfold w_M_convert w_M_convert_b22 w_M_convert_b43
  unfold rr at hp
  by_cases h6 : 6 ≤ k
  · have q : (6 : Int32) ≤ nI k := nI_le (a := 6) h6 (by omega)
    refine br_t q (br_t q ?_)
    exact hp (m_realNow M) (fun _ => by rw [if_pos h6])
  · have q : ¬ (6 : Int32) ≤ nI k := nI_ge (b := 6) (by omega) (by omega)
    refine br_f q ?_
    simp only [if_neg h6] at hp
    by_cases h7 : t = 6
    · subst h7
      refine br_t rfl ⟨fp_f2d (fp_l2f _), br_f q (br_f (by decide) ?_)⟩
      exact hp _ (fun _ => rfl)
    · simp only [if_neg h7] at hp
      refine br_f (fun e => h7 (nI_inj (b := 6) (by omega) (by omega) e)) (br_f q ?_)
      by_cases h8 : t = 7
      · subst h8
        refine br_t rfl ?_
        exact hp _ (fun _ => rfl)
      · refine br_f (fun e => h8 (nI_inj (b := 7) (by omega) (by omega) e)) ?_
        exact hp (m_realNow M) (fun e => absurd e (by omega))
theorem rM_told {M : MT} {t : Nat} (ht : t < 8) {post : Int64 → Prop} (hv : 6 ≤ t → vf_n64 (m_realNow M)) (p1 : t < 6 → post (m_wholeNow M)) (p2 : 6 ≤ t → post (FP.d2l (FP.dmul (m_realNow M) (4620693217682128896 : UInt64)))) : w_M_told M (nI t) post := by
  unfold w_M_told
  by_cases h6 : t < 6
  · exact br_f (nI_ge (b := 6) h6 (by omega)) (p1 h6)
  · exact br_t (nI_le (a := 6) (by omega) (by omega)) ⟨fp_8 (hv (by omega)), p2 (by omega)⟩
theorem wid_real : ∀ k, k < 8 → ∀ t, t < 8 → wid k t = true → 6 ≤ k → 6 ≤ t := by decide
theorem rC_toldAs {K : KT} {q k t : Nat} {w : Int64} {r : UInt64} (hm : q ∈ kL K) (e : kO K q = oW k w r) (hk : k < 8) (ht : t < 8) (hw : wid k t = true) (hv : 6 ≤ k → vf_n64 r) {post : Int64 → Prop} (hp : post (tv k t w r)) : w_v_toldAs K (some q) (nI t) post := by
  have e1 : (kO K q).1 = 0 := by rw [e]; exact oW_tag k w r
  have hT : isT K (some q) 0 := ⟨q, rfl, hm, e1⟩
  refine ⟨q, rfl, hm, e1, ?_⟩
  have hb : kob K (some q) = oW k w r := e
  unfold w_B_toldAs
  rw [hb]
  have wr := wid_real k hk t ht hw
  unfold tv rr at hp
  by_cases h6 : k < 6
  · have eo : oW k w r = (0, nI k, w, FP.l2d w, 0, none, none, none, 0) := if_pos h6
    rw [eo]
    have x1 : oI ((0, nI k, w, FP.l2d w, 0, none, none, none, 0) : Ob) = nI k := rfl
    have x2 : oL ((0, nI k, w, FP.l2d w, 0, none, none, none, 0) : Ob) = w := rfl
    have x3 : oD ((0, nI k, w, FP.l2d w, 0, none, none, none, 0) : Ob) = FP.l2d w := rfl
    rw [x1, x2, x3]
    rw [if_neg (show ¬ 6 ≤ k by omega)] at hp
    by_cases t6 : t < 6
    · rw [if_pos t6] at hp
      exact br_f (nI_nlt (a := 5) (by omega) (by omega)) ⟨hT, hp⟩
    · rw [if_neg t6] at hp
      refine br_t (nI_lt (a := 5) (by omega) (by omega)) ?_
      by_cases h7 : t = 6
      · rw [if_pos h7] at hp
        subst h7
        exact br_t rfl ⟨hT, br_f (nI_nlt (a := 5) (by omega) (by omega)) ⟨hT, fp_f2d (fp_l2f w), fp_8 (fp_f2d (fp_l2f w)), hp⟩⟩
      · rw [if_neg h7] at hp
        exact br_f (fun x => h7 (nI_inj (b := 6) (by omega) (by omega) x)) ⟨hT, fp_8 (fp_l2d w), hp⟩
  · have eo : oW k w r = (0, nI k, 0, r, 0, none, none, none, 0) := if_neg h6
    rw [eo]
    have x1 : oI ((0, nI k, 0, r, 0, none, none, none, 0) : Ob) = nI k := rfl
    have x3 : oD ((0, nI k, 0, r, 0, none, none, none, 0) : Ob) = r := rfl
    rw [x1, x3]
    have t6 := wr (by omega)
    have hv' := hv (by omega)
    rw [if_pos (show 6 ≤ k by omega), if_neg (show ¬ t < 6 by omega)] at hp
    refine br_t (nI_lt (a := 5) (by omega) (by omega)) ?_
    by_cases h7 : t = 6
    · subst h7
      exact br_t rfl ⟨hT, br_t (nI_lt (a := 5) (by omega) (by omega)) ⟨hT, fp_8 hv', hp⟩⟩
    · exact br_f (fun x => h7 (nI_inj (b := 6) (by omega) (by omega) x)) ⟨hT, fp_8 hv', hp⟩
set_option maxHeartbeats 4000000 in
theorem rM_getAs {M : MT} {n hh i s f : Nat} (hh9 : hh < 9) (hi : i < 520) (hs : s ≤ 12) (es : m_sort M i = nI s) (e0 : i = 0 ↔ s = 0) (x1 : m_held M hh = nI i) (hf : f < 9) {t : Nat} (ht : t < 8) (hv : rff s f = 0 → f = 2 → vf_n64 (m_real M i)) {post : Int32 → MT → Prop}
    (p0 : rff s f ≠ 0 → post (nI (rff s f)) (ms_last M 0))
    (p1 : rff s f = 0 → (3 ≤ f ∧ f ≤ 5) ∨ ((f < 3 ∨ 5 < f) ∧ wid (kd f) t = false) → post 2 (ms_last M 0))
    (p2 : rff s f = 0 → (f < 3 ∨ 5 < f) → wid (kd f) t = true → ∀ (w : Int64) (r : UInt64), post 0 (ms_last (ms_realNow (ms_wholeNow M w) r) (tv (kd f) t (fw M i f) (m_real M i)))) : w_M_getAs M (nI hh) (nI f) (nI t) post := by
  unfold w_M_getAs
  rw [nI_clamp (show hh < 2 ^ 31 by omega), x1]
  refine pM_in (nI_pos (by omega)) (nI_nlt (b := hh) (a := 8) (by omega) (by omega)) (br_f n01 (pM_in (nI_pos (by omega)) (nI_nlt (b := f) (a := 8) (by omega) (by omega)) (br_f n01 (pM_in (nI_pos (by omega)) (nI_nlt (b := t) (a := 7) (by omega) (by omega)) (br_f n01 ⟨vp_in_nI hh9 (by omega), rM_reach hi hs es e0 hf ?_⟩)))))
  by_cases hr : rff s f = 0
  · refine br_t (by rw [hr]; rfl) (pM_kindOf hf ?_)
    by_cases hf3 : f < 3 ∨ 5 < f
    · obtain ⟨k8, k6, -, kk⟩ := kd_lt hf hf3
      rw [kk]
      refine br_f (nI_pos (by omega)) (pM_widens k8 ht ?_)
      cases hw : wid (kd f) t
      · exact br_t rfl (p1 hr (Or.inr ⟨hf3, hw⟩))
      · refine br_f n01 (rM_take hf3 hf hi (fun w r hw' hr' => rM_convert k8 ht (fun r' e' => ?_)))
        have p2' := p2 hr hf3 hw w r'
        have e2 : 6 ≤ t → r' = rr (kd f) t (fw M i f) (m_real M i) := fun t6 => by
          have q : r' = rr (kd f) t w r := e' t6
          rw [q]
          by_cases f2 : f = 2
          · have g6 : 6 ≤ kd f := by rw [f2]; decide
            rw [hr' f2]
            unfold rr
            rw [if_pos g6, if_pos g6]
          · rw [hw' f2]
            have : ¬ 6 ≤ kd f := by have := k6.mpr f2; omega
            unfold rr
            rw [if_neg this, if_neg this]
        have vn : vf_n64 (rr (kd f) t (fw M i f) (m_real M i)) := rr_n (fun k6' => hv hr (by
          rcases Nat.decEq f 2 with z | z
          · have := k6.mpr z
            omega
          · exact z))
        refine rM_told ht (fun t6 => ?_) (fun t6 => ?_) (fun t6 => ?_)
        · show vf_n64 r'
          rw [e2 t6]
          exact vn
        · have q : tv (kd f) t (fw M i f) (m_real M i) = fw M i f := if_pos t6
          rw [q] at p2'
          have f2 : f ≠ 2 := fun z => by
            have := wid_real (kd f) k8 t ht hw (by rw [z]; decide)
            omega
          have qw : m_wholeNow (ms_realNow (ms_realNow (ms_wholeNow M w) r) r') = fw M i f := hw' f2
          rw [qw]
          exact p2'
        · have q : tv (kd f) t (fw M i f) (m_real M i) = FP.d2l (FP.dmul r' (4620693217682128896 : UInt64)) := by
            rw [e2 t6]
            exact if_neg (by omega)
          rw [q] at p2'
          exact p2'
    · obtain ⟨-, kk⟩ := kd_hi (f := f) (by omega) (by omega)
      exact br_t kk (p1 hr (Or.inl ⟨by omega, by omega⟩))
  · refine br_f (fun e => hr (nI_inj (b := 0) ?_ (by omega) e)) (p0 hr)
    unfold rff
    repeat' split
    all_goals omega
theorem rff_lt (s f : Nat) : rff s f < 2 ^ 31 := by
  unfold rff
  repeat' split
  all_goals omega
theorem rff_ne {s f : Nat} (h : rff s f ≠ 0) : ¬ nI (rff s f) = 0 := fun e => h (nI_inj (b := 0) (rff_lt s f) (by omega) e)
theorem fo_RR {n : Nat} {ad : Nat → Nat} {r : Option Nat} {x : Int32} {K : KT} {M : MT} (hC : SS n ad K M) (h : RR n ad r x) : okR K r := by
  obtain ⟨j, hj, -, e⟩ := h
  rw [e]
  exact sv_ok hC hj
theorem sim_get {N : Nat} {K : KT} {M : MT} (hN : N + 1 < 520) (hS : Sim N K M) (a1 a2 : Int32) : w_C_get K a1 a2 (fun r K' => w_M_get M a1 a2 (fun r' M' => r = r' ∧ Sim (N + 1) K' M')) := by
  have hS0 := hS.up (Nat.le_succ N)
  obtain ⟨n, ad, hn, ho, hs, hl, hC⟩ := hS
  unfold w_C_get
  rcases ixs a1 (n := 9) (by omega) with ⟨h, hh, rfl⟩ | h1
  · have c1 : ¬ nI h < 0 := nI_pos (by omega)
    refine pC_below c1 (nI_ge (b := 9) hh (by omega)) (br_f n01 ?_)
    rcases ixs a2 (n := 9) (by omega) with ⟨f, hf, rfl⟩ | h2
    · refine pC_below (nI_pos (by omega)) (nI_ge (b := 9) hf (by omega)) (br_f n01 ⟨vp_in_nI hh (by omega), fun r er => ?_⟩)
      rw [nI_clamp (show h < 2 ^ 31 by omega)] at er
      obtain ⟨i, hi, x1, x2⟩ := sc_hand hC hh
      have er : r = rfi ad i := er.trans x2
      subst er
      obtain ⟨s, hs12, es, et, e0⟩ := sv_sort hC hi
      have hC' : SS n ad (ksLa K 0) M := hC
      refine rC_owner hC' hi hs12 et e0 hf ?_
      by_cases hr : rff s f = 0
      · refine br_t (by rw [hr]; rfl) (rC_field hC' hs hi e0 es hf hr (fun f3 f5 r hr' => ?_) (fun f3 q hq hv => ?_))
        · refine rC_answer (fo_RR hC' hr') (rM_get (n := n) hh (by omega) hs12 es e0 x1 hf ho (by omega) (fun z => absurd hr z) (fun _ _ _ => ⟨rfl, ?_⟩) (fun _ z => by omega))
          exact ⟨n, ad, by omega, ho, hs, rfl, sc_held hC hr'⟩
        · refine rC_answer (okR_new (show (oW (kd f) (fw M i f) (m_real M i)).1 < 5 by rw [oW_tag]; decide)) (rM_get (n := n) hh (by omega) hs12 es e0 x1 hf ho (by omega) (fun z => absurd hr z) (fun _ _ _ => by omega) (fun _ _ w r hw hr' => ⟨rfl, ?_⟩))
          obtain ⟨k8, k6, -, -⟩ := kd_lt hf f3
          exact sim_boxed hn hs hC hq k8 (fun z => ⟨hw (k6.mp z), hv.1⟩) (fun z => by
            have f2 : f = 2 := by
              rcases Nat.decEq f 2 with y | y
              · have := k6.mpr y
                omega
              · exact y
            exact ⟨hr' f2, hv.2 f2⟩)
      · refine br_f (rff_ne hr) (rM_get (n := n) hh (by omega) hs12 es e0 x1 hf ho (by omega) (fun _ => ⟨rfl, ?_⟩) (fun z => absurd z hr) (fun z => absurd z hr))
        exact ⟨n, ad, by omega, ho, hs, rfl, hC⟩
    · refine pC_nbelow h2 (br_t rfl ?_)
      unfold w_M_get
      exact pM_in c1 (nI_nlt (b := h) (a := 8) (by omega) (by omega)) (br_f n01 (pM_nin (ix_lt (n := 8) (by omega) h2) (br_t rfl ⟨rfl, hS0⟩)))
  · refine pC_nbelow h1 (br_t rfl ?_)
    unfold w_M_get
    exact pM_nin (ix_lt (n := 8) (by omega) h1) (br_t rfl ⟨rfl, hS0⟩)
theorem sim_getAs {N : Nat} {K : KT} {M : MT} (hN : N < 520) (hS : Sim N K M) (a1 a2 a3 : Int32) : w_C_getAs K a1 a2 a3 (fun r K' => w_M_getAs M a1 a2 a3 (fun r' M' => r = r' ∧ Sim N K' M')) := by
  have hS0 := hS
  obtain ⟨n, ad, hn, ho, hs, hl, hC⟩ := hS
  unfold w_C_getAs
  rcases ixs a1 (n := 9) (by omega) with ⟨h, hh, rfl⟩ | h1
  · have c1 : ¬ nI h < 0 := nI_pos (by omega)
    refine pC_below c1 (nI_ge (b := 9) hh (by omega)) (br_f n01 ?_)
    rcases ixs a2 (n := 9) (by omega) with ⟨f, hf, rfl⟩ | h2
    · refine pC_below (nI_pos (by omega)) (nI_ge (b := 9) hf (by omega)) (br_f n01 ?_)
      rcases ixs a3 (n := 8) (by omega) with ⟨t, ht, rfl⟩ | h3
      · refine pC_below (nI_pos (by omega)) (nI_ge (b := 8) ht (by omega)) (br_f n01 ⟨vp_in_nI hh (by omega), fun r er => ?_⟩)
        rw [nI_clamp (show h < 2 ^ 31 by omega)] at er
        obtain ⟨i, hi, x1, x2⟩ := sc_hand hC hh
        have er : r = rfi ad i := er.trans x2
        subst er
        obtain ⟨s, hs12, es, et, e0⟩ := sv_sort hC hi
        have hC' : SS n ad (ksLa K 0) M := hC
        have hS2 : Sim N (ksLa K 0) (ms_last M 0) := ⟨n, ad, by omega, ho, hs, rfl, hC⟩
        have hv2 : rff s f = 0 → f = 2 → vf_n64 (m_real M i) := fun z f2 => by
          subst f2
          obtain ⟨p, -, -, -, -, -, -, -, -, g8, -⟩ := sv_item hC hi e0 es ((rff_o (f := 2) (by decide) z).imp (fun x => x.1) id)
          exact g8
        have vf9 : vp_in (nI f) sf_FIELD_WANTS.length := vp_in_nI hf (show (9 : Nat) < 2 ^ 31 by decide)
        refine rC_owner hC' hi hs12 et e0 hf ?_
        by_cases hr : rff s f = 0
        · refine br_t (by rw [hr]; rfl) ⟨vf9, ?_⟩
          rw [nI_clamp (show f < 2 ^ 31 by omega)]
          by_cases f3 : f < 3 ∨ 5 < f
          · obtain ⟨k8, k6, kw, -⟩ := kd_lt hf f3
            rw [kw]
            refine br_f (nI_ge (b := 8) k8 (by omega)) ⟨vf9, pC_widens k8 ht ?_⟩
            cases hw : wid (kd f) t
            · refine br_t rfl (rM_getAs (n := 0) hh (by omega) hs12 es e0 x1 hf ht hv2 (fun z => absurd hr z) (fun _ _ => ⟨rfl, hS2⟩) (fun _ _ z => by rw [hw] at z; cases z))
            · refine br_f n01 (rC_field hC' hs hi e0 es hf hr (fun _ _ => by omega) (fun _ q hq hv => ⟨okR_new (show (oW (kd f) (fw M i f) (m_real M i)).1 < 5 by rw [oW_tag]; decide), ?_⟩))
              have tg : ktg (kNew (ksLa K 0) q (oW (kd f) (fw M i f) (m_real M i))) (some q) = 0 := by
                show (kob _ _).1 = 0
                rw [kob_new]
                exact oW_tag _ _ _
              rw [tg]
              refine br_f (by decide) ⟨isT_new (oW_tag _ _ _), ?_⟩
              refine rC_toldAs (List.mem_append_right _ (List.mem_singleton_self q)) kob_new k8 ht hw (fun z => hv.2 (by
                rcases Nat.decEq f 2 with y | y
                · have := k6.mpr y
                  omega
                · exact y)) (rM_getAs (n := 0) hh (by omega) hs12 es e0 x1 hf ht hv2 (fun z => absurd hr z) (fun _ z => by
                  rcases z with z | ⟨-, z⟩
                  · omega
                  · rw [hw] at z
                    cases z) (fun _ _ _ w r => ⟨rfl, ?_⟩))
              exact ⟨n, ad, hn, ho, hs, rfl, ss_garbage hC hq⟩
          · obtain ⟨w8, -⟩ := kd_hi (f := f) (by omega) (by omega)
            exact br_t w8 (rM_getAs (n := 0) hh (by omega) hs12 es e0 x1 hf ht hv2 (fun z => absurd hr z) (fun _ _ => ⟨rfl, hS2⟩) (fun _ z => absurd z f3))
        · exact br_f (rff_ne hr) (rM_getAs (n := 0) hh (by omega) hs12 es e0 x1 hf ht hv2 (fun _ => ⟨rfl, hS2⟩) (fun z => absurd z hr) (fun z => absurd z hr))
      · refine pC_nbelow h3 (br_t rfl ?_)
        unfold w_M_getAs
        exact pM_in c1 (nI_nlt (b := h) (a := 8) (by omega) (by omega)) (br_f n01 (pM_in (nI_pos (by omega)) (nI_nlt (b := f) (a := 8) (by omega) (by omega)) (br_f n01 (pM_nin (ix_lt (n := 7) (by omega) h3) (br_t rfl ⟨rfl, hS0⟩)))))
    · refine pC_nbelow h2 (br_t rfl ?_)
      unfold w_M_getAs
      exact pM_in c1 (nI_nlt (b := h) (a := 8) (by omega) (by omega)) (br_f n01 (pM_nin (ix_lt (n := 8) (by omega) h2) (br_t rfl ⟨rfl, hS0⟩)))
  · refine pC_nbelow h1 (br_t rfl ?_)
    unfold w_M_getAs
    exact pM_nin (ix_lt (n := 8) (by omega) h1) (br_t rfl ⟨rfl, hS0⟩)
