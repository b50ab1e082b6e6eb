/-! look -/
theorem rfi_inj {n : Nat} {ad : Nat → Nat} (h : ∀ i j : Nat, 1 ≤ i → i ≤ n → 1 ≤ j → j ≤ n → ad i = ad j → i = j) {i j : Nat} (hi : i ≤ n) (hj : j ≤ n) (e : rfi ad i = rfi ad j) : i = j := by
  by_cases h0 : i = 0
  · subst h0
    exact (sv_none.mp e.symm).symm
  · by_cases h1 : j = 0
    · subst h1
      exact sv_none.mp e
    · rw [sv_some h0, sv_some h1] at e
      exact h i j (by omega) hi (by omega) hj (Option.some.inj e)
theorem sv_same {n : Nat} {ad : Nat → Nat} {K : KT} {M : MT} (h : SS n ad K M) (hn : n < 2 ^ 31) {i k : Nat} (hi : i ≤ n) (hk : k < 9) : kH K k = rfi ad i ↔ m_held M k = nI i := by
  obtain ⟨j, hj, x1, x2⟩ := sc_hand h hk
  rw [x1, x2]
  constructor
  · intro e
    rw [rfi_inj h.2.2.1 hj hi e]
  · intro e
    rw [nI_inj (by omega) (by omega) e]
theorem sv_first (P : Nat → Prop) (m : Nat) : (∃ j : Nat, j < m ∧ (∀ k, k < j → ¬ P k) ∧ P j) ∨ (∀ k, k < m → ¬ P k) := by
  induction m with
  | zero => exact Or.inr (fun k hk => absurd hk (by omega))
  | succ m ih =>
    rcases ih with ⟨j, h1, h2⟩ | h
    · exact Or.inl ⟨j, by omega, h2⟩
    · by_cases hp : P m
      · exact Or.inl ⟨m, by omega, h, hp⟩
      · refine Or.inr (fun k hk => ?_)
        by_cases e : k = m
        · exact e ▸ hp
        · exact h k (by omega)
def lhC (K : KT) (a : Option Nat) (post : Int32 → Prop) : Nat → Nat → Prop
  | 0, _ => post (-2)
  | m + 1, k => ∀ r : Option Nat, r = kH K k → ((r = a → post (nI k)) ∧ (¬ r = a → lhC K a post m (k + 1)))
theorem lhC_hit {K : KT} {a : Option Nat} {post : Int32 → Prop} {j : Nat} (h1 : ∀ k, k < j → ¬ kH K k = a) (h2 : kH K j = a) (hp : post (nI j)) : ∀ m k : Nat, k ≤ j → j < k + m → lhC K a post m k
  | 0, k, x, y => absurd y (by omega)
  | m + 1, k, x, y => fun r er => by
    subst er
    by_cases e : k = j
    · subst e
      exact br_t h2 hp
    · exact br_f (h1 k (by omega)) (lhC_hit h1 h2 hp m (k + 1) (by omega) (by omega))
theorem lhC_miss {K : KT} {a : Option Nat} {post : Int32 → Prop} (hp : post (-2)) : ∀ m k : Nat, (∀ j, j < k + m → ¬ kH K j = a) → lhC K a post m k
  | 0, _, _ => hp
  | m + 1, k, h => fun r er => by
    subst er
    exact br_f (h k (by omega)) (lhC_miss hp m (k + 1) (fun j hj => h j (by omega)))
def lhM (M : MT) (z : Int32) (post : Int32 → Prop) : Nat → Nat → Prop
  | 0, _ => post (-2)
  | m + 1, k => vp_in z 520 ∧ ((m_sort M z.toNatClampNeg < 10 → lhM M z post m (k + 1)) ∧ (¬ m_sort M z.toNatClampNeg < 10 → ((m_held M (nI k).toNatClampNeg = z → post (nI k)) ∧ (¬ m_held M (nI k).toNatClampNeg = z → lhM M z post m (k + 1)))))
theorem lhM_hit {M : MT} {z : Int32} {post : Int32 → Prop} {j : Nat} (hj : j < 2 ^ 31) (hv : vp_in z 520) (hs : ¬ m_sort M z.toNatClampNeg < 10) (h1 : ∀ k, k < j → ¬ m_held M k = z) (h2 : m_held M j = z) (hp : post (nI j)) : ∀ m k : Nat, k ≤ j → j < k + m → lhM M z post m k
  | 0, k, x, y => absurd y (by omega)
  | m + 1, k, x, y => by
    refine ⟨hv, br_f hs ?_⟩
    rw [nI_clamp (show k < 2 ^ 31 by omega)]
    by_cases e : k = j
    · subst e
      exact br_t h2 hp
    · exact br_f (h1 k (by omega)) (lhM_hit hj hv hs h1 h2 hp m (k + 1) (by omega) (by omega))
theorem lhM_miss {M : MT} {z : Int32} {post : Int32 → Prop} (hv : vp_in z 520) (hp : post (-2)) : ∀ m k : Nat, k + m < 2 ^ 31 → (m_sort M z.toNatClampNeg < 10 ∨ ∀ j, j < k + m → ¬ m_held M j = z) → lhM M z post m k
  | 0, _, _, _ => hp
  | m + 1, k, hb, h => by
    refine ⟨hv, ?_⟩
    rw [nI_clamp (show k < 2 ^ 31 by omega)]
    by_cases hs : m_sort M z.toNatClampNeg < 10
    · exact br_t hs (lhM_miss hv hp m (k + 1) (by omega) (Or.inl hs))
    · have h' := h.resolve_left hs
      exact br_f hs (br_f (h' k (by omega)) (lhM_miss hv hp m (k + 1) (by omega) (Or.inr (fun j hj => h' j (by omega)))))
theorem lhC_C {K : KT} {a : Option Nat} {post : Int32 → Prop} (ho : okR K a) (h : lhC K a post 8 0) : (ktg K a = 1 ∨ ktg K a = 3 ∨ ktg K a = 2) → w_C_leastHandleOf K a post := by
  intro ht
  unfold w_C_leastHandleOf
  refine ⟨ho, ?_⟩
  rcases ht with e | e | e
  · rw [e]
    exact br_f (by decide) h
  · rw [e]
    exact br_f (by decide) h
  · rw [e]
    exact br_t (by decide) ⟨ho, br_f (by decide) h⟩
theorem lhC_no {K : KT} {a : Option Nat} {post : Int32 → Prop} (ho : okR K a) (h : post (-2)) (h1 : ¬ ktg K a = 1) (h3 : ¬ ktg K a = 3) (h2 : ¬ ktg K a = 2) : w_C_leastHandleOf K a post := by
  unfold w_C_leastHandleOf
  refine ⟨ho, ?_⟩
  have e1 : (ktg K a == 1 || ktg K a == 3) = false := by simp [h1, h3]
  have e2 : (ktg K a == 2) = false := by simp [h2]
  rw [e1, e2]
  exact br_t rfl ⟨ho, br_t rfl h⟩
theorem lhM_M {M : MT} {z1 z2 z : Int32} {post : Int32 → Prop} (h : lhM M z post 8 0) : w_M_look_b33_0 M z1 z2 z post := h
theorem rC_sortOf {n : Nat} {ad : Nat → Nat} {K : KT} {M : MT} (h : SS n ad K M) {i : Nat} (hi : i ≤ n) {post : Int32 → Prop} (hp : post (m_sort M i)) : w_C_sortOf K (rfi ad i) post := by
  by_cases h0 : i = 0
  · subst h0
    rw [h.1] at hp
    exact br_t rfl hp
  · obtain ⟨m1, m2⟩ := h.2.1 i (by omega) hi
    rw [sv_some h0]
    refine br_f (by simp) ⟨ad i, rfl, m1, ?_⟩
    rcases m2 with ⟨k, -, hs, q, e, -⟩ | ⟨t, -, hs, q, -⟩ | ⟨hs, q⟩ | ⟨⟨hs, q⟩ | ⟨hs, q, -⟩, -⟩
    · refine Or.inl ⟨q, ⟨ad i, rfl, m1, q⟩, ?_⟩
      have e' : oI (kob K (some (ad i))) = nI k := e
      rw [e', nI_1]
      rw [hs] at hp
      exact hp
    · refine Or.inr (Or.inr (Or.inr (Or.inr ⟨q, ?_⟩)))
      rw [hs] at hp
      exact hp
    · refine Or.inr (Or.inr (Or.inl ⟨q, ?_⟩))
      rw [hs] at hp
      exact hp
    · refine Or.inr (Or.inl ⟨q, ?_⟩)
      rw [hs] at hp
      exact hp
    · refine Or.inr (Or.inr (Or.inr (Or.inl ⟨q, ?_⟩)))
      rw [hs] at hp
      exact hp
theorem sim_look {N : Nat} {K : KT} {M : MT} (hN : N < 520) (hS : Sim N K M) (a1 a2 : Int32) : w_C_look K a1 a2 (fun r => w_M_look M a1 a2 (fun r' => r = r')) := by
  obtain ⟨n, ad, hn, ho, hs, hl, hC⟩ := hS
  unfold w_C_look w_M_look
  rcases ixs a1 (n := 9) (by omega) with ⟨h, hh, rfl⟩ | h1
  · have c1 : ¬ nI h < 0 := nI_pos (by omega)
    have c2 : ¬ (9 : Int32) ≤ nI h := nI_ge (b := 9) hh (by omega)
    have c3 : ¬ (8 : Int32) < nI h := nI_nlt (b := h) (a := 8) (by omega) (by omega)
    have v1 : vp_in (nI h) 9 := vp_in_nI (by omega) (by omega)
    rw [nI_clamp (show h < 2 ^ 31 by omega)]
    obtain ⟨i, hi, x1, x2⟩ := sc_hand hC hh
    have vi : vp_in (nI i) 520 := vp_in_nI (by omega) (by omega)
    have ci : (nI i).toNatClampNeg = i := nI_clamp (by omega)
    refine pC_below c1 c2 (br_f n01 ?_)
    by_cases z : a2 = 0
    · refine br_t z ⟨v1, fun r er => ?_⟩
      rw [er, x2]
      refine rC_sortOf hC hi (pM_in c1 c3 (br_f n01 ⟨v1, br_t z ?_⟩))
      rw [x1, ci]
      exact ⟨vi, rfl⟩
    · refine br_f z ⟨v1, fun r er => ?_⟩
      rw [er, x2, x1]
      have key : ∀ v : Int32, w_M_look_b33_0 M (nI h) a2 (nI i) (fun r' => v = r') → w_M_in (nI h) 0 8 (fun r4_1 => ((r4_1 = (0 : Int32)) → (v = (-1 : Int32))) ∧ (¬ (r4_1 = (0 : Int32)) → ((vp_in (nI h) 9) ∧ (((a2 = (0 : Int32)) → ((vp_in (nI i) 520) ∧ (v = (m_sort M (nI i).toNatClampNeg)))) ∧ (¬ (a2 = (0 : Int32)) → (w_M_look_b33_0 M (nI h) a2 (nI i) (fun r' => v = r'))))))) := fun v hv => pM_in c1 c3 (br_f n01 ⟨v1, br_f z hv⟩)
      obtain ⟨s, hs12, es, et, e0⟩ := sv_sort hC hi
      have hok := sv_ok hC hi
      rcases (show s ≤ 9 ∨ s = 10 ∨ s = 11 ∨ s = 12 by omega) with h9 | h9 | h9 | h9
      · have nt : ¬ tgN s = 1 ∧ ¬ tgN s = 3 ∧ ¬ tgN s = 2 := by
          rcases (show s = 0 ∨ s = 1 ∨ s = 2 ∨ s = 3 ∨ s = 4 ∨ s = 5 ∨ s = 6 ∨ s = 7 ∨ s = 8 ∨ s = 9 by omega) with rfl | rfl | rfl | rfl | rfl | rfl | rfl | rfl | rfl | rfl <;> decide
        rw [← et] at nt
        refine lhC_no hok (key _ (lhM_M (lhM_miss vi rfl 8 0 (by omega) (Or.inl ?_)))) nt.1 nt.2.1 nt.2.2
        rw [ci, es]
        exact nI_lt (a := s) (b := 10) (by omega) (by omega)
      all_goals
        have ht : ktg K (rfi ad i) = 1 ∨ ktg K (rfi ad i) = 3 ∨ ktg K (rfi ad i) = 2 := by rw [et, h9]; decide
        have hns : ¬ m_sort M (nI i).toNatClampNeg < 10 := by rw [ci, es, h9]; decide
        rcases sv_first (fun k => kH K k = rfi ad i) 8 with ⟨j, hj, q1, q2⟩ | q
        · refine lhC_C hok (lhC_hit q1 q2 (key _ (lhM_M (lhM_hit (j := j) (by omega) vi hns (fun k hk e => q1 k hk ((sv_same hC (by omega) hi (by omega)).mpr e)) ((sv_same hC (by omega) hi (by omega)).mp q2) rfl 8 0 (by omega) (by omega)))) 8 0 (by omega) (by omega)) ht
        · exact lhC_C hok (lhC_miss (key _ (lhM_M (lhM_miss vi rfl 8 0 (by omega) (Or.inr (fun j hj e => q j (by omega) ((sv_same hC (by omega) hi (by omega)).mpr e)))))) 8 0 (fun j hj => q j (by omega))) ht
  · exact pC_nbelow h1 (br_t rfl (pM_nin (ix_lt (n := 8) (by omega) h1) (br_t rfl rfl)))
