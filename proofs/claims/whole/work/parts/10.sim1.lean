/-! the relation of the class's state and the reference's: object number i lies at ad i -/
def rfi (ad : Nat → Nat) (i : Nat) : Option Nat := if i = 0 then none else some (ad i)
def RR (n : Nat) (ad : Nat → Nat) (r : Option Nat) (x : Int32) : Prop := ∃ i : Nat, i ≤ n ∧ x = nI i ∧ r = rfi ad i
def rng (k : Nat) (w : Int64) : Prop := (k = 1 → w.toInt32.toInt8.toInt32.toInt64 = w) ∧ (k = 3 → w.toInt32.toInt16.toInt32.toInt64 = w) ∧ (k < 5 → w.toInt32.toInt64 = w)
def ORB (o : Ob) (s : Int32) (w : Int64) (r : UInt64) : Prop := ∃ k : Nat, k < 8 ∧ s = nI (k + 1) ∧ o.1 = 0 ∧ oI o = nI k ∧ (k < 6 → oL o = w ∧ oD o = FP.l2d w ∧ rng k w) ∧ (6 ≤ k → oD o = r ∧ vf_n64 r)
def ORT (o : Ob) (s : Int32) (w : Int64) : Prop := ∃ t : Nat, t ≤ 9 ∧ s = 9 ∧ o.1 = 4 ∧ oI o = nI t ∧ w = lN t
def ORI (n : Nat) (ad : Nat → Nat) (o : Ob) (s : Int32) (w : Int64) (r : UInt64) (sm ex tx an nx : Int32) : Prop := ((s = 10 ∧ o.1 = 1) ∨ (s = 11 ∧ o.1 = 3 ∧ oX o = ex ∧ ex.toInt16.toInt32 = ex)) ∧ w = (oI o).toInt64 ∧ oS o = sm ∧ sm.toInt8.toInt32 = sm ∧ oD o = r ∧ vf_n64 r ∧ RR n ad (oT o) tx ∧ RR n ad (oA o) an ∧ RR n ad (oN o) nx
def OR (n : Nat) (ad : Nat → Nat) (o : Ob) (s : Int32) (w : Int64) (r : UInt64) (sm ex tx an nx : Int32) : Prop := ORB o s w r ∨ ORT o s w ∨ (s = 12 ∧ o.1 = 2) ∨ ORI n ad o s w r sm ex tx an nx
def SC (n : Nat) (ad : Nat → Nat) (hd : Nat → Option Nat) (L : List Nat) (ob : Nat → Ob) (so : Nat → Int32) (wh : Nat → Int64) (re : Nat → UInt64) (sm ex tx an nx he : Nat → Int32) : Prop :=
  so 0 = 0 ∧ (∀ i : Nat, 1 ≤ i → i ≤ n → ad i ∈ L ∧ OR n ad (ob (ad i)) (so i) (wh i) (re i) (sm i) (ex i) (tx i) (an i) (nx i)) ∧ (∀ i j : Nat, 1 ≤ i → i ≤ n → 1 ≤ j → j ≤ n → ad i = ad j → i = j) ∧ (∀ h : Nat, h < 9 → RR n ad (hd h) (he h)) ∧ (∀ i : Nat, n < i → wh i = 0 ∧ re i = 0 ∧ sm i = 0 ∧ ex i = 0 ∧ tx i = 0 ∧ an i = 0 ∧ nx i = 0)
abbrev SS (n : Nat) (ad : Nat → Nat) (K : KT) (M : MT) : Prop := SC n ad (kH K) (kL K) (kO K) (m_sort M) (m_whole M) (m_real M) (m_small M) (m_extra M) (m_text M) (m_any M) (m_next M) (m_held M)
/-- at most N objects have been made -/
def Sim (N : Nat) (K : KT) (M : MT) : Prop := ∃ (n : Nat) (ad : Nat → Nat), n ≤ N ∧ m_objects M = nI n ∧ kSh K = m_shared M ∧ kLa K = m_last M ∧ SS n ad K M
theorem Sim.up {N N' : Nat} {K : KT} {M : MT} (h : Sim N K M) (hN : N ≤ N') : Sim N' K M := by
  obtain ⟨n, ad, h1, h2⟩ := h
  exact ⟨n, ad, Nat.le_trans h1 hN, h2⟩
theorem RR.mono {n n' : Nat} {ad ad' : Nat → Nat} {r : Option Nat} {x : Int32} (h : RR n ad r x) (hn : n ≤ n') (ha : ∀ i, i ≤ n → ad' i = ad i) : RR n' ad' r x := by
  obtain ⟨i, h1, h2, h3⟩ := h
  exact ⟨i, by omega, h2, by rw [h3]; unfold rfi; rw [ha i h1]⟩
theorem OR.mono {n n' : Nat} {ad ad' : Nat → Nat} {o : Ob} {s : Int32} {w : Int64} {r : UInt64} {sm ex tx an nx : Int32} (h : OR n ad o s w r sm ex tx an nx) (hn : n ≤ n') (ha : ∀ i, i ≤ n → ad' i = ad i) : OR n' ad' o s w r sm ex tx an nx := by
  rcases h with h | h | h | h
  · exact Or.inl h
  · exact Or.inr (Or.inl h)
  · exact Or.inr (Or.inr (Or.inl h))
  · obtain ⟨h1, h2, h3, h4, h5, h6, h7, h8, h9⟩ := h
    exact Or.inr (Or.inr (Or.inr ⟨h1, h2, h3, h4, h5, h6, h7.mono hn ha, h8.mono hn ha, h9.mono hn ha⟩))
section SCL
variable {n : Nat} {ad : Nat → Nat} {hd : Nat → Option Nat} {L : List Nat} {ob : Nat → Ob} {so : Nat → Int32} {wh : Nat → Int64} {re : Nat → UInt64} {sm ex tx an nx he : Nat → Int32}
theorem sc_hand (h : SC n ad hd L ob so wh re sm ex tx an nx he) {k : Nat} (hk : k < 9) : ∃ i : Nat, i ≤ n ∧ he k = nI i ∧ hd k = rfi ad i := h.2.2.2.1 k hk
theorem sc_held (h : SC n ad hd L ob so wh re sm ex tx an nx he) {k : Nat} {r : Option Nat} {x : Int32} (hr : RR n ad r x) : SC n ad (va_up hd k r) L ob so wh re sm ex tx an nx (upd he k x) := by
  obtain ⟨h0, h1, h2, h3, h4⟩ := h
  refine ⟨h0, h1, h2, fun j hj => ?_, h4⟩
  by_cases e : j = k
  · subst e
    rw [va_up_self, pk_us]
    exact hr
  · rw [va_up_ne _ _ e, pk_un e]
    exact h3 j hj
theorem sc_new (h : SC n ad hd L ob so wh re sm ex tx an nx he) {q : Nat} {o : Ob} (hq : q ∉ L) {so' : Nat → Int32} {wh' : Nat → Int64} {re' : Nat → UInt64} {sm' ex' tx' an' nx' : Nat → Int32}
    (e1 : ∀ i, i ≠ n + 1 → so' i = so i) (e2 : ∀ i, i ≠ n + 1 → wh' i = wh i) (e3 : ∀ i, i ≠ n + 1 → re' i = re i) (e4 : ∀ i, i ≠ n + 1 → sm' i = sm i) (e5 : ∀ i, i ≠ n + 1 → ex' i = ex i) (e6 : ∀ i, i ≠ n + 1 → tx' i = tx i) (e7 : ∀ i, i ≠ n + 1 → an' i = an i) (e8 : ∀ i, i ≠ n + 1 → nx' i = nx i)
    (ho : OR (n + 1) (va_up ad (n + 1) q) o (so' (n + 1)) (wh' (n + 1)) (re' (n + 1)) (sm' (n + 1)) (ex' (n + 1)) (tx' (n + 1)) (an' (n + 1)) (nx' (n + 1))) : SC (n + 1) (va_up ad (n + 1) q) hd (L ++ [q]) (va_up ob q o) so' wh' re' sm' ex' tx' an' nx' he := by
  obtain ⟨h0, h1, h2, h3, h4⟩ := h
  have hne : ∀ i, 1 ≤ i → i ≤ n → ad i ≠ q := fun i a b e => hq (e ▸ (h1 i a b).1)
  have had : ∀ i, i ≤ n → va_up ad (n + 1) q i = ad i := fun i hi => va_up_ne _ _ (by omega)
  refine ⟨(e1 0 (by omega)).trans h0, fun i a b => ?_, fun i j a b c d e => ?_, fun k hk => (h3 k hk).mono (Nat.le_succ n) had, fun i hi => ?_⟩
  · rcases Nat.lt_or_ge n i with hc | hc
    · have ei : i = n + 1 := by omega
      subst ei
      rw [va_up_self, va_up_self]
      exact ⟨List.mem_append_right _ (List.mem_singleton_self q), ho⟩
    · have ni : i ≠ n + 1 := by omega
      obtain ⟨m1, m2⟩ := h1 i a hc
      rw [had i hc, va_up_ne _ _ (hne i a hc), e1 i ni, e2 i ni, e3 i ni, e4 i ni, e5 i ni, e6 i ni, e7 i ni, e8 i ni]
      exact ⟨List.mem_append_left _ m1, m2.mono (Nat.le_succ n) had⟩
  · rcases Nat.lt_or_ge n i with hi | hi <;> rcases Nat.lt_or_ge n j with hj | hj
    · omega
    · have ei : i = n + 1 := by omega
      subst ei
      rw [va_up_self, had j hj] at e
      exact absurd e.symm (hne j c hj)
    · have ej : j = n + 1 := by omega
      subst ej
      rw [va_up_self, had i hi] at e
      exact absurd e (hne i a hi)
    · rw [had i hi, had j hj] at e
      exact h2 i j a hi c hj e
  · have ni : i ≠ n + 1 := by omega
    rw [e2 i ni, e3 i ni, e4 i ni, e5 i ni, e6 i ni, e7 i ni, e8 i ni]
    exact h4 i (by omega)
theorem sc_upd (h : SC n ad hd L ob so wh re sm ex tx an nx he) {i : Nat} {o : Ob} (hi1 : 1 ≤ i) (hin : i ≤ n) {wh' : Nat → Int64} {re' : Nat → UInt64} {sm' ex' tx' an' nx' : Nat → Int32}
    (e2 : ∀ j, j ≠ i → wh' j = wh j) (e3 : ∀ j, j ≠ i → re' j = re j) (e4 : ∀ j, j ≠ i → sm' j = sm j) (e5 : ∀ j, j ≠ i → ex' j = ex j) (e6 : ∀ j, j ≠ i → tx' j = tx j) (e7 : ∀ j, j ≠ i → an' j = an j) (e8 : ∀ j, j ≠ i → nx' j = nx j)
    (ho : OR n ad o (so i) (wh' i) (re' i) (sm' i) (ex' i) (tx' i) (an' i) (nx' i)) : SC n ad hd L (va_up ob (ad i) o) so wh' re' sm' ex' tx' an' nx' he := by
  obtain ⟨h0, h1, h2, h3, h4⟩ := h
  refine ⟨h0, fun j a b => ?_, h2, h3, fun j hj => ?_⟩
  · by_cases e : j = i
    · subst e
      rw [va_up_self]
      exact ⟨(h1 j a b).1, ho⟩
    · obtain ⟨m1, m2⟩ := h1 j a b
      rw [va_up_ne _ _ (fun q => e (h2 j i a b hi1 hin q)), e2 j e, e3 j e, e4 j e, e5 j e, e6 j e, e7 j e, e8 j e]
      exact ⟨m1, m2⟩
  · have nj : j ≠ i := by omega
    rw [e2 j nj, e3 j nj, e4 j nj, e5 j nj, e6 j nj, e7 j nj, e8 j nj]
    exact h4 j hj
end SCL
def tgN (s : Nat) : Nat := if s = 0 then 9 else if s ≤ 8 then 0 else if s = 9 then 4 else if s = 10 then 1 else if s = 11 then 3 else 2
theorem sv_ok {n : Nat} {ad : Nat → Nat} {K : KT} {M : MT} (h : SS n ad K M) {i : Nat} (hi : i ≤ n) : okR K (rfi ad i) := by
  intro a e
  by_cases h0 : i = 0
  · subst h0
    cases e
  · unfold rfi at e
    rw [if_neg h0] at e
    cases e
    obtain ⟨m1, m2⟩ := h.2.1 i (by omega) hi
    refine ⟨m1, ?_⟩
    rcases m2 with ⟨k, -, -, q, -⟩ | ⟨t, -, -, q, -⟩ | ⟨-, q⟩ | ⟨⟨-, q⟩ | ⟨-, q, -⟩, -⟩ <;> rw [q] <;> decide
/-- what sort the object number i is, on both sides -/
theorem sv_sort {n : Nat} {ad : Nat → Nat} {K : KT} {M : MT} (h : SS n ad K M) {i : Nat} (hi : i ≤ n) : ∃ s : Nat, s ≤ 12 ∧ m_sort M i = nI s ∧ ktg K (rfi ad i) = tgN s ∧ (i = 0 ↔ s = 0) := by
  by_cases h0 : i = 0
  · subst h0
    exact ⟨0, by omega, h.1, rfl, by simp⟩
  · obtain ⟨m1, m2⟩ := h.2.1 i (by omega) hi
    have e : ktg K (rfi ad i) = (kO K (ad i)).1 := by unfold rfi; rw [if_neg h0]; rfl
    rw [e]
    rcases m2 with ⟨k, hk, hs, q, -⟩ | ⟨t, -, hs, q, -⟩ | ⟨hs, q⟩ | ⟨⟨hs, q⟩ | ⟨hs, q, -⟩, -⟩
    · refine ⟨k + 1, by omega, hs, ?_, by omega⟩
      rw [q]
      unfold tgN
      rw [if_neg (by omega), if_pos (by omega)]
    · exact ⟨9, by omega, hs, q, by omega⟩
    · exact ⟨12, by omega, hs, q, by omega⟩
    · exact ⟨10, by omega, hs, q, by omega⟩
    · exact ⟨11, by omega, hs, q, by omega⟩
theorem sv_none {ad : Nat → Nat} {i : Nat} : rfi ad i = none ↔ i = 0 := by
  unfold rfi
  by_cases h : i = 0 <;> simp [h]
theorem sv_some {ad : Nat → Nat} {i : Nat} (h : i ≠ 0) : rfi ad i = some (ad i) := by unfold rfi; rw [if_neg h]
theorem tg_item {s : Nat} (hs : s ≤ 12) : (tgN s = 1 ∨ tgN s = 3) ↔ (s = 10 ∨ s = 11) := by
  rcases (show s = 0 ∨ s = 1 ∨ s = 2 ∨ s = 3 ∨ s = 4 ∨ s = 5 ∨ s = 6 ∨ s = 7 ∨ s = 8 ∨ s = 9 ∨ s = 10 ∨ s = 11 ∨ s = 12 by omega) with rfl | rfl | rfl | rfl | rfl | rfl | rfl | rfl | rfl | rfl | rfl | rfl | rfl <;> decide
theorem sv_isT {n : Nat} {ad : Nat → Nat} {K : KT} {M : MT} (h : SS n ad K M) {i t : Nat} (hi : i ≤ n) (h0 : i ≠ 0) (ht : ktg K (rfi ad i) = t) : isT K (rfi ad i) t := by
  obtain ⟨m1, -⟩ := h.2.1 i (by omega) hi
  rw [sv_some h0] at ht ⊢
  exact ⟨ad i, rfl, m1, ht⟩
