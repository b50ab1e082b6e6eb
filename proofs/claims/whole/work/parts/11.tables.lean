/-! pure methods, by their tables -/
def wid (a b : Nat) : Bool := a == b || (a != 0 && b != 0 && b != 2 && (if a == 2 then decide (4 ≤ b) else decide (a < b)))
def tkf (x y : Nat) : Bool := x == y || (x == 0 && y != 8) || (x == 4 && (y == 6 || y == 7)) || (x == 10 && (y == 11 || y == 12)) || (x == 11 && y == 12) || (x == 1 && y == 2) || (x == 5 && y == 6)
theorem dC_widens : ∀ a, a < 8 → ∀ b, b < 8 → w_C_widens (nI a) (nI b) (fun r => r = bI (wid a b)) := by
  intro a ha b hb
  rcases (show a = 0 ∨ a = 1 ∨ a = 2 ∨ a = 3 ∨ a = 4 ∨ a = 5 ∨ a = 6 ∨ a = 7 by omega) with rfl | rfl | rfl | rfl | rfl | rfl | rfl | rfl <;> rcases (show b = 0 ∨ b = 1 ∨ b = 2 ∨ b = 3 ∨ b = 4 ∨ b = 5 ∨ b = 6 ∨ b = 7 by omega) with rfl | rfl | rfl | rfl | rfl | rfl | rfl | rfl <;> unfold w_C_widens <;> (repeat' (first | exact rfl | exact ⟨Or.inr rfl, rfl⟩ | exact ⟨Or.inl rfl, rfl⟩ | refine br_t (by decide) ?_ | refine br_f (by decide) ?_ | refine ⟨(by unfold vp_in; decide), ?_⟩))
theorem dM_widens : ∀ a, a < 8 → ∀ b, b < 8 → w_M_widens (nI a) (nI b) (fun r => r = bI (wid a b)) := by
  intro a ha b hb
  rcases (show a = 0 ∨ a = 1 ∨ a = 2 ∨ a = 3 ∨ a = 4 ∨ a = 5 ∨ a = 6 ∨ a = 7 by omega) with rfl | rfl | rfl | rfl | rfl | rfl | rfl | rfl <;> rcases (show b = 0 ∨ b = 1 ∨ b = 2 ∨ b = 3 ∨ b = 4 ∨ b = 5 ∨ b = 6 ∨ b = 7 by omega) with rfl | rfl | rfl | rfl | rfl | rfl | rfl | rfl <;> unfold w_M_widens <;> (repeat' (first | exact rfl | exact ⟨Or.inr rfl, rfl⟩ | exact ⟨Or.inl rfl, rfl⟩ | refine br_t (by decide) ?_ | refine br_f (by decide) ?_ | refine ⟨(by unfold vp_in; decide), ?_⟩))
theorem dC_takes : ∀ a, a < 13 → ∀ b, b < 13 → w_C_takes (nI a) (nI b) (fun r => r = bI (tkf a b)) := by
  intro a ha b hb
  rcases (show a = 0 ∨ a = 1 ∨ a = 2 ∨ a = 3 ∨ a = 4 ∨ a = 5 ∨ a = 6 ∨ a = 7 ∨ a = 8 ∨ a = 9 ∨ a = 10 ∨ a = 11 ∨ a = 12 by omega) with rfl | rfl | rfl | rfl | rfl | rfl | rfl | rfl | rfl | rfl | rfl | rfl | rfl <;> rcases (show b = 0 ∨ b = 1 ∨ b = 2 ∨ b = 3 ∨ b = 4 ∨ b = 5 ∨ b = 6 ∨ b = 7 ∨ b = 8 ∨ b = 9 ∨ b = 10 ∨ b = 11 ∨ b = 12 by omega) with rfl | rfl | rfl | rfl | rfl | rfl | rfl | rfl | rfl | rfl | rfl | rfl | rfl <;> unfold w_C_takes <;> (repeat' (first | exact rfl | exact ⟨Or.inr rfl, rfl⟩ | exact ⟨Or.inl rfl, rfl⟩ | refine br_t (by decide) ?_ | refine br_f (by decide) ?_ | refine ⟨(by unfold vp_in; decide), ?_⟩))
theorem dM_takes : ∀ a, a < 13 → ∀ b, b < 13 → w_M_takes (nI a) (nI b) (fun r => r = bI (tkf a b)) := by
  intro a ha b hb
  rcases (show a = 0 ∨ a = 1 ∨ a = 2 ∨ a = 3 ∨ a = 4 ∨ a = 5 ∨ a = 6 ∨ a = 7 ∨ a = 8 ∨ a = 9 ∨ a = 10 ∨ a = 11 ∨ a = 12 by omega) with rfl | rfl | rfl | rfl | rfl | rfl | rfl | rfl | rfl | rfl | rfl | rfl | rfl <;> rcases (show b = 0 ∨ b = 1 ∨ b = 2 ∨ b = 3 ∨ b = 4 ∨ b = 5 ∨ b = 6 ∨ b = 7 ∨ b = 8 ∨ b = 9 ∨ b = 10 ∨ b = 11 ∨ b = 12 by omega) with rfl | rfl | rfl | rfl | rfl | rfl | rfl | rfl | rfl | rfl | rfl | rfl | rfl <;> unfold w_M_takes <;> (repeat' (first | exact rfl | exact ⟨Or.inr rfl, rfl⟩ | exact ⟨Or.inl rfl, rfl⟩ | refine br_t (by decide) ?_ | refine br_f (by decide) ?_ | refine ⟨(by unfold vp_in; decide), ?_⟩))
theorem dM_above : ∀ a, a < 13 → w_M_above (nI a) (fun r => r = sf_TYPES_ABOVE.getD a 0) := by
  intro a ha
  rcases (show a = 0 ∨ a = 1 ∨ a = 2 ∨ a = 3 ∨ a = 4 ∨ a = 5 ∨ a = 6 ∨ a = 7 ∨ a = 8 ∨ a = 9 ∨ a = 10 ∨ a = 11 ∨ a = 12 by omega) with rfl | rfl | rfl | rfl | rfl | rfl | rfl | rfl | rfl | rfl | rfl | rfl | rfl <;> unfold w_M_above <;> (repeat' (first | exact rfl | exact ⟨Or.inr rfl, rfl⟩ | exact ⟨Or.inl rfl, rfl⟩ | refine br_t (by decide) ?_ | refine br_f (by decide) ?_ | refine ⟨(by unfold vp_in; decide), ?_⟩))
theorem dM_elements : ∀ a, a < 13 → w_M_elements (nI a) (fun r => r = sf_ELEMENT_TYPES.getD a 0) := by
  intro a ha
  rcases (show a = 0 ∨ a = 1 ∨ a = 2 ∨ a = 3 ∨ a = 4 ∨ a = 5 ∨ a = 6 ∨ a = 7 ∨ a = 8 ∨ a = 9 ∨ a = 10 ∨ a = 11 ∨ a = 12 by omega) with rfl | rfl | rfl | rfl | rfl | rfl | rfl | rfl | rfl | rfl | rfl | rfl | rfl <;> unfold w_M_elements <;> (repeat' (first | exact rfl | exact ⟨Or.inr rfl, rfl⟩ | exact ⟨Or.inl rfl, rfl⟩ | refine br_t (by decide) ?_ | refine br_f (by decide) ?_ | refine ⟨(by unfold vp_in; decide), ?_⟩))
def kdf (f : Nat) : Int32 := [4, 1, 7, -1, -1, -1, 4, 5, 3].getD f 0
theorem dM_kindOf : ∀ a, a < 9 → w_M_kindOf (nI a) (fun r => r = kdf a) := by
  intro a ha
  rcases (show a = 0 ∨ a = 1 ∨ a = 2 ∨ a = 3 ∨ a = 4 ∨ a = 5 ∨ a = 6 ∨ a = 7 ∨ a = 8 by omega) with rfl | rfl | rfl | rfl | rfl | rfl | rfl | rfl | rfl <;> unfold w_M_kindOf <;> (repeat' (first | exact rfl | exact ⟨Or.inr rfl, rfl⟩ | exact ⟨Or.inl rfl, rfl⟩ | refine br_t (by decide) ?_ | refine br_f (by decide) ?_ | refine ⟨(by unfold vp_in; decide), ?_⟩))
theorem dC_hasEmpty : ∀ a, a < 8 → w_C_hasEmptyConstructor (nI a) (fun r => r = bI (a == 0 || a == 1 || a == 3 || a == 5 || a == 7)) := by
  intro a ha
  rcases (show a = 0 ∨ a = 1 ∨ a = 2 ∨ a = 3 ∨ a = 4 ∨ a = 5 ∨ a = 6 ∨ a = 7 by omega) with rfl | rfl | rfl | rfl | rfl | rfl | rfl | rfl <;> unfold w_C_hasEmptyConstructor <;> (repeat' (first | exact rfl | exact ⟨Or.inr rfl, rfl⟩ | exact ⟨Or.inl rfl, rfl⟩ | refine br_t (by decide) ?_ | refine br_f (by decide) ?_ | refine ⟨(by unfold vp_in; decide), ?_⟩))
theorem dC_hasInt : ∀ a, a < 8 → w_C_hasIntConstructor (nI a) (fun r => r = bI (a == 2 || a == 5 || a == 6 || a == 7)) := by
  intro a ha
  rcases (show a = 0 ∨ a = 1 ∨ a = 2 ∨ a = 3 ∨ a = 4 ∨ a = 5 ∨ a = 6 ∨ a = 7 by omega) with rfl | rfl | rfl | rfl | rfl | rfl | rfl | rfl <;> unfold w_C_hasIntConstructor <;> (repeat' (first | exact rfl | exact ⟨Or.inr rfl, rfl⟩ | exact ⟨Or.inl rfl, rfl⟩ | refine br_t (by decide) ?_ | refine br_f (by decide) ?_ | refine ⟨(by unfold vp_in; decide), ?_⟩))
theorem pC_widens {a b : Nat} {post : Int32 → Prop} (ha : a < 8) (hb : b < 8) (h : post (bI (wid a b))) : w_C_widens (nI a) (nI b) post := m_C_widens (dC_widens a ha b hb) (fun _ e => e ▸ h)
theorem pM_widens {a b : Nat} {post : Int32 → Prop} (ha : a < 8) (hb : b < 8) (h : post (bI (wid a b))) : w_M_widens (nI a) (nI b) post := m_M_widens (dM_widens a ha b hb) (fun _ e => e ▸ h)
theorem pC_takes {a b : Nat} {post : Int32 → Prop} (ha : a < 13) (hb : b < 13) (h : post (bI (tkf a b))) : w_C_takes (nI a) (nI b) post := m_C_takes (dC_takes a ha b hb) (fun _ e => e ▸ h)
theorem pM_takes {a b : Nat} {post : Int32 → Prop} (ha : a < 13) (hb : b < 13) (h : post (bI (tkf a b))) : w_M_takes (nI a) (nI b) post := m_M_takes (dM_takes a ha b hb) (fun _ e => e ▸ h)
theorem pM_kindOf {a : Nat} {post : Int32 → Prop} (ha : a < 9) (h : post (kdf a)) : w_M_kindOf (nI a) post := m_M_kindOf (dM_kindOf a ha) (fun _ e => e ▸ h)
