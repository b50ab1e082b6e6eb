/-! which object holds a field -/
def rff (s f : Nat) : Nat := if f = 7 then 0 else if s = 0 then 1 else if s = 11 then 0 else if s = 10 then (if f = 8 then 2 else 0) else 2
theorem rff_o {s f : Nat} (h7 : f ≠ 7) (h : rff s f = 0) : (s = 10 ∧ f ≠ 8) ∨ s = 11 := by
  unfold rff at h
  rw [if_neg h7] at h
  by_cases h0 : s = 0
  · rw [if_pos h0] at h
    cases h
  · rw [if_neg h0] at h
    by_cases h1 : s = 11
    · exact Or.inr h1
    · rw [if_neg h1] at h
      by_cases h2 : s = 10
      · rw [if_pos h2] at h
        by_cases h8 : f = 8
        · rw [if_pos h8] at h
          cases h
        · exact Or.inl ⟨h2, h8⟩
      · rw [if_neg h2] at h
        cases h
set_option maxHeartbeats 4000000 in
theorem rC_owner {n : Nat} {ad : Nat → Nat} {K : KT} {M : MT} (h : SS n ad K M) {i s f : Nat} (hi : i ≤ n) (hs : s ≤ 12) (et : ktg K (rfi ad i) = tgN s) (e0 : i = 0 ↔ s = 0) (hf : f < 9) {post : Int32 → Prop} (hp : post (nI (rff s f))) : w_C_ownerRefusal K (rfi ad i) (nI f) post := by
  unfold w_C_ownerRefusal w_C_itemRefusal
  by_cases h7 : f = 7
  · subst h7
    exact br_t rfl hp
  · refine br_f (fun e => h7 (nI_inj (b := 7) (by omega) (by omega) e)) ?_
    have hok := sv_ok h hi
    by_cases z : i = 0
    · have zs := e0.mp z
      subst zs
      have q : rff 0 f = 1 := by unfold rff; rw [if_neg h7]; rfl
      rw [q] at hp
      exact br_t (sv_none.mpr z) (br_f (by decide) hp)
    · have zs : ¬ s = 0 := fun e => z (e0.mpr e)
      refine br_f (fun e => z (sv_none.mp e)) ⟨hok, ?_⟩
      rw [et]
      by_cases h11 : s = 11
      · subst h11
        have q : rff 11 f = 0 := by unfold rff; rw [if_neg h7]; rfl
        rw [q] at hp
        refine br_f (by decide) (br_t rfl ?_)
        by_cases h8 : f = 8
        · subst h8
          exact br_t rfl ⟨hok, br_f (by decide) hp⟩
        · exact br_f (fun e => h8 (nI_inj (b := 8) (by omega) (by omega) e)) hp
      · by_cases h10 : s = 10
        · subst h10
          refine br_f (by decide) (br_t rfl ?_)
          by_cases h8 : f = 8
          · subst h8
            exact br_t rfl ⟨hok, br_t (by decide) hp⟩
          · have q : rff 10 f = 0 := by unfold rff; rw [if_neg h7, if_neg h8]; rfl
            rw [q] at hp
            exact br_f (fun e => h8 (nI_inj (b := 8) (by omega) (by omega) e)) hp
        · have q : rff s f = 2 := by unfold rff; rw [if_neg h7, if_neg zs, if_neg h11, if_neg h10]
          rw [q] at hp
          refine br_t ?_ (br_f (by decide) hp)
          rcases (show s = 1 ∨ s = 2 ∨ s = 3 ∨ s = 4 ∨ s = 5 ∨ s = 6 ∨ s = 7 ∨ s = 8 ∨ s = 9 ∨ s = 12 by omega) with rfl | rfl | rfl | rfl | rfl | rfl | rfl | rfl | rfl | rfl <;> decide
theorem rM_reach {M : MT} {i s f : Nat} (hi : i < 520) (hs : s ≤ 12) (es : m_sort M i = nI s) (e0 : i = 0 ↔ s = 0) (hf : f < 9) {post : Int32 → Prop} (hp : post (nI (rff s f))) : w_M_reach M (nI i) (nI f) post := by
  unfold w_M_reach
  by_cases h7 : f = 7
  · subst h7
    exact br_t rfl hp
  · refine br_f (fun e => h7 (nI_inj (b := 7) (by omega) (by omega) e)) ?_
    have v := vp_in_nI (N := 520) hi (by omega)
    by_cases z : i = 0
    · have zs := e0.mp z
      subst zs
      subst z
      have q : rff 0 f = 1 := by unfold rff; rw [if_neg h7]; rfl
      rw [q] at hp
      exact br_t rfl hp
    · have zs : ¬ s = 0 := fun e => z (e0.mpr e)
      refine br_f (fun e => z (nI_inj (b := 0) (by omega) (by omega) e)) ⟨v, ?_⟩
      rw [nI_clamp (show i < 2 ^ 31 by omega), es]
      by_cases h11 : s = 11
      · subst h11
        have q : rff 11 f = 0 := by unfold rff; rw [if_neg h7]; rfl
        rw [q] at hp
        exact br_t rfl hp
      · refine br_f (fun e => h11 (nI_inj (b := 11) (by omega) (by omega) e)) ⟨v, ?_⟩
        by_cases h10 : s = 10
        · subst h10
          refine br_t rfl ?_
          by_cases h8 : f = 8
          · subst h8
            exact br_t rfl hp
          · have q : rff 10 f = 0 := by unfold rff; rw [if_neg h7, if_neg h8]; rfl
            rw [q] at hp
            exact br_f (fun e => h8 (nI_inj (b := 8) (by omega) (by omega) e)) hp
        · have q : rff s f = 2 := by unfold rff; rw [if_neg h7, if_neg zs, if_neg h11, if_neg h10]
          rw [q] at hp
          exact br_f (fun e => h10 (nI_inj (b := 10) (by omega) (by omega) e)) hp
theorem sv_item {n : Nat} {ad : Nat → Nat} {K : KT} {M : MT} (h : SS n ad K M) {i s : Nat} (hi : i ≤ n) (e0 : i = 0 ↔ s = 0) (es : m_sort M i = nI s) (hs : s = 10 ∨ s = 11) : ∃ p : Nat, rfi ad i = some p ∧ p = ad i ∧ p ∈ kL K ∧ ((s = 10 ∧ (kO K p).1 = 1) ∨ (s = 11 ∧ (kO K p).1 = 3 ∧ oX (kO K p) = m_extra M i ∧ (m_extra M i).toInt16.toInt32 = m_extra M i)) ∧ m_whole M i = (oI (kO K p)).toInt64 ∧ oS (kO K p) = m_small M i ∧ (m_small M i).toInt8.toInt32 = m_small M i ∧ oD (kO K p) = m_real M i ∧ vf_n64 (m_real M i) ∧ RR n ad (oT (kO K p)) (m_text M i) ∧ RR n ad (oA (kO K p)) (m_any M i) ∧ RR n ad (oN (kO K p)) (m_next M i) := by
  have h0 : i ≠ 0 := fun e => by have := e0.mp e; omega
  obtain ⟨m1, m2⟩ := h.2.1 i (by omega) hi
  refine ⟨ad i, sv_some h0, rfl, m1, ?_⟩
  rw [es] at m2
  rcases m2 with ⟨k, hk, e, -⟩ | ⟨t, -, e, -⟩ | ⟨e, -⟩ | ⟨e, f1, f2, f3, f4, f5, f6, f7, f8⟩
  · exact absurd (nI_inj (by omega) (by omega) e) (by omega)
  · exact absurd (nI_inj (b := 9) (by omega) (by omega) e) (by omega)
  · exact absurd (nI_inj (b := 12) (by omega) (by omega) e) (by omega)
  · refine ⟨?_, f1, f2, f3, f4, f5, f6, f7, f8⟩
    rcases e with ⟨e, q⟩ | ⟨e, q⟩
    · exact Or.inl ⟨nI_inj (b := 10) (by omega) (by omega) e, q⟩
    · exact Or.inr ⟨nI_inj (b := 11) (by omega) (by omega) e, q⟩
/-! what a field holds -/
def kd (f : Nat) : Nat := [4, 1, 7, 9, 9, 9, 4, 5, 3].getD f 9
def fw (M : MT) (i f : Nat) : Int64 := if f = 0 then m_whole M i else if f = 1 then (m_small M i).toInt64 else if f = 6 then 7 else if f = 7 then m_shared M else (m_extra M i).toInt64
def fo (M : MT) (i f : Nat) : Int32 := if f = 3 then m_text M i else if f = 4 then m_any M i else m_next M i
def oW (k : Nat) (w : Int64) (r : UInt64) : Ob := if k < 6 then (0, nI k, w, FP.l2d w, 0, none, none, none, 0) else (0, nI k, 0, r, 0, none, none, none, 0)
theorem oW_tag (k : Nat) (w : Int64) (r : UInt64) : (oW k w r).1 = 0 := by
  unfold oW
  by_cases h : k < 6
  · rw [if_pos h]
  · rw [if_neg h]
/-- what an object holds at a field that it has -/
def FV (n : Nat) (ad : Nat → Nat) (M : MT) (i f : Nat) : Prop := rng (kd f) (fw M i f) ∧ (f = 2 → vf_n64 (m_real M i))
theorem rC_item {K : KT} {p : Nat} {f : Nat} (hm : p ∈ kL K) (ht : (kO K p).1 = 1 ∨ (kO K p).1 = 3) (h7 : ¬ nI f = 7) {post : Option Nat → KT → Prop} (hp : w_v_read K (some p) (nI f) post) : w_C_fieldOf K (some p) (nI f) post := by
  unfold w_C_fieldOf
  refine br_f h7 ?_
  have e1 : ktg K (some p) = (kO K p).1 := rfl
  have hok : okR K (some p) := fun a e => by
    cases e
    exact ⟨hm, by rcases ht with e | e <;> rw [e] <;> decide⟩
  refine ⟨hok, ?_⟩
  rw [e1]
  rcases ht with e | e
  · rw [e]
    exact br_f (by decide) ⟨Or.inl ⟨p, rfl, hm, e⟩, hp⟩
  · rw [e]
    exact br_f (by decide) ⟨Or.inr ⟨p, rfl, hm, e⟩, hp⟩
theorem rC_readI {K : KT} {p : Nat} {f : Nat} (hm : p ∈ kL K) (ht : (kO K p).1 = 1 ∨ (kO K p).1 = 3) (h8 : ¬ nI f = 8) {post : Option Nat → KT → Prop} (hp : w_I_read K p (nI f) post) : w_v_read K (some p) (nI f) post := by
  refine ⟨p, rfl, hm, ?_⟩
  rcases ht with e | e
  · exact Or.inl ⟨e, hp⟩
  · exact Or.inr ⟨e, br_f h8 ⟨⟨p, rfl, hm, e⟩, hp⟩⟩
theorem sv_isI {K : KT} {p : Nat} (hm : p ∈ kL K) (ht : (kO K p).1 = 1 ∨ (kO K p).1 = 3) : isI K (some p) := ht.imp (fun e => ⟨p, rfl, hm, e⟩) (fun e => ⟨p, rfl, hm, e⟩)
set_option maxHeartbeats 4000000 in
theorem rC_field0 {n : Nat} {ad : Nat → Nat} {K : KT} {M : MT} (h : SS n ad K M) (hs : kSh K = m_shared M) {i s : Nat} (hi : i ≤ n) (e0 : i = 0 ↔ s = 0) (es : m_sort M i = nI s) (hr : rff s 0 = 0) {post : Option Nat → KT → Prop} (hp : ∀ q : Nat, q ∉ kL K → FV n ad M i 0 → post (some q) (kNew K q (oW (kd 0) (fw M i 0) (m_real M i)))) : w_C_fieldOf K (rfi ad i) (nI 0) post := by
  have hso : s = 10 ∨ s = 11 := (rff_o (f := 0) (by decide) hr).imp (fun x => x.1) id
  obtain ⟨p, g1, -, g2, g3, g4, g5, g6, g7, g8, g9, g10, g11⟩ := sv_item h hi e0 es hso
  rw [g1]
  have ht : (kO K p).1 = 1 ∨ (kO K p).1 = 3 := g3.imp (fun x => x.2) (fun x => x.2.1)
  have hI := sv_isI g2 ht
  have hob : kob K (some p) = kO K p := rfl
  refine rC_item (f := 0) g2 ht (by decide) ?_
  refine rC_readI (f := 0) g2 ht (by decide) ?_
  unfold w_I_read
  repeat (first | refine br_t (by decide) ?_ | refine br_f (by decide) ?_)
  refine ⟨hI, ?_⟩
  rw [hob]
  rw [← g4]
  exact rC_boxW (fun q hq => hp q hq ⟨(show rng 4 (m_whole M i) from g4 ▸ rng_4 _), fun e => absurd e (by decide)⟩)
set_option maxHeartbeats 4000000 in
theorem rC_field1 {n : Nat} {ad : Nat → Nat} {K : KT} {M : MT} (h : SS n ad K M) (hs : kSh K = m_shared M) {i s : Nat} (hi : i ≤ n) (e0 : i = 0 ↔ s = 0) (es : m_sort M i = nI s) (hr : rff s 1 = 0) {post : Option Nat → KT → Prop} (hp : ∀ q : Nat, q ∉ kL K → FV n ad M i 1 → post (some q) (kNew K q (oW (kd 1) (fw M i 1) (m_real M i)))) : w_C_fieldOf K (rfi ad i) (nI 1) post := by
  have hso : s = 10 ∨ s = 11 := (rff_o (f := 1) (by decide) hr).imp (fun x => x.1) id
  obtain ⟨p, g1, -, g2, g3, g4, g5, g6, g7, g8, g9, g10, g11⟩ := sv_item h hi e0 es hso
  rw [g1]
  have ht : (kO K p).1 = 1 ∨ (kO K p).1 = 3 := g3.imp (fun x => x.2) (fun x => x.2.1)
  have hI := sv_isI g2 ht
  have hob : kob K (some p) = kO K p := rfl
  refine rC_item (f := 1) g2 ht (by decide) ?_
  refine rC_readI (f := 1) g2 ht (by decide) ?_
  unfold w_I_read
  repeat (first | refine br_t (by decide) ?_ | refine br_f (by decide) ?_)
  refine ⟨hI, ?_⟩
  rw [hob]
  rw [g5]
  exact rC_boxW (fun q hq => hp q hq ⟨⟨fun _ => by show (m_small M i).toInt64.toInt32.toInt8.toInt32.toInt64 = _; rw [Int32.toInt32_toInt64, g6]; rfl, fun e => absurd e (by decide), fun _ => by show (m_small M i).toInt64.toInt32.toInt64 = _; rw [Int32.toInt32_toInt64]; rfl⟩, fun e => absurd e (by decide)⟩)
set_option maxHeartbeats 4000000 in
theorem rC_field2 {n : Nat} {ad : Nat → Nat} {K : KT} {M : MT} (h : SS n ad K M) (hs : kSh K = m_shared M) {i s : Nat} (hi : i ≤ n) (e0 : i = 0 ↔ s = 0) (es : m_sort M i = nI s) (hr : rff s 2 = 0) {post : Option Nat → KT → Prop} (hp : ∀ q : Nat, q ∉ kL K → FV n ad M i 2 → post (some q) (kNew K q (oW (kd 2) (fw M i 2) (m_real M i)))) : w_C_fieldOf K (rfi ad i) (nI 2) post := by
  have hso : s = 10 ∨ s = 11 := (rff_o (f := 2) (by decide) hr).imp (fun x => x.1) id
  obtain ⟨p, g1, -, g2, g3, g4, g5, g6, g7, g8, g9, g10, g11⟩ := sv_item h hi e0 es hso
  rw [g1]
  have ht : (kO K p).1 = 1 ∨ (kO K p).1 = 3 := g3.imp (fun x => x.2) (fun x => x.2.1)
  have hI := sv_isI g2 ht
  have hob : kob K (some p) = kO K p := rfl
  refine rC_item (f := 2) g2 ht (by decide) ?_
  refine rC_readI (f := 2) g2 ht (by decide) ?_
  unfold w_I_read
  repeat (first | refine br_t (by decide) ?_ | refine br_f (by decide) ?_)
  refine ⟨hI, ?_⟩
  rw [hob]
  rw [g7]
  exact rC_boxR (fun q hq => hp q hq ⟨⟨fun e => absurd e (by decide), fun e => absurd e (by decide), fun e => absurd e (by decide)⟩, fun _ => g8⟩)
set_option maxHeartbeats 4000000 in
theorem rC_field3 {n : Nat} {ad : Nat → Nat} {K : KT} {M : MT} (h : SS n ad K M) (hs : kSh K = m_shared M) {i s : Nat} (hi : i ≤ n) (e0 : i = 0 ↔ s = 0) (es : m_sort M i = nI s) (hr : rff s 3 = 0) {post : Option Nat → KT → Prop} (hp : ∀ r : Option Nat, RR n ad r (fo M i 3) → post r K) : w_C_fieldOf K (rfi ad i) (nI 3) post := by
  have hso : s = 10 ∨ s = 11 := (rff_o (f := 3) (by decide) hr).imp (fun x => x.1) id
  obtain ⟨p, g1, -, g2, g3, g4, g5, g6, g7, g8, g9, g10, g11⟩ := sv_item h hi e0 es hso
  rw [g1]
  have ht : (kO K p).1 = 1 ∨ (kO K p).1 = 3 := g3.imp (fun x => x.2) (fun x => x.2.1)
  have hI := sv_isI g2 ht
  have hob : kob K (some p) = kO K p := rfl
  refine rC_item (f := 3) g2 ht (by decide) ?_
  refine rC_readI (f := 3) g2 ht (by decide) ?_
  unfold w_I_read
  repeat (first | refine br_t (by decide) ?_ | refine br_f (by decide) ?_)
  refine ⟨hI, ?_⟩
  rw [hob]
  exact fun r er => er ▸ hp _ g9
set_option maxHeartbeats 4000000 in
theorem rC_field4 {n : Nat} {ad : Nat → Nat} {K : KT} {M : MT} (h : SS n ad K M) (hs : kSh K = m_shared M) {i s : Nat} (hi : i ≤ n) (e0 : i = 0 ↔ s = 0) (es : m_sort M i = nI s) (hr : rff s 4 = 0) {post : Option Nat → KT → Prop} (hp : ∀ r : Option Nat, RR n ad r (fo M i 4) → post r K) : w_C_fieldOf K (rfi ad i) (nI 4) post := by
  have hso : s = 10 ∨ s = 11 := (rff_o (f := 4) (by decide) hr).imp (fun x => x.1) id
  obtain ⟨p, g1, -, g2, g3, g4, g5, g6, g7, g8, g9, g10, g11⟩ := sv_item h hi e0 es hso
  rw [g1]
  have ht : (kO K p).1 = 1 ∨ (kO K p).1 = 3 := g3.imp (fun x => x.2) (fun x => x.2.1)
  have hI := sv_isI g2 ht
  have hob : kob K (some p) = kO K p := rfl
  refine rC_item (f := 4) g2 ht (by decide) ?_
  refine rC_readI (f := 4) g2 ht (by decide) ?_
  unfold w_I_read
  repeat (first | refine br_t (by decide) ?_ | refine br_f (by decide) ?_)
  refine ⟨hI, ?_⟩
  rw [hob]
  exact fun r er => er ▸ hp _ g10
set_option maxHeartbeats 4000000 in
theorem rC_field5 {n : Nat} {ad : Nat → Nat} {K : KT} {M : MT} (h : SS n ad K M) (hs : kSh K = m_shared M) {i s : Nat} (hi : i ≤ n) (e0 : i = 0 ↔ s = 0) (es : m_sort M i = nI s) (hr : rff s 5 = 0) {post : Option Nat → KT → Prop} (hp : ∀ r : Option Nat, RR n ad r (fo M i 5) → post r K) : w_C_fieldOf K (rfi ad i) (nI 5) post := by
  have hso : s = 10 ∨ s = 11 := (rff_o (f := 5) (by decide) hr).imp (fun x => x.1) id
  obtain ⟨p, g1, -, g2, g3, g4, g5, g6, g7, g8, g9, g10, g11⟩ := sv_item h hi e0 es hso
  rw [g1]
  have ht : (kO K p).1 = 1 ∨ (kO K p).1 = 3 := g3.imp (fun x => x.2) (fun x => x.2.1)
  have hI := sv_isI g2 ht
  have hob : kob K (some p) = kO K p := rfl
  refine rC_item (f := 5) g2 ht (by decide) ?_
  refine rC_readI (f := 5) g2 ht (by decide) ?_
  unfold w_I_read
  repeat (first | refine br_t (by decide) ?_ | refine br_f (by decide) ?_)
  refine ⟨hI, ?_⟩
  rw [hob]
  exact fun r er => er ▸ hp _ g11
set_option maxHeartbeats 4000000 in
theorem rC_field6 {n : Nat} {ad : Nat → Nat} {K : KT} {M : MT} (h : SS n ad K M) (hs : kSh K = m_shared M) {i s : Nat} (hi : i ≤ n) (e0 : i = 0 ↔ s = 0) (es : m_sort M i = nI s) (hr : rff s 6 = 0) {post : Option Nat → KT → Prop} (hp : ∀ q : Nat, q ∉ kL K → FV n ad M i 6 → post (some q) (kNew K q (oW (kd 6) (fw M i 6) (m_real M i)))) : w_C_fieldOf K (rfi ad i) (nI 6) post := by
  have hso : s = 10 ∨ s = 11 := (rff_o (f := 6) (by decide) hr).imp (fun x => x.1) id
  obtain ⟨p, g1, -, g2, g3, g4, g5, g6, g7, g8, g9, g10, g11⟩ := sv_item h hi e0 es hso
  rw [g1]
  have ht : (kO K p).1 = 1 ∨ (kO K p).1 = 3 := g3.imp (fun x => x.2) (fun x => x.2.1)
  have hI := sv_isI g2 ht
  have hob : kob K (some p) = kO K p := rfl
  refine rC_item (f := 6) g2 ht (by decide) ?_
  refine rC_readI (f := 6) g2 ht (by decide) ?_
  unfold w_I_read
  repeat (first | refine br_t (by decide) ?_ | refine br_f (by decide) ?_)
  exact rC_boxW (fun q hq => hp q hq ⟨rng_4 7, fun e => absurd e (by decide)⟩)
set_option maxHeartbeats 4000000 in
theorem rC_field7 {n : Nat} {ad : Nat → Nat} {K : KT} {M : MT} (h : SS n ad K M) (hs : kSh K = m_shared M) {i s : Nat} (hi : i ≤ n) (e0 : i = 0 ↔ s = 0) (es : m_sort M i = nI s) (hr : rff s 7 = 0) {post : Option Nat → KT → Prop} (hp : ∀ q : Nat, q ∉ kL K → FV n ad M i 7 → post (some q) (kNew K q (oW (kd 7) (fw M i 7) (m_real M i)))) : w_C_fieldOf K (rfi ad i) (nI 7) post := by
  unfold w_C_fieldOf
  refine br_t rfl ?_
  rw [hs]
  exact rC_boxW (fun q hq => hp q hq ⟨rng_5 _, fun e => absurd e (by decide)⟩)
set_option maxHeartbeats 4000000 in
theorem rC_field8 {n : Nat} {ad : Nat → Nat} {K : KT} {M : MT} (h : SS n ad K M) (hs : kSh K = m_shared M) {i s : Nat} (hi : i ≤ n) (e0 : i = 0 ↔ s = 0) (es : m_sort M i = nI s) (hr : rff s 8 = 0) {post : Option Nat → KT → Prop} (hp : ∀ q : Nat, q ∉ kL K → FV n ad M i 8 → post (some q) (kNew K q (oW (kd 8) (fw M i 8) (m_real M i)))) : w_C_fieldOf K (rfi ad i) (nI 8) post := by
  have hso : s = 10 ∨ s = 11 := (rff_o (f := 8) (by decide) hr).imp (fun x => x.1) id
  obtain ⟨p, g1, -, g2, g3, g4, g5, g6, g7, g8, g9, g10, g11⟩ := sv_item h hi e0 es hso
  rw [g1]
  have ht : (kO K p).1 = 1 ∨ (kO K p).1 = 3 := g3.imp (fun x => x.2) (fun x => x.2.1)
  have hI := sv_isI g2 ht
  have hob : kob K (some p) = kO K p := rfl
  refine rC_item (f := 8) g2 ht (by decide) ?_
  have h11 : s = 11 := (rff_o (f := 8) (by decide) hr).elim (fun x => absurd rfl x.2) id
  obtain ⟨-, t3, x1, x2⟩ := g3.resolve_left (fun x => by omega)
  have hT : isT K (some p) 3 := ⟨p, rfl, g2, t3⟩
  refine ⟨p, rfl, g2, Or.inr ⟨t3, br_t rfl ⟨hT, ?_⟩⟩⟩
  rw [hob, x1]
  exact rC_boxW (fun q hq => hp q hq ⟨⟨fun e => absurd e (by decide), fun _ => by show (m_extra M i).toInt64.toInt32.toInt16.toInt32.toInt64 = _; rw [Int32.toInt32_toInt64, x2]; rfl, fun _ => by show (m_extra M i).toInt64.toInt32.toInt64 = _; rw [Int32.toInt32_toInt64]; rfl⟩, fun e => absurd e (by decide)⟩)
set_option maxHeartbeats 4000000 in
theorem rM_take0 {M : MT} {i : Nat} (hi : i < 520) {post : MT → Prop} (hp : ∀ (w : Int64) (r : UInt64), (0 ≠ 2 → w = fw M i 0) → (0 = 2 → r = m_real M i) → post (ms_realNow (ms_wholeNow M w) r)) : w_M_take M (nI i) (nI 0) post := by
  have v := vp_in_nI (N := 520) hi (by omega)
  unfold w_M_take
  repeat (first | refine br_t (by decide) ?_ | refine br_f (by decide) ?_ | refine ⟨v, ?_⟩)
  unfold w_M_take_b89
  try rw [nI_clamp (show i < 2 ^ 31 by omega)]
  exact hp (fw M i 0) (m_realNow M) (fun _ => rfl) (fun e => absurd e (by decide))
set_option maxHeartbeats 4000000 in
theorem rM_take1 {M : MT} {i : Nat} (hi : i < 520) {post : MT → Prop} (hp : ∀ (w : Int64) (r : UInt64), (1 ≠ 2 → w = fw M i 1) → (1 = 2 → r = m_real M i) → post (ms_realNow (ms_wholeNow M w) r)) : w_M_take M (nI i) (nI 1) post := by
  have v := vp_in_nI (N := 520) hi (by omega)
  unfold w_M_take
  repeat (first | refine br_t (by decide) ?_ | refine br_f (by decide) ?_ | refine ⟨v, ?_⟩)
  unfold w_M_take_b89
  try rw [nI_clamp (show i < 2 ^ 31 by omega)]
  exact hp (fw M i 1) (m_realNow M) (fun _ => rfl) (fun e => absurd e (by decide))
set_option maxHeartbeats 4000000 in
theorem rM_take2 {M : MT} {i : Nat} (hi : i < 520) {post : MT → Prop} (hp : ∀ (w : Int64) (r : UInt64), (2 ≠ 2 → w = fw M i 2) → (2 = 2 → r = m_real M i) → post (ms_realNow (ms_wholeNow M w) r)) : w_M_take M (nI i) (nI 2) post := by
  have v := vp_in_nI (N := 520) hi (by omega)
  unfold w_M_take
  repeat (first | refine br_t (by decide) ?_ | refine br_f (by decide) ?_ | refine ⟨v, ?_⟩)
  unfold w_M_take_b89
  try rw [nI_clamp (show i < 2 ^ 31 by omega)]
  exact hp (m_wholeNow M) (m_real M i) (fun e => absurd rfl e) (fun _ => rfl)
set_option maxHeartbeats 4000000 in
theorem rM_take6 {M : MT} {i : Nat} (hi : i < 520) {post : MT → Prop} (hp : ∀ (w : Int64) (r : UInt64), (6 ≠ 2 → w = fw M i 6) → (6 = 2 → r = m_real M i) → post (ms_realNow (ms_wholeNow M w) r)) : w_M_take M (nI i) (nI 6) post := by
  have v := vp_in_nI (N := 520) hi (by omega)
  unfold w_M_take
  repeat (first | refine br_t (by decide) ?_ | refine br_f (by decide) ?_ | refine ⟨v, ?_⟩)
  unfold w_M_take_b89
  try rw [nI_clamp (show i < 2 ^ 31 by omega)]
  exact hp (fw M i 6) (m_realNow M) (fun _ => rfl) (fun e => absurd e (by decide))
set_option maxHeartbeats 4000000 in
theorem rM_take7 {M : MT} {i : Nat} (hi : i < 520) {post : MT → Prop} (hp : ∀ (w : Int64) (r : UInt64), (7 ≠ 2 → w = fw M i 7) → (7 = 2 → r = m_real M i) → post (ms_realNow (ms_wholeNow M w) r)) : w_M_take M (nI i) (nI 7) post := by
  have v := vp_in_nI (N := 520) hi (by omega)
  unfold w_M_take
  repeat (first | refine br_t (by decide) ?_ | refine br_f (by decide) ?_ | refine ⟨v, ?_⟩)
  unfold w_M_take_b89
  try rw [nI_clamp (show i < 2 ^ 31 by omega)]
  exact hp (fw M i 7) (m_realNow M) (fun _ => rfl) (fun e => absurd e (by decide))
set_option maxHeartbeats 4000000 in
theorem rM_take8 {M : MT} {i : Nat} (hi : i < 520) {post : MT → Prop} (hp : ∀ (w : Int64) (r : UInt64), (8 ≠ 2 → w = fw M i 8) → (8 = 2 → r = m_real M i) → post (ms_realNow (ms_wholeNow M w) r)) : w_M_take M (nI i) (nI 8) post := by
  have v := vp_in_nI (N := 520) hi (by omega)
  unfold w_M_take
  repeat (first | refine br_t (by decide) ?_ | refine br_f (by decide) ?_ | refine ⟨v, ?_⟩)
  unfold w_M_take_b89
  try rw [nI_clamp (show i < 2 ^ 31 by omega)]
  exact hp (fw M i 8) (m_realNow M) (fun _ => rfl) (fun e => absurd e (by decide))
