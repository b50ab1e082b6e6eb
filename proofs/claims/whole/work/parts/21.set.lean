theorem wid_4 : ∀ k, k < 8 → wid k 4 = true → k < 5 := by decide
theorem wid_1 : ∀ k, k < 8 → wid k 1 = true → k = 1 := by decide
theorem wid_3 : ∀ k, k < 8 → wid k 3 = true → k = 1 ∨ k = 3 := by decide
theorem wid_5 : ∀ k, k < 8 → wid k 5 = true → k < 6 := by decide
theorem n8_of {w : Int64} (h : w.toInt32.toInt8.toInt32.toInt64 = w) : w.toInt32.toInt8.toInt32 = w.toInt32 := by
  have := congrArg Int64.toInt32 h
  rwa [Int32.toInt32_toInt64] at this
theorem n16_of {w : Int64} (h : w.toInt32.toInt16.toInt32.toInt64 = w) : w.toInt32.toInt16.toInt32 = w.toInt32 := by
  have := congrArg Int64.toInt32 h
  rwa [Int32.toInt32_toInt64] at this
theorem n16_8 {x : Int32} (h : x.toInt8.toInt32 = x) : x.toInt16.toInt32 = x := by
  rw [← h]
  generalize x.toInt8 = y
  apply Int32.toInt_inj.mp
  have h1 := y.le_toInt
  have h2 := y.toInt_lt
  rw [Int16.toInt_toInt32, Int32.toInt_toInt16, Int8.toInt_toInt32]
  apply Int.bmod_eq_of_le <;> omega
theorem cvt_src {s k : Nat} (h : cvt s k = true) : ∃ c : Nat, c < 8 ∧ s = c + 1 ∧ wid c k = true := by
  unfold cvt at h
  rw [Bool.and_eq_true] at h
  have h18 := of_decide_eq_true h.1
  exact ⟨s - 1, by omega, by omega, h.2⟩
theorem sv_sp {n : Nat} {ad : Nat → Nat} {K : KT} {M : MT} (h : SS n ad K M) {i s : Nat} (hi : i ≤ n) (e0 : i = 0 ↔ s = 0) (es : m_sort M i = nI s) (hs : s = 10 ∨ s = 11) : ((m_sort M i = 10 ∧ (kO K (ad i)).1 = 1) ∨ (m_sort M i = 11 ∧ (kO K (ad i)).1 = 3 ∧ oX (kO K (ad i)) = m_extra M i ∧ (m_extra M i).toInt16.toInt32 = m_extra M i)) ∧ (s = 11 → m_sort M i = 11 ∧ (kO K (ad i)).1 = 3) ∧ rfi ad i = some (ad i) ∧ ad i ∈ kL K ∧ ((kO K (ad i)).1 = 1 ∨ (kO K (ad i)).1 = 3) ∧ 1 ≤ i ∧ m_whole M i = (oI (kO K (ad i))).toInt64 ∧ oS (kO K (ad i)) = m_small M i ∧ (m_small M i).toInt8.toInt32 = m_small M i ∧ oD (kO K (ad i)) = m_real M i ∧ vf_n64 (m_real M i) ∧ RR n ad (oT (kO K (ad i))) (m_text M i) ∧ RR n ad (oA (kO K (ad i))) (m_any M i) ∧ RR n ad (oN (kO K (ad i))) (m_next M i) := by
  obtain ⟨p, g1, ep, g2, g3, g4⟩ := sv_item h hi e0 es hs
  subst ep
  have h0 : i ≠ 0 := fun e => by have := e0.mp e; omega
  refine ⟨g3.imp (fun x => ⟨by rw [es, x.1]; rfl, x.2⟩) (fun x => ⟨by rw [es, x.1]; rfl, x.2⟩), fun z => ?_, g1, g2, g3.imp (fun x => x.2) (fun x => x.2.1), by omega, g4⟩
  obtain ⟨-, t3, -⟩ := g3.resolve_left (fun x => by omega)
  exact ⟨by rw [es, z]; rfl, t3⟩
theorem ss_set0 {n : Nat} {ad : Nat → Nat} {K : KT} {M : MT} (h : SS n ad K M) {i s : Nat} (hi : i ≤ n) (e0 : i = 0 ↔ s = 0) (es : m_sort M i = nI s) (hs : s = 10 ∨ s = 11) {w : Int64} (hw : w.toInt32.toInt64 = w) : SS n ad (ksO K (ad i) (osI (kO K (ad i)) (w.toInt32))) (ms_whole M i (w)) := by
  obtain ⟨sp, s3, g1, g2, g3, i1, g4, g5, g6, g7, g8, g9, g10, g11⟩ := sv_sp h hi e0 es hs
  refine sc_upd h (o := osI (kO K (ad i)) (w.toInt32)) i1 hi (fun j hj => pk_uLn hj) (fun _ _ => rfl) (fun _ _ => rfl) (fun _ _ => rfl) (fun _ _ => rfl) (fun _ _ => rfl) (fun _ _ => rfl) ?_
  have eu : vp_updL (m_whole M) i w i = w := pk_uLs
  refine Or.inr (Or.inr (Or.inr ?_))
  refine ⟨sp, ?_, g5, g6, g7, g8, g9, g10, g11⟩
  refine eu.trans ?_
  exact hw.symm
theorem ss_set1 {n : Nat} {ad : Nat → Nat} {K : KT} {M : MT} (h : SS n ad K M) {i s : Nat} (hi : i ≤ n) (e0 : i = 0 ↔ s = 0) (es : m_sort M i = nI s) (hs : s = 10 ∨ s = 11) {w : Int64} (hw : w.toInt32.toInt8.toInt32 = w.toInt32) : SS n ad (ksO K (ad i) (osS (kO K (ad i)) (w.toInt32.toInt8.toInt32))) (ms_small M i (w.toInt32)) := by
  obtain ⟨sp, s3, g1, g2, g3, i1, g4, g5, g6, g7, g8, g9, g10, g11⟩ := sv_sp h hi e0 es hs
  refine sc_upd h (o := osS (kO K (ad i)) (w.toInt32.toInt8.toInt32)) i1 hi (fun _ _ => rfl) (fun _ _ => rfl) (fun j hj => pk_un hj) (fun _ _ => rfl) (fun _ _ => rfl) (fun _ _ => rfl) (fun _ _ => rfl) ?_
  have eu : upd (m_small M) i (w.toInt32) i = w.toInt32 := pk_us
  refine Or.inr (Or.inr (Or.inr ?_))
  refine ⟨sp, g4, hw.trans eu.symm, ?_, g7, g8, g9, g10, g11⟩
  show (upd (m_small M) i (w.toInt32) i).toInt8.toInt32 = upd (m_small M) i (w.toInt32) i
  rw [eu]
  exact hw
theorem ss_set2 {n : Nat} {ad : Nat → Nat} {K : KT} {M : MT} (h : SS n ad K M) {i s : Nat} (hi : i ≤ n) (e0 : i = 0 ↔ s = 0) (es : m_sort M i = nI s) (hs : s = 10 ∨ s = 11) {r : UInt64} (hw : vf_n64 r) : SS n ad (ksO K (ad i) (osD (kO K (ad i)) (r))) (ms_real M i (r)) := by
  obtain ⟨sp, s3, g1, g2, g3, i1, g4, g5, g6, g7, g8, g9, g10, g11⟩ := sv_sp h hi e0 es hs
  refine sc_upd h (o := osD (kO K (ad i)) (r)) i1 hi (fun _ _ => rfl) (fun j hj => vf_un hj) (fun _ _ => rfl) (fun _ _ => rfl) (fun _ _ => rfl) (fun _ _ => rfl) (fun _ _ => rfl) ?_
  have eu : vf_upd (m_real M) i r i = r := vf_us
  refine Or.inr (Or.inr (Or.inr ?_))
  refine ⟨sp, g4, g5, g6, eu.symm, ?_, g9, g10, g11⟩
  show vf_n64 (vf_upd (m_real M) i r i)
  rw [eu]
  exact hw
theorem ss_set3 {n : Nat} {ad : Nat → Nat} {K : KT} {M : MT} (h : SS n ad K M) {i s : Nat} (hi : i ≤ n) (e0 : i = 0 ↔ s = 0) (es : m_sort M i = nI s) (hs : s = 10 ∨ s = 11) {r : Option Nat} {x : Int32} (hw : RR n ad r x) : SS n ad (ksO K (ad i) (osT (kO K (ad i)) (r))) (ms_text M i (x)) := by
  obtain ⟨sp, s3, g1, g2, g3, i1, g4, g5, g6, g7, g8, g9, g10, g11⟩ := sv_sp h hi e0 es hs
  refine sc_upd h (o := osT (kO K (ad i)) (r)) i1 hi (fun _ _ => rfl) (fun _ _ => rfl) (fun _ _ => rfl) (fun _ _ => rfl) (fun j hj => pk_un hj) (fun _ _ => rfl) (fun _ _ => rfl) ?_
  have eu : upd (m_text M) i (x) i = x := pk_us
  refine Or.inr (Or.inr (Or.inr ?_))
  refine ⟨sp, g4, g5, g6, g7, g8, ?_, g10, g11⟩
  show RR n ad r (upd (m_text M) i (x) i)
  rw [eu]
  exact hw
theorem ss_set4 {n : Nat} {ad : Nat → Nat} {K : KT} {M : MT} (h : SS n ad K M) {i s : Nat} (hi : i ≤ n) (e0 : i = 0 ↔ s = 0) (es : m_sort M i = nI s) (hs : s = 10 ∨ s = 11) {r : Option Nat} {x : Int32} (hw : RR n ad r x) : SS n ad (ksO K (ad i) (osA (kO K (ad i)) (r))) (ms_any M i (x)) := by
  obtain ⟨sp, s3, g1, g2, g3, i1, g4, g5, g6, g7, g8, g9, g10, g11⟩ := sv_sp h hi e0 es hs
  refine sc_upd h (o := osA (kO K (ad i)) (r)) i1 hi (fun _ _ => rfl) (fun _ _ => rfl) (fun _ _ => rfl) (fun _ _ => rfl) (fun _ _ => rfl) (fun j hj => pk_un hj) (fun _ _ => rfl) ?_
  have eu : upd (m_any M) i (x) i = x := pk_us
  refine Or.inr (Or.inr (Or.inr ?_))
  refine ⟨sp, g4, g5, g6, g7, g8, g9, ?_, g11⟩
  show RR n ad r (upd (m_any M) i (x) i)
  rw [eu]
  exact hw
theorem ss_set5 {n : Nat} {ad : Nat → Nat} {K : KT} {M : MT} (h : SS n ad K M) {i s : Nat} (hi : i ≤ n) (e0 : i = 0 ↔ s = 0) (es : m_sort M i = nI s) (hs : s = 10 ∨ s = 11) {r : Option Nat} {x : Int32} (hw : RR n ad r x) : SS n ad (ksO K (ad i) (osN (kO K (ad i)) (r))) (ms_next M i (x)) := by
  obtain ⟨sp, s3, g1, g2, g3, i1, g4, g5, g6, g7, g8, g9, g10, g11⟩ := sv_sp h hi e0 es hs
  refine sc_upd h (o := osN (kO K (ad i)) (r)) i1 hi (fun _ _ => rfl) (fun _ _ => rfl) (fun _ _ => rfl) (fun _ _ => rfl) (fun _ _ => rfl) (fun _ _ => rfl) (fun j hj => pk_un hj) ?_
  have eu : upd (m_next M) i (x) i = x := pk_us
  refine Or.inr (Or.inr (Or.inr ?_))
  refine ⟨sp, g4, g5, g6, g7, g8, g9, g10, ?_⟩
  show RR n ad r (upd (m_next M) i (x) i)
  rw [eu]
  exact hw
theorem ss_set8 {n : Nat} {ad : Nat → Nat} {K : KT} {M : MT} (h : SS n ad K M) {i s : Nat} (hi : i ≤ n) (e0 : i = 0 ↔ s = 0) (es : m_sort M i = nI s) (hs : s = 11) {w : Int64} (hw : w.toInt32.toInt16.toInt32 = w.toInt32) : SS n ad (ksO K (ad i) (osX (kO K (ad i)) (w.toInt32.toInt16.toInt32))) (ms_extra M i (w.toInt32)) := by
  obtain ⟨sp, s3, g1, g2, g3, i1, g4, g5, g6, g7, g8, g9, g10, g11⟩ := sv_sp h hi e0 es (Or.inr hs)
  refine sc_upd h (o := osX (kO K (ad i)) (w.toInt32.toInt16.toInt32)) i1 hi (fun _ _ => rfl) (fun _ _ => rfl) (fun _ _ => rfl) (fun j hj => pk_un hj) (fun _ _ => rfl) (fun _ _ => rfl) (fun _ _ => rfl) ?_
  have eu : upd (m_extra M) i (w.toInt32) i = w.toInt32 := pk_us
  refine Or.inr (Or.inr (Or.inr ?_))
  obtain ⟨q1, q2⟩ := s3 hs
  refine ⟨Or.inr ⟨q1, q2, hw.trans eu.symm, ?_⟩, g4, g5, g6, g7, g8, g9, g10, g11⟩
  show (upd (m_extra M) i (w.toInt32) i).toInt16.toInt32 = upd (m_extra M) i (w.toInt32) i
  rw [eu]
  exact hw
set_option maxHeartbeats 4000000 in
theorem sim_store0 {N n : Nat} {ad : Nat → Nat} {K : KT} {M : MT} (hn : n ≤ N) (ho : m_objects M = nI n) (hs : kSh K = m_shared M) (hC : SS n ad K M) {i s j s' : Nat} (hi : i ≤ n) (e0 : i = 0 ↔ s = 0) (es : m_sort M i = nI s) (hj : j ≤ n) (hs' : s' ≤ 12) (es' : m_sort M j = nI s') (et' : ktg K (rfi ad j) = tgN s') (e0' : j = 0 ↔ s' = 0) {h g : Nat} (hr : rff s 0 = 0) (hf : cvt s' (kd 0) = true) (hi5 : i < 520) (go : ∀ Q : Int32 → MT → Prop, (∀ (r : UInt64) (z1 z3 z6 z7 : Int32), (6 ≤ kd 0 → r = rr (s' - 1) (kd 0) (m_whole M j) (m_real M j)) → w_M_set_b126 (ms_realNow (ms_wholeNow M (m_whole M j)) r) z1 (nI 0) z3 (nI i) (nI j) z6 z7 Q) → w_M_set M (nI h) (nI 0) (nI g) Q) : w_C_store (ksLa K 0) (rfi ad i) (nI 0) (rfi ad j) (fun K' => w_M_set M (nI h) (nI 0) (nI g) (fun r' M' => 0 = r' ∧ Sim N K' M')) := by
  have hC' : SS n ad (ksLa K 0) M := hC
  obtain ⟨c, c8, ec, hw⟩ := cvt_src hf
  have esc : m_sort M j = nI (c + 1) := by rw [es', ec]
  have hso : s = 10 ∨ s = 11 := (rff_o (f := 0) (by decide) hr).imp (fun x => x.1) id
  obtain ⟨sp, s3, g1, g2, g3, i1, -⟩ := sv_sp hC' hi e0 es hso
  rw [g1]
  refine rC_stored (f := 0) g2 g3 (by decide) (by decide) ?_
  have hI := sv_isI g2 g3
  unfold w_I_write
  repeat (first | refine br_t (by decide) ?_ | refine br_f (by decide) ?_)
  have c5 := wid_4 c c8 hw
  refine rC_wholeOf hC' hj (by omega) esc ⟨hI, go _ (fun r z1 z3 z6 z7 er => rM_b126_0 hi5 ⟨rfl, ?_⟩)⟩
  obtain ⟨p, -, -, -, -, b5, -⟩ := sv_box hC' hj c8 esc
  exact ⟨n, ad, hn, ho, hs, rfl, ss_set0 hC' hi e0 es hso ((b5 (by omega)).2.2.2.2 c5)⟩
set_option maxHeartbeats 4000000 in
theorem sim_store1 {N n : Nat} {ad : Nat → Nat} {K : KT} {M : MT} (hn : n ≤ N) (ho : m_objects M = nI n) (hs : kSh K = m_shared M) (hC : SS n ad K M) {i s j s' : Nat} (hi : i ≤ n) (e0 : i = 0 ↔ s = 0) (es : m_sort M i = nI s) (hj : j ≤ n) (hs' : s' ≤ 12) (es' : m_sort M j = nI s') (et' : ktg K (rfi ad j) = tgN s') (e0' : j = 0 ↔ s' = 0) {h g : Nat} (hr : rff s 1 = 0) (hf : cvt s' (kd 1) = true) (hi5 : i < 520) (go : ∀ Q : Int32 → MT → Prop, (∀ (r : UInt64) (z1 z3 z6 z7 : Int32), (6 ≤ kd 1 → r = rr (s' - 1) (kd 1) (m_whole M j) (m_real M j)) → w_M_set_b126 (ms_realNow (ms_wholeNow M (m_whole M j)) r) z1 (nI 1) z3 (nI i) (nI j) z6 z7 Q) → w_M_set M (nI h) (nI 1) (nI g) Q) : w_C_store (ksLa K 0) (rfi ad i) (nI 1) (rfi ad j) (fun K' => w_M_set M (nI h) (nI 1) (nI g) (fun r' M' => 0 = r' ∧ Sim N K' M')) := by
  have hC' : SS n ad (ksLa K 0) M := hC
  obtain ⟨c, c8, ec, hw⟩ := cvt_src hf
  have esc : m_sort M j = nI (c + 1) := by rw [es', ec]
  have hso : s = 10 ∨ s = 11 := (rff_o (f := 1) (by decide) hr).imp (fun x => x.1) id
  obtain ⟨sp, s3, g1, g2, g3, i1, -⟩ := sv_sp hC' hi e0 es hso
  rw [g1]
  refine rC_stored (f := 1) g2 g3 (by decide) (by decide) ?_
  have hI := sv_isI g2 g3
  unfold w_I_write
  repeat (first | refine br_t (by decide) ?_ | refine br_f (by decide) ?_)
  have c1 := wid_1 c c8 hw
  refine rC_wholeOf hC' hj (by omega) esc ⟨hI, go _ (fun r z1 z3 z6 z7 er => rM_b126_1 hi5 ⟨rfl, ?_⟩)⟩
  obtain ⟨p, -, -, -, -, b5, -⟩ := sv_box hC' hj c8 esc
  exact ⟨n, ad, hn, ho, hs, rfl, ss_set1 hC' hi e0 es hso (n8_of ((b5 (by omega)).2.2.1 c1))⟩
set_option maxHeartbeats 4000000 in
theorem sim_store2 {N n : Nat} {ad : Nat → Nat} {K : KT} {M : MT} (hn : n ≤ N) (ho : m_objects M = nI n) (hs : kSh K = m_shared M) (hC : SS n ad K M) {i s j s' : Nat} (hi : i ≤ n) (e0 : i = 0 ↔ s = 0) (es : m_sort M i = nI s) (hj : j ≤ n) (hs' : s' ≤ 12) (es' : m_sort M j = nI s') (et' : ktg K (rfi ad j) = tgN s') (e0' : j = 0 ↔ s' = 0) {h g : Nat} (hr : rff s 2 = 0) (hf : cvt s' (kd 2) = true) (hi5 : i < 520) (go : ∀ Q : Int32 → MT → Prop, (∀ (r : UInt64) (z1 z3 z6 z7 : Int32), (6 ≤ kd 2 → r = rr (s' - 1) (kd 2) (m_whole M j) (m_real M j)) → w_M_set_b126 (ms_realNow (ms_wholeNow M (m_whole M j)) r) z1 (nI 2) z3 (nI i) (nI j) z6 z7 Q) → w_M_set M (nI h) (nI 2) (nI g) Q) : w_C_store (ksLa K 0) (rfi ad i) (nI 2) (rfi ad j) (fun K' => w_M_set M (nI h) (nI 2) (nI g) (fun r' M' => 0 = r' ∧ Sim N K' M')) := by
  have hC' : SS n ad (ksLa K 0) M := hC
  obtain ⟨c, c8, ec, hw⟩ := cvt_src hf
  have esc : m_sort M j = nI (c + 1) := by rw [es', ec]
  have hso : s = 10 ∨ s = 11 := (rff_o (f := 2) (by decide) hr).imp (fun x => x.1) id
  obtain ⟨sp, s3, g1, g2, g3, i1, -⟩ := sv_sp hC' hi e0 es hso
  rw [g1]
  refine rC_stored (f := 2) g2 g3 (by decide) (by decide) ?_
  have hI := sv_isI g2 g3
  unfold w_I_write
  repeat (first | refine br_t (by decide) ?_ | refine br_f (by decide) ?_)
  refine rC_realOf hC' hj c8 esc (fun vn => ⟨hI, go _ (fun r z1 z3 z6 z7 er => rM_b126_2 hi5 ⟨rfl, ?_⟩)⟩)
  have er' : r = rr c 7 (m_whole M j) (m_real M j) := by
    have q := er (by decide)
    rw [ec] at q
    exact q
  subst er'
  exact ⟨n, ad, hn, ho, hs, rfl, ss_set2 hC' hi e0 es hso vn⟩
set_option maxHeartbeats 4000000 in
theorem sim_store3 {N n : Nat} {ad : Nat → Nat} {K : KT} {M : MT} (hn : n ≤ N) (ho : m_objects M = nI n) (hs : kSh K = m_shared M) (hC : SS n ad K M) {i s j s' : Nat} (hi : i ≤ n) (e0 : i = 0 ↔ s = 0) (es : m_sort M i = nI s) (hj : j ≤ n) (hs' : s' ≤ 12) (es' : m_sort M j = nI s') (et' : ktg K (rfi ad j) = tgN s') (e0' : j = 0 ↔ s' = 0) {h g : Nat} (hr : rff s 3 = 0) (hf : fit s' 3 = true) (hi5 : i < 520) (go : ∀ Q : Int32 → MT → Prop, (∀ z1 z3 z6 z7 : Int32, w_M_set_b126 M z1 (nI 3) z3 (nI i) (nI j) z6 z7 Q) → w_M_set M (nI h) (nI 3) (nI g) Q) : w_C_store (ksLa K 0) (rfi ad i) (nI 3) (rfi ad j) (fun K' => w_M_set M (nI h) (nI 3) (nI g) (fun r' M' => 0 = r' ∧ Sim N K' M')) := by
  have hC' : SS n ad (ksLa K 0) M := hC
  have hso : s = 10 ∨ s = 11 := (rff_o (f := 3) (by decide) hr).imp (fun x => x.1) id
  obtain ⟨sp, s3, g1, g2, g3, i1, -⟩ := sv_sp hC' hi e0 es hso
  rw [g1]
  refine rC_stored (f := 3) g2 g3 (by decide) (by decide) ?_
  have hI := sv_isI g2 g3
  unfold w_I_write
  repeat (first | refine br_t (by decide) ?_ | refine br_f (by decide) ?_)
  refine rC_textOf hC' hj hs' et' e0' hf ⟨hI, go _ (fun z1 z3 z6 z7 => rM_b126_3 hi5 ⟨rfl, ?_⟩)⟩
  exact ⟨n, ad, hn, ho, hs, rfl, ss_set3 hC' hi e0 es hso ⟨j, hj, rfl, rfl⟩⟩
set_option maxHeartbeats 4000000 in
theorem sim_store4 {N n : Nat} {ad : Nat → Nat} {K : KT} {M : MT} (hn : n ≤ N) (ho : m_objects M = nI n) (hs : kSh K = m_shared M) (hC : SS n ad K M) {i s j s' : Nat} (hi : i ≤ n) (e0 : i = 0 ↔ s = 0) (es : m_sort M i = nI s) (hj : j ≤ n) (hs' : s' ≤ 12) (es' : m_sort M j = nI s') (et' : ktg K (rfi ad j) = tgN s') (e0' : j = 0 ↔ s' = 0) {h g : Nat} (hr : rff s 4 = 0) (hf : fit s' 4 = true) (hi5 : i < 520) (go : ∀ Q : Int32 → MT → Prop, (∀ z1 z3 z6 z7 : Int32, w_M_set_b126 M z1 (nI 4) z3 (nI i) (nI j) z6 z7 Q) → w_M_set M (nI h) (nI 4) (nI g) Q) : w_C_store (ksLa K 0) (rfi ad i) (nI 4) (rfi ad j) (fun K' => w_M_set M (nI h) (nI 4) (nI g) (fun r' M' => 0 = r' ∧ Sim N K' M')) := by
  have hC' : SS n ad (ksLa K 0) M := hC
  have hso : s = 10 ∨ s = 11 := (rff_o (f := 4) (by decide) hr).imp (fun x => x.1) id
  obtain ⟨sp, s3, g1, g2, g3, i1, -⟩ := sv_sp hC' hi e0 es hso
  rw [g1]
  refine rC_stored (f := 4) g2 g3 (by decide) (by decide) ?_
  have hI := sv_isI g2 g3
  unfold w_I_write
  repeat (first | refine br_t (by decide) ?_ | refine br_f (by decide) ?_)
  refine ⟨hI, go _ (fun z1 z3 z6 z7 => rM_b126_4 hi5 ⟨rfl, ?_⟩)⟩
  exact ⟨n, ad, hn, ho, hs, rfl, ss_set4 hC' hi e0 es hso ⟨j, hj, rfl, rfl⟩⟩
set_option maxHeartbeats 4000000 in
theorem sim_store5 {N n : Nat} {ad : Nat → Nat} {K : KT} {M : MT} (hn : n ≤ N) (ho : m_objects M = nI n) (hs : kSh K = m_shared M) (hC : SS n ad K M) {i s j s' : Nat} (hi : i ≤ n) (e0 : i = 0 ↔ s = 0) (es : m_sort M i = nI s) (hj : j ≤ n) (hs' : s' ≤ 12) (es' : m_sort M j = nI s') (et' : ktg K (rfi ad j) = tgN s') (e0' : j = 0 ↔ s' = 0) {h g : Nat} (hr : rff s 5 = 0) (hf : fit s' 5 = true) (hi5 : i < 520) (go : ∀ Q : Int32 → MT → Prop, (∀ z1 z3 z6 z7 : Int32, w_M_set_b126 M z1 (nI 5) z3 (nI i) (nI j) z6 z7 Q) → w_M_set M (nI h) (nI 5) (nI g) Q) : w_C_store (ksLa K 0) (rfi ad i) (nI 5) (rfi ad j) (fun K' => w_M_set M (nI h) (nI 5) (nI g) (fun r' M' => 0 = r' ∧ Sim N K' M')) := by
  have hC' : SS n ad (ksLa K 0) M := hC
  have hso : s = 10 ∨ s = 11 := (rff_o (f := 5) (by decide) hr).imp (fun x => x.1) id
  obtain ⟨sp, s3, g1, g2, g3, i1, -⟩ := sv_sp hC' hi e0 es hso
  rw [g1]
  refine rC_stored (f := 5) g2 g3 (by decide) (by decide) ?_
  have hI := sv_isI g2 g3
  unfold w_I_write
  repeat (first | refine br_t (by decide) ?_ | refine br_f (by decide) ?_)
  refine rC_itemOf hC' hj hs' et' e0' hf ⟨hI, go _ (fun z1 z3 z6 z7 => rM_b126_5 hi5 ⟨rfl, ?_⟩)⟩
  exact ⟨n, ad, hn, ho, hs, rfl, ss_set5 hC' hi e0 es hso ⟨j, hj, rfl, rfl⟩⟩
set_option maxHeartbeats 4000000 in
theorem sim_store7 {N n : Nat} {ad : Nat → Nat} {K : KT} {M : MT} (hn : n ≤ N) (ho : m_objects M = nI n) (hs : kSh K = m_shared M) (hC : SS n ad K M) {i s j s' : Nat} (hi : i ≤ n) (e0 : i = 0 ↔ s = 0) (es : m_sort M i = nI s) (hj : j ≤ n) (hs' : s' ≤ 12) (es' : m_sort M j = nI s') (et' : ktg K (rfi ad j) = tgN s') (e0' : j = 0 ↔ s' = 0) {h g : Nat} (hr : rff s 7 = 0) (hf : cvt s' (kd 7) = true) (hi5 : i < 520) (go : ∀ Q : Int32 → MT → Prop, (∀ (r : UInt64) (z1 z3 z6 z7 : Int32), (6 ≤ kd 7 → r = rr (s' - 1) (kd 7) (m_whole M j) (m_real M j)) → w_M_set_b126 (ms_realNow (ms_wholeNow M (m_whole M j)) r) z1 (nI 7) z3 (nI i) (nI j) z6 z7 Q) → w_M_set M (nI h) (nI 7) (nI g) Q) : w_C_store (ksLa K 0) (rfi ad i) (nI 7) (rfi ad j) (fun K' => w_M_set M (nI h) (nI 7) (nI g) (fun r' M' => 0 = r' ∧ Sim N K' M')) := by
  have hC' : SS n ad (ksLa K 0) M := hC
  obtain ⟨c, c8, ec, hw⟩ := cvt_src hf
  have esc : m_sort M j = nI (c + 1) := by rw [es', ec]
  unfold w_C_store
  refine br_t rfl (rC_wholeOf hC' hj (wid_5 c c8 hw) esc (go _ (fun r z1 z3 z6 z7 er => rM_b126_7 hi5 ⟨rfl, ?_⟩)))
  exact ⟨n, ad, hn, ho, rfl, rfl, hC⟩
set_option maxHeartbeats 4000000 in
theorem sim_store8 {N n : Nat} {ad : Nat → Nat} {K : KT} {M : MT} (hn : n ≤ N) (ho : m_objects M = nI n) (hs : kSh K = m_shared M) (hC : SS n ad K M) {i s j s' : Nat} (hi : i ≤ n) (e0 : i = 0 ↔ s = 0) (es : m_sort M i = nI s) (hj : j ≤ n) (hs' : s' ≤ 12) (es' : m_sort M j = nI s') (et' : ktg K (rfi ad j) = tgN s') (e0' : j = 0 ↔ s' = 0) {h g : Nat} (hr : rff s 8 = 0) (hf : cvt s' (kd 8) = true) (hi5 : i < 520) (go : ∀ Q : Int32 → MT → Prop, (∀ (r : UInt64) (z1 z3 z6 z7 : Int32), (6 ≤ kd 8 → r = rr (s' - 1) (kd 8) (m_whole M j) (m_real M j)) → w_M_set_b126 (ms_realNow (ms_wholeNow M (m_whole M j)) r) z1 (nI 8) z3 (nI i) (nI j) z6 z7 Q) → w_M_set M (nI h) (nI 8) (nI g) Q) : w_C_store (ksLa K 0) (rfi ad i) (nI 8) (rfi ad j) (fun K' => w_M_set M (nI h) (nI 8) (nI g) (fun r' M' => 0 = r' ∧ Sim N K' M')) := by
  have hC' : SS n ad (ksLa K 0) M := hC
  obtain ⟨c, c8, ec, hw⟩ := cvt_src hf
  have esc : m_sort M j = nI (c + 1) := by rw [es', ec]
  have hso : s = 10 ∨ s = 11 := (rff_o (f := 8) (by decide) hr).imp (fun x => x.1) id
  obtain ⟨sp, s3, g1, g2, g3, i1, -⟩ := sv_sp hC' hi e0 es hso
  rw [g1]
  have h11 : s = 11 := (rff_o (f := 8) (by decide) hr).elim (fun x => absurd rfl x.2) id
  refine rC_stored8 g2 (s3 h11).2 (rC_wholeOf hC' hj (by
    rcases wid_3 c c8 hw with z | z <;> omega) esc (go _ (fun r z1 z3 z6 z7 er => rM_b126_8 hi5 ⟨rfl, ?_⟩)))
  obtain ⟨p, -, -, -, -, b5, -⟩ := sv_box hC' hj c8 esc
  have hx : (m_whole M j).toInt32.toInt16.toInt32 = (m_whole M j).toInt32 := by
    rcases wid_3 c c8 hw with z | z
    · exact n16_8 (n8_of ((b5 (by omega)).2.2.1 z))
    · exact n16_of ((b5 (by omega)).2.2.2.1 z)
  exact ⟨n, ad, hn, ho, hs, rfl, ss_set8 hC' hi e0 es h11 hx⟩
theorem sim_store_lo {N n : Nat} {ad : Nat → Nat} {K : KT} {M : MT} (hn : n ≤ N) (ho : m_objects M = nI n) (hs : kSh K = m_shared M) (hC : SS n ad K M) {i s j s' : Nat} (hi : i ≤ n) (e0 : i = 0 ↔ s = 0) (es : m_sort M i = nI s) (hj : j ≤ n) (hs' : s' ≤ 12) (es' : m_sort M j = nI s') (et' : ktg K (rfi ad j) = tgN s') (e0' : j = 0 ↔ s' = 0) {h f g : Nat} (hf9 : f < 9) (f3 : f < 3 ∨ 5 < f) (f6 : f ≠ 6) (hr : rff s f = 0) (hf : cvt s' (kd f) = true) (hi5 : i < 520) (go : ∀ Q : Int32 → MT → Prop, (∀ (r : UInt64) (z1 z3 z6 z7 : Int32), (6 ≤ kd f → r = rr (s' - 1) (kd f) (m_whole M j) (m_real M j)) → w_M_set_b126 (ms_realNow (ms_wholeNow M (m_whole M j)) r) z1 (nI f) z3 (nI i) (nI j) z6 z7 Q) → w_M_set M (nI h) (nI f) (nI g) Q) : w_C_store (ksLa K 0) (rfi ad i) (nI f) (rfi ad j) (fun K' => w_M_set M (nI h) (nI f) (nI g) (fun r' M' => 0 = r' ∧ Sim N K' M')) := by
  rcases (show f = 0 ∨ f = 1 ∨ f = 2 ∨ f = 7 ∨ f = 8 by omega) with rfl | rfl | rfl | rfl | rfl
  · exact sim_store0 hn ho hs hC hi e0 es hj hs' es' et' e0' hr hf hi5 go
  · exact sim_store1 hn ho hs hC hi e0 es hj hs' es' et' e0' hr hf hi5 go
  · exact sim_store2 hn ho hs hC hi e0 es hj hs' es' et' e0' hr hf hi5 go
  · exact sim_store7 hn ho hs hC hi e0 es hj hs' es' et' e0' hr hf hi5 go
  · exact sim_store8 hn ho hs hC hi e0 es hj hs' es' et' e0' hr hf hi5 go
theorem sim_store_hi {N n : Nat} {ad : Nat → Nat} {K : KT} {M : MT} (hn : n ≤ N) (ho : m_objects M = nI n) (hs : kSh K = m_shared M) (hC : SS n ad K M) {i s j s' : Nat} (hi : i ≤ n) (e0 : i = 0 ↔ s = 0) (es : m_sort M i = nI s) (hj : j ≤ n) (hs' : s' ≤ 12) (es' : m_sort M j = nI s') (et' : ktg K (rfi ad j) = tgN s') (e0' : j = 0 ↔ s' = 0) {h f g : Nat} (f3 : 3 ≤ f ∧ f ≤ 5) (hr : rff s f = 0) (hf : fit s' f = true) (hi5 : i < 520) (go : ∀ Q : Int32 → MT → Prop, (∀ z1 z3 z6 z7 : Int32, w_M_set_b126 M z1 (nI f) z3 (nI i) (nI j) z6 z7 Q) → w_M_set M (nI h) (nI f) (nI g) Q) : w_C_store (ksLa K 0) (rfi ad i) (nI f) (rfi ad j) (fun K' => w_M_set M (nI h) (nI f) (nI g) (fun r' M' => 0 = r' ∧ Sim N K' M')) := by
  rcases (show f = 3 ∨ f = 4 ∨ f = 5 by omega) with rfl | rfl | rfl
  · exact sim_store3 hn ho hs hC hi e0 es hj hs' es' et' e0' hr hf hi5 go
  · exact sim_store4 hn ho hs hC hi e0 es hj hs' es' et' e0' hr hf hi5 go
  · exact sim_store5 hn ho hs hC hi e0 es hj hs' es' et' e0' hr hf hi5 go
set_option maxHeartbeats 4000000 in
theorem sim_set {N : Nat} {K : KT} {M : MT} (hN : N < 520) (hS : Sim N K M) (a1 a2 a3 : Int32) : w_C_set K a1 a2 a3 (fun r K' => w_M_set M a1 a2 a3 (fun r' M' => r = r' ∧ Sim N K' M')) := by
  have hS0 := hS
  obtain ⟨n, ad, hn, ho, hs, hl, hC⟩ := hS
  unfold w_C_set
  rcases ixs a1 (n := 9) (by omega) with ⟨h, hh, rfl⟩ | h1
  · have c1 : ¬ nI h < 0 := nI_pos (by omega)
    refine pC_below c1 (nI_ge (b := 9) hh (by omega)) (br_f n01 ?_)
    rcases ixs a2 (n := 9) (by omega) with ⟨f, hf, rfl⟩ | h2
    · refine pC_below (nI_pos (by omega)) (nI_ge (b := 9) hf (by omega)) (br_f n01 ?_)
      rcases ixs a3 (n := 9) (by omega) with ⟨g, hg, rfl⟩ | h3
      · refine pC_below (nI_pos (by omega)) (nI_ge (b := 9) hg (by omega)) (br_f n01 ⟨vp_in_nI hh (by omega), fun r er => ⟨vp_in_nI hg (by omega), fun r3 er3 => ?_⟩⟩)
        rw [nI_clamp (show h < 2 ^ 31 by omega)] at er
        rw [nI_clamp (show g < 2 ^ 31 by omega)] at er3
        obtain ⟨i, hi, x1, x2⟩ := sc_hand hC hh
        obtain ⟨j, hj, y1, y2⟩ := sc_hand hC hg
        have er : r = rfi ad i := er.trans x2
        have er3 : r3 = rfi ad j := er3.trans y2
        subst er er3
        obtain ⟨s, hs12, es, et, e0⟩ := sv_sort hC hi
        obtain ⟨s', hs12', es', et', e0'⟩ := sv_sort hC hj
        have hC' : SS n ad (ksLa K 0) M := hC
        have hS2 : Sim N (ksLa K 0) (ms_last M 0) := ⟨n, ad, by omega, ho, hs, rfl, hC⟩
        have vf9 : vp_in (nI f) sf_FIELD_WANTS.length := vp_in_nI hf (show (9 : Nat) < 2 ^ 31 by decide)
        have i5 : i < 520 := by omega
        have j5 : j < 520 := by omega
        refine rC_owner hC' hi hs12 et e0 hf ?_
        by_cases hr : rff s f = 0
        · refine br_t (by rw [hr]; rfl) ?_
          by_cases f6 : f = 6
          · subst f6
            exact br_t rfl (rM_set hh i5 hs12 es e0 x1 hf hg j5 hs12' es' e0' y1 (fun z => absurd hr z) (fun _ _ => ⟨rfl, hS2⟩) (fun _ z => absurd rfl z) (fun _ z => absurd rfl z) (fun _ z => absurd z (by decide)))
          · refine br_f (fun e => f6 (nI_inj (b := 6) (by omega) (by omega) e)) ⟨vf9, ?_⟩
            rw [nI_clamp (show f < 2 ^ 31 by omega)]
            by_cases f3 : f < 3 ∨ 5 < f
            · obtain ⟨k8, k6, kw, -⟩ := kd_lt hf f3
              rw [kw]
              refine rC_conv hC' hj hs12' es' et' k8 ?_
              cases hw : cvt s' (kd f)
              · exact br_t rfl (rM_set hh i5 hs12 es e0 x1 hf hg j5 hs12' es' e0' y1 (fun z => absurd hr z) (fun _ z => absurd z f6) (fun _ _ _ => ⟨rfl, hS2⟩) (fun _ _ _ z => by rw [hw] at z; cases z) (fun _ z => by omega))
              · have go : ∀ Q : Int32 → MT → Prop, (∀ (r : UInt64) (z1 z3 z6 z7 : Int32), (6 ≤ kd f → r = rr (s' - 1) (kd f) (m_whole M j) (m_real M j)) → w_M_set_b126 (ms_realNow (ms_wholeNow M (m_whole M j)) r) z1 (nI f) z3 (nI i) (nI j) z6 z7 Q) → w_M_set M (nI h) (nI f) (nI g) Q := fun Q hQ =>
                  rM_set hh i5 hs12 es e0 x1 hf hg j5 hs12' es' e0' y1 (fun z => absurd hr z) (fun _ z => absurd z f6) (fun _ _ z => by
                    rcases z with z | ⟨-, z⟩
                    · omega
                    · rw [hw] at z
                      cases z) (fun _ _ _ _ r z1 z3 z6 z7 er => hQ r z1 z3 z6 z7 er) (fun _ z => by omega)
                refine br_f n01 ?_
                exact sim_store_lo hn ho hs hC hi e0 es hj hs12' es' et' e0' hf f3 f6 hr hw i5 go
            · obtain ⟨w8, -⟩ := kd_hi (f := f) (by omega) (by omega)
              refine rC_fits hC' hj hs12' et' e0' (by omega) ?_
              cases hw : fit s' f
              · exact br_t rfl (rM_set hh i5 hs12 es e0 x1 hf hg j5 hs12' es' e0' y1 (fun z => absurd hr z) (fun _ z => absurd z f6) (fun _ _ _ => ⟨rfl, hS2⟩) (fun _ _ z => absurd z f3) (fun _ _ z => by rw [hw] at z; cases z))
              · have go : ∀ Q : Int32 → MT → Prop, (∀ z1 z3 z6 z7 : Int32, w_M_set_b126 M z1 (nI f) z3 (nI i) (nI j) z6 z7 Q) → w_M_set M (nI h) (nI f) (nI g) Q := fun Q hQ =>
                  rM_set hh i5 hs12 es e0 x1 hf hg j5 hs12' es' e0' y1 (fun z => absurd hr z) (fun _ z => absurd z f6) (fun _ _ z => by
                    rcases z with ⟨-, z⟩ | ⟨z, -⟩
                    · rw [hw] at z
                      cases z
                    · exact absurd z f3) (fun _ _ z => absurd z f3) (fun _ _ _ z1 z3 z6 z7 => hQ z1 z3 z6 z7)
                refine br_f n01 ?_
                exact sim_store_hi hn ho hs hC hi e0 es hj hs12' es' et' e0' (by omega) hr hw i5 go
        · exact br_f (rff_ne hr) (rM_set hh i5 hs12 es e0 x1 hf hg j5 hs12' es' e0' y1 (fun _ => ⟨rfl, hS2⟩) (fun z => absurd z hr) (fun z => absurd z hr) (fun z => absurd z hr) (fun z => absurd z hr))
      · refine pC_nbelow h3 (br_t rfl ?_)
        unfold w_M_set
        exact pM_in c1 (nI_nlt (b := h) (a := 8) (by omega) (by omega)) (br_f n01 (pM_in (nI_pos (by omega)) (nI_nlt (b := f) (a := 8) (by omega) (by omega)) (br_f n01 (pM_nin (ix_lt (n := 8) (by omega) h3) (br_t rfl ⟨rfl, hS0⟩)))))
    · refine pC_nbelow h2 (br_t rfl ?_)
      unfold w_M_set
      exact pM_in c1 (nI_nlt (b := h) (a := 8) (by omega) (by omega)) (br_f n01 (pM_nin (ix_lt (n := 8) (by omega) h2) (br_t rfl ⟨rfl, hS0⟩)))
  · refine pC_nbelow h1 (br_t rfl ?_)
    unfold w_M_set
    exact pM_nin (ix_lt (n := 8) (by omega) h1) (br_t rfl ⟨rfl, hS0⟩)
