/-! put: what is boxed -/
def wv (k : Nat) (a : Int64) : Int64 := if k = 0 then a &&& 1 else if k = 1 then a.toInt32.toInt8.toInt32.toInt64 else if k = 2 then a &&& 65535 else if k = 3 then a.toInt32.toInt16.toInt32.toInt64 else if k = 4 then a.toInt32.toInt64 else a
def rv (k : Nat) (a : Int64) : UInt64 := if k = 6 then FP.f2d (FP.fmul (FP.l2f a) (1040187392 : UInt32)) else FP.dmul (FP.l2d a) (4593671619917905920 : UInt64)
theorem rv_n (k : Nat) (a : Int64) : vf_n64 (rv k a) := by
  unfold rv
  by_cases h : k = 6
  · rw [if_pos h]
    exact fp_f2d (fp_ef (fp_l2f a))
  · rw [if_neg h]
    exact fp_e (fp_l2d a)
theorem wv_n (k : Nat) (a : Int64) : rng k (wv k a) := by
  rcases (show k = 0 ∨ k = 1 ∨ k = 2 ∨ k = 3 ∨ k = 4 ∨ 5 ≤ k by omega) with rfl | rfl | rfl | rfl | rfl | h
  · exact rng_0 a
  · exact rng_1 a.toInt32.toInt8
  · exact rng_2 a
  · exact rng_3 a.toInt32.toInt16
  · exact rng_4 a.toInt32
  · exact ⟨fun e => absurd e (by omega), fun e => absurd e (by omega), fun e => absurd e (by omega)⟩
def bOb (k : Nat) (a : Int64) : Ob := if k < 6 then (0, nI k, wv k a, FP.l2d (wv k a), 0, none, none, none, 0) else (0, nI k, 0, rv k a, 0, none, none, none, 0)
theorem rv_6 (a : Int64) : rv 6 a = FP.f2d (FP.fmul (FP.l2f a) (1040187392 : UInt32)) := by
  unfold rv
  rw [if_pos rfl]
theorem rv_7 (a : Int64) : rv 7 a = FP.dmul (FP.l2d a) (4593671619917905920 : UInt64) := by
  unfold rv
  rw [if_neg (by decide)]
theorem rv_n6 (a : Int64) : vf_n64 (FP.f2d (FP.fmul (FP.l2f a) (1040187392 : UInt32))) := fp_f2d (fp_ef (fp_l2f a))
theorem rv_n7 (a : Int64) : vf_n64 (FP.dmul (FP.l2d a) (4593671619917905920 : UInt64)) := fp_e (fp_l2d a)
theorem bOb_6 (a : Int64) : bOb 6 a = (0, nI 6, 0, FP.f2d (FP.fmul (FP.l2f a) (1040187392 : UInt32)), 0, none, none, none, 0) := by
  unfold bOb
  rw [if_neg (by decide), rv_6]
theorem bOb_7 (a : Int64) : bOb 7 a = (0, nI 7, 0, FP.dmul (FP.l2d a) (4593671619917905920 : UInt64), 0, none, none, none, 0) := by
  unfold bOb
  rw [if_neg (by decide), rv_7]
theorem put_e2 (M : MT) (x y : Int64) : ms_realNow (ms_wholeNow M y) (m_realNow M) = ms_wholeNow (ms_wholeNow M x) y := rfl
set_option maxHeartbeats 4000000 in
theorem rC_made0 {K : KT} {a : Int64} {post : Option Nat → KT → Prop} (h : ∀ q : Nat, q ∉ kL K → post (some q) (kNew K q (bOb 0 a))) : w_C_boxMade K (nI 0) a post := by
  unfold w_C_boxMade
  repeat (first | refine br_t (by decide) ?_ | refine br_f (by decide) ?_)
  exact rC_boxW h
set_option maxHeartbeats 4000000 in
theorem rM_put0 {M : MT} {z1 : Int32} {a : Int64} {post : Int32 → MT → Prop} (h : ∀ (w : Int64) (r : UInt64), (0 < 6 → w = wv 0 a) → (6 ≤ 0 → r = rv 0 a) → w_M_put_b171 (ms_realNow (ms_wholeNow M w) r) z1 (nI 0) a post) : ((nI 0 = (0 : Int32)) → (w_M_put_b87 (ms_wholeNow (ms_wholeNow M a) (a &&& (1 : Int64))) z1 (nI 0) a post)) ∧ (¬ (nI 0 = (0 : Int32)) → (w_M_put_b87 (ms_wholeNow M a) z1 (nI 0) a post)) := by
  repeat (first | refine br_t (by decide) ?_ | refine br_f (by decide) ?_)
  repeat (first | refine br_t (by decide) ?_ | refine br_f (by decide) ?_)
  have t := h (wv 0 a) (m_realNow M) (fun _ => rfl) (fun e => absurd e (by decide))
  rw [put_e2 M a (wv 0 a)] at t
  exact t
set_option maxHeartbeats 4000000 in
theorem rC_made1 {K : KT} {a : Int64} {post : Option Nat → KT → Prop} (h : ∀ q : Nat, q ∉ kL K → post (some q) (kNew K q (bOb 1 a))) : w_C_boxMade K (nI 1) a post := by
  unfold w_C_boxMade
  repeat (first | refine br_t (by decide) ?_ | refine br_f (by decide) ?_)
  exact rC_boxW h
set_option maxHeartbeats 4000000 in
theorem rM_put1 {M : MT} {z1 : Int32} {a : Int64} {post : Int32 → MT → Prop} (h : ∀ (w : Int64) (r : UInt64), (1 < 6 → w = wv 1 a) → (6 ≤ 1 → r = rv 1 a) → w_M_put_b171 (ms_realNow (ms_wholeNow M w) r) z1 (nI 1) a post) : ((nI 1 = (0 : Int32)) → (w_M_put_b87 (ms_wholeNow (ms_wholeNow M a) (a &&& (1 : Int64))) z1 (nI 1) a post)) ∧ (¬ (nI 1 = (0 : Int32)) → (w_M_put_b87 (ms_wholeNow M a) z1 (nI 1) a post)) := by
  repeat (first | refine br_t (by decide) ?_ | refine br_f (by decide) ?_)
  repeat (first | refine br_t (by decide) ?_ | refine br_f (by decide) ?_)
  have t := h (wv 1 a) (m_realNow M) (fun _ => rfl) (fun e => absurd e (by decide))
  rw [put_e2 M a (wv 1 a)] at t
  exact t
set_option maxHeartbeats 4000000 in
theorem rC_made2 {K : KT} {a : Int64} {post : Option Nat → KT → Prop} (h : ∀ q : Nat, q ∉ kL K → post (some q) (kNew K q (bOb 2 a))) : w_C_boxMade K (nI 2) a post := by
  unfold w_C_boxMade
  repeat (first | refine br_t (by decide) ?_ | refine br_f (by decide) ?_)
  exact rC_boxW h
set_option maxHeartbeats 4000000 in
theorem rM_put2 {M : MT} {z1 : Int32} {a : Int64} {post : Int32 → MT → Prop} (h : ∀ (w : Int64) (r : UInt64), (2 < 6 → w = wv 2 a) → (6 ≤ 2 → r = rv 2 a) → w_M_put_b171 (ms_realNow (ms_wholeNow M w) r) z1 (nI 2) a post) : ((nI 2 = (0 : Int32)) → (w_M_put_b87 (ms_wholeNow (ms_wholeNow M a) (a &&& (1 : Int64))) z1 (nI 2) a post)) ∧ (¬ (nI 2 = (0 : Int32)) → (w_M_put_b87 (ms_wholeNow M a) z1 (nI 2) a post)) := by
  repeat (first | refine br_t (by decide) ?_ | refine br_f (by decide) ?_)
  repeat (first | refine br_t (by decide) ?_ | refine br_f (by decide) ?_)
  have t := h (wv 2 a) (m_realNow M) (fun _ => rfl) (fun e => absurd e (by decide))
  rw [put_e2 M a (wv 2 a)] at t
  exact t
set_option maxHeartbeats 4000000 in
theorem rC_made3 {K : KT} {a : Int64} {post : Option Nat → KT → Prop} (h : ∀ q : Nat, q ∉ kL K → post (some q) (kNew K q (bOb 3 a))) : w_C_boxMade K (nI 3) a post := by
  unfold w_C_boxMade
  repeat (first | refine br_t (by decide) ?_ | refine br_f (by decide) ?_)
  exact rC_boxW h
set_option maxHeartbeats 4000000 in
theorem rM_put3 {M : MT} {z1 : Int32} {a : Int64} {post : Int32 → MT → Prop} (h : ∀ (w : Int64) (r : UInt64), (3 < 6 → w = wv 3 a) → (6 ≤ 3 → r = rv 3 a) → w_M_put_b171 (ms_realNow (ms_wholeNow M w) r) z1 (nI 3) a post) : ((nI 3 = (0 : Int32)) → (w_M_put_b87 (ms_wholeNow (ms_wholeNow M a) (a &&& (1 : Int64))) z1 (nI 3) a post)) ∧ (¬ (nI 3 = (0 : Int32)) → (w_M_put_b87 (ms_wholeNow M a) z1 (nI 3) a post)) := by
  repeat (first | refine br_t (by decide) ?_ | refine br_f (by decide) ?_)
  repeat (first | refine br_t (by decide) ?_ | refine br_f (by decide) ?_)
  have t := h (wv 3 a) (m_realNow M) (fun _ => rfl) (fun e => absurd e (by decide))
  rw [put_e2 M a (wv 3 a)] at t
  exact t
set_option maxHeartbeats 4000000 in
theorem rC_made4 {K : KT} {a : Int64} {post : Option Nat → KT → Prop} (h : ∀ q : Nat, q ∉ kL K → post (some q) (kNew K q (bOb 4 a))) : w_C_boxMade K (nI 4) a post := by
  unfold w_C_boxMade
  repeat (first | refine br_t (by decide) ?_ | refine br_f (by decide) ?_)
  exact rC_boxW h
set_option maxHeartbeats 4000000 in
theorem rM_put4 {M : MT} {z1 : Int32} {a : Int64} {post : Int32 → MT → Prop} (h : ∀ (w : Int64) (r : UInt64), (4 < 6 → w = wv 4 a) → (6 ≤ 4 → r = rv 4 a) → w_M_put_b171 (ms_realNow (ms_wholeNow M w) r) z1 (nI 4) a post) : ((nI 4 = (0 : Int32)) → (w_M_put_b87 (ms_wholeNow (ms_wholeNow M a) (a &&& (1 : Int64))) z1 (nI 4) a post)) ∧ (¬ (nI 4 = (0 : Int32)) → (w_M_put_b87 (ms_wholeNow M a) z1 (nI 4) a post)) := by
  repeat (first | refine br_t (by decide) ?_ | refine br_f (by decide) ?_)
  repeat (first | refine br_t (by decide) ?_ | refine br_f (by decide) ?_)
  have t := h (wv 4 a) (m_realNow M) (fun _ => rfl) (fun e => absurd e (by decide))
  rw [put_e2 M a (wv 4 a)] at t
  exact t
set_option maxHeartbeats 4000000 in
theorem rC_made5 {K : KT} {a : Int64} {post : Option Nat → KT → Prop} (h : ∀ q : Nat, q ∉ kL K → post (some q) (kNew K q (bOb 5 a))) : w_C_boxMade K (nI 5) a post := by
  unfold w_C_boxMade
  repeat (first | refine br_t (by decide) ?_ | refine br_f (by decide) ?_)
  exact rC_boxW h
set_option maxHeartbeats 4000000 in
theorem rM_put5 {M : MT} {z1 : Int32} {a : Int64} {post : Int32 → MT → Prop} (h : ∀ (w : Int64) (r : UInt64), (5 < 6 → w = wv 5 a) → (6 ≤ 5 → r = rv 5 a) → w_M_put_b171 (ms_realNow (ms_wholeNow M w) r) z1 (nI 5) a post) : ((nI 5 = (0 : Int32)) → (w_M_put_b87 (ms_wholeNow (ms_wholeNow M a) (a &&& (1 : Int64))) z1 (nI 5) a post)) ∧ (¬ (nI 5 = (0 : Int32)) → (w_M_put_b87 (ms_wholeNow M a) z1 (nI 5) a post)) := by
  repeat (first | refine br_t (by decide) ?_ | refine br_f (by decide) ?_)
  repeat (first | refine br_t (by decide) ?_ | refine br_f (by decide) ?_)
  exact h (wv 5 a) (m_realNow M) (fun _ => rfl) (fun e => absurd e (by decide))
set_option maxHeartbeats 4000000 in
theorem rC_made6 {K : KT} {a : Int64} {post : Option Nat → KT → Prop} (h : ∀ q : Nat, q ∉ kL K → post (some q) (kNew K q (bOb 6 a))) : w_C_boxMade K (nI 6) a post := by
  unfold w_C_boxMade
  repeat (first | refine br_t (by decide) ?_ | refine br_f (by decide) ?_)
  simp only [bOb_6] at h
  exact ⟨fp_ef (fp_l2f a), rv_n6 a, rC_boxR h⟩
set_option maxHeartbeats 4000000 in
theorem rM_put6 {M : MT} {z1 : Int32} {a : Int64} {post : Int32 → MT → Prop} (h : ∀ (w : Int64) (r : UInt64), (6 < 6 → w = wv 6 a) → (6 ≤ 6 → r = rv 6 a) → w_M_put_b171 (ms_realNow (ms_wholeNow M w) r) z1 (nI 6) a post) : ((nI 6 = (0 : Int32)) → (w_M_put_b87 (ms_wholeNow (ms_wholeNow M a) (a &&& (1 : Int64))) z1 (nI 6) a post)) ∧ (¬ (nI 6 = (0 : Int32)) → (w_M_put_b87 (ms_wholeNow M a) z1 (nI 6) a post)) := by
  repeat (first | refine br_t (by decide) ?_ | refine br_f (by decide) ?_)
  repeat (first | refine br_t (by decide) ?_ | refine br_f (by decide) ?_)
  refine ⟨fp_ef (fp_l2f a), rv_n6 a, ?_⟩
  repeat (first | refine br_t (by decide) ?_ | refine br_f (by decide) ?_)
  exact h a (FP.f2d (FP.fmul (FP.l2f a) (1040187392 : UInt32))) (fun e => absurd e (by decide)) (fun _ => (rv_6 a).symm)
set_option maxHeartbeats 4000000 in
theorem rC_made7 {K : KT} {a : Int64} {post : Option Nat → KT → Prop} (h : ∀ q : Nat, q ∉ kL K → post (some q) (kNew K q (bOb 7 a))) : w_C_boxMade K (nI 7) a post := by
  unfold w_C_boxMade
  repeat (first | refine br_t (by decide) ?_ | refine br_f (by decide) ?_)
  simp only [bOb_7] at h
  exact ⟨rv_n7 a, rC_boxR h⟩
set_option maxHeartbeats 4000000 in
theorem rM_put7 {M : MT} {z1 : Int32} {a : Int64} {post : Int32 → MT → Prop} (h : ∀ (w : Int64) (r : UInt64), (7 < 6 → w = wv 7 a) → (6 ≤ 7 → r = rv 7 a) → w_M_put_b171 (ms_realNow (ms_wholeNow M w) r) z1 (nI 7) a post) : ((nI 7 = (0 : Int32)) → (w_M_put_b87 (ms_wholeNow (ms_wholeNow M a) (a &&& (1 : Int64))) z1 (nI 7) a post)) ∧ (¬ (nI 7 = (0 : Int32)) → (w_M_put_b87 (ms_wholeNow M a) z1 (nI 7) a post)) := by
  repeat (first | refine br_t (by decide) ?_ | refine br_f (by decide) ?_)
  repeat (first | refine br_t (by decide) ?_ | refine br_f (by decide) ?_)
  refine ⟨rv_n7 a, ?_⟩
  exact h a (FP.dmul (FP.l2d a) (4593671619917905920 : UInt64)) (fun e => absurd e (by decide)) (fun _ => (rv_7 a).symm)
theorem rC_made {k : Nat} (hk : k < 8) {K : KT} {a : Int64} {post : Option Nat → KT → Prop} (h : ∀ q : Nat, q ∉ kL K → post (some q) (kNew K q (bOb k a))) : w_C_boxMade K (nI k) a post := by
  rcases (show k = 0 ∨ k = 1 ∨ k = 2 ∨ k = 3 ∨ k = 4 ∨ k = 5 ∨ k = 6 ∨ k = 7 by omega) with rfl | rfl | rfl | rfl | rfl | rfl | rfl | rfl
  · exact rC_made0 h
  · exact rC_made1 h
  · exact rC_made2 h
  · exact rC_made3 h
  · exact rC_made4 h
  · exact rC_made5 h
  · exact rC_made6 h
  · exact rC_made7 h
theorem rM_put {k : Nat} (hk : k < 8) {M : MT} {z1 : Int32} {a : Int64} {post : Int32 → MT → Prop} (h : ∀ (w : Int64) (r : UInt64), (k < 6 → w = wv k a) → (6 ≤ k → r = rv k a) → w_M_put_b171 (ms_realNow (ms_wholeNow M w) r) z1 (nI k) a post) : ((nI k = (0 : Int32)) → (w_M_put_b87 (ms_wholeNow (ms_wholeNow M a) (a &&& (1 : Int64))) z1 (nI k) a post)) ∧ (¬ (nI k = (0 : Int32)) → (w_M_put_b87 (ms_wholeNow M a) z1 (nI k) a post)) := by
  rcases (show k = 0 ∨ k = 1 ∨ k = 2 ∨ k = 3 ∨ k = 4 ∨ k = 5 ∨ k = 6 ∨ k = 7 by omega) with rfl | rfl | rfl | rfl | rfl | rfl | rfl | rfl
  · exact rM_put0 h
  · exact rM_put1 h
  · exact rM_put2 h
  · exact rM_put3 h
  · exact rM_put4 h
  · exact rM_put5 h
  · exact rM_put6 h
  · exact rM_put7 h
theorem rM_put171 {M : MT} {n h k : Nat} {a : Int64} {post : Int32 → MT → Prop} (ho : m_objects M = nI n) (hn : n + 1 < 520) (hh : h < 9) (hp : post 0 (ms_last (ms_held (ms_real (ms_whole (ms_sort (ms_objects M (nI (n + 1))) (n + 1) (nI (k + 1))) (n + 1) (m_wholeNow M)) (n + 1) (m_realNow M)) h (nI (n + 1))) 0)) : w_M_put_b171 M (nI h) (nI k) a post := by
  unfold w_M_put_b171
  refine rM_box ho hn ⟨vp_in_nI hh (by omega), ?_⟩
  rw [nI_clamp (show h < 2 ^ 31 by omega)]
  exact hp
theorem bOb_tag (k : Nat) (a : Int64) : (bOb k a).1 = 0 := by
  unfold bOb
  by_cases h : k < 6
  · rw [if_pos h]
  · rw [if_neg h]
theorem sim_putBox {N n : Nat} {ad : Nat → Nat} {K : KT} {M : MT} (hn : n ≤ N) (hs : kSh K = m_shared M) (hC : SS n ad K M) {q h k : Nat} {a : Int64} (hq : q ∉ kL K) (hk : k < 8) {w : Int64} {r : UInt64} (hw : k < 6 → w = wv k a) (hr : 6 ≤ k → r = rv k a) :
    Sim (N + 1) (ksH (kNew (ksLa K 0) q (bOb k a)) h (some q)) (ms_last (ms_held (ms_real (ms_whole (ms_sort (ms_objects (ms_realNow (ms_wholeNow M w) r) (nI (n + 1))) (n + 1) (nI (k + 1))) (n + 1) w) (n + 1) r) h (nI (n + 1))) 0) := by
  have hC2 : SS n ad K (ms_realNow (ms_wholeNow M w) r) := hC
  have hs2 : kSh K = m_shared (ms_realNow (ms_wholeNow M w) r) := hs
  have ew : m_wholeNow (ms_realNow (ms_wholeNow M w) r) = w := rfl
  have er : m_realNow (ms_realNow (ms_wholeNow M w) r) = r := rfl
  by_cases h6 : k < 6
  · have e : bOb k a = (0, nI k, wv k a, FP.l2d (wv k a), 0, none, none, none, 0) := if_pos h6
    have t := sim_box (M := ms_realNow (ms_wholeNow M w) r) (lw := wv k a) (d := FP.l2d (wv k a)) (h := h) hn hs2 hC2 hq hk (fun _ => by rw [ew, hw h6]; exact ⟨rfl, rfl, wv_n k a⟩) (fun x => absurd x (by omega))
    rw [ew, er] at t
    rw [e]
    exact t
  · have e : bOb k a = (0, nI k, 0, rv k a, 0, none, none, none, 0) := if_neg h6
    have t := sim_box (M := ms_realNow (ms_wholeNow M w) r) (lw := 0) (d := rv k a) (h := h) hn hs2 hC2 hq hk (fun x => absurd x h6) (fun _ => by rw [er, hr (by omega)]; exact ⟨rfl, rv_n k a⟩)
    rw [ew, er] at t
    rw [e]
    exact t
set_option maxHeartbeats 4000000 in
theorem sim_put {N : Nat} {K : KT} {M : MT} (hN : N + 1 < 520) (hS : Sim N K M) (a1 a2 : Int32) (a3 : Int64) : w_C_put K a1 a2 a3 (fun r K' => w_M_put M a1 a2 a3 (fun r' M' => r = r' ∧ Sim (N + 1) K' M')) := by
  have hS0 := hS.up (Nat.le_succ N)
  obtain ⟨n, ad, hn, ho, hs, hl, hC⟩ := hS
  unfold w_C_put w_M_put
  rcases ixs a1 (n := 8) (by omega) with ⟨h, hh, rfl⟩ | h1
  · have c1 : ¬ nI h < 0 := nI_pos (by omega)
    have c2 : ¬ (8 : Int32) ≤ nI h := nI_ge (b := 8) hh (by omega)
    have c3 : ¬ (7 : Int32) < nI h := nI_nlt (b := h) (a := 7) (by omega) (by omega)
    have v1 : vp_in (nI h) 9 := vp_in_nI (by omega) (by omega)
    rw [nI_clamp (show h < 2 ^ 31 by omega)]
    refine pC_below c1 c2 (br_f n01 ?_)
    rcases ixs a2 (n := 9) (by omega) with ⟨k, hk, rfl⟩ | h2
    · have d1 : ¬ nI k < 0 := nI_pos (by omega)
      have d3 : ¬ (8 : Int32) < nI k := nI_nlt (b := k) (a := 8) (by omega) (by omega)
      refine pC_below d1 (nI_ge (b := 9) hk (by omega)) (br_f n01 ?_)
      by_cases e8 : k = 8
      · subst e8
        refine br_t rfl (fun q hq => ?_)
        obtain ⟨t, ht, hf, hm⟩ := kfm10 a3
        refine hf _ (rC_T ⟨okR_new (by decide : 4 < 5), v1, ?_⟩)
        refine pM_in c1 c3 (br_f n01 (pM_in d1 d3 (br_f n01 (br_t rfl ?_))))
        refine rM_create ho (by omega) ⟨by decide, by decide, vp_in_nI (by omega) (by omega), v1, rfl, ?_⟩
        rw [hm, nI_clamp (show n + 1 < 2 ^ 31 by omega)]
        obtain ⟨-, -, -, -, h4⟩ := id hC
        obtain ⟨g2, g3, g4, g5, g6, g7, g8⟩ := h4 (n + 1) (by omega)
        have et : (lN t).toInt32 = nI t := lN_i t
        rw [et]
        refine sim_made (M := M) (q := q) (h := h) (o := (4, nI t, 0, 0, 0, none, none, none, 0)) (s := 9) (w := lN t) (r := 0) (x := 0) hn hs hC hq rfl rfl rfl rfl rfl rfl rfl rfl rfl (fun i hi => pk_un hi) (fun i hi => pk_uLn hi) (fun _ _ => rfl) (fun _ _ => rfl) rfl rfl rfl rfl pk_us pk_uLs g3 g5 ?_
        exact Or.inr (Or.inl ⟨t, ht, rfl, rfl, rfl, rfl⟩)
      · have e8' : ¬ nI k = 8 := fun e => e8 (nI_inj (b := 8) (by omega) (by omega) e)
        refine br_f e8' (rC_made (by omega) (fun q hq => ⟨okR_new (show (bOb k a3).1 < 5 by rw [bOb_tag]; decide), v1, ?_⟩))
        refine pM_in c1 c3 (br_f n01 (pM_in d1 d3 (br_f n01 (br_f e8' (rM_put (by omega) (fun w r hw hr => ?_))))))
        refine rM_put171 (n := n) ho (by omega) (by omega) ⟨rfl, ?_⟩
        exact sim_putBox hn hs hC hq (by omega) hw hr
    · refine pC_nbelow h2 (br_t rfl ?_)
      exact pM_in c1 c3 (br_f n01 (pM_nin (ix_lt (n := 8) (by omega) h2) (br_t rfl ⟨rfl, hS0⟩)))
  · exact pC_nbelow h1 (br_t rfl (pM_nin (ix_lt (n := 7) (by omega) h1) (br_t rfl ⟨rfl, hS0⟩)))
