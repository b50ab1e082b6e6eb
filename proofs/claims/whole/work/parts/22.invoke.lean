/-! invoke -/
def w_C_inv_args (K : KT) (a2 : Int32) (r48_5 r95_26 r107_27 : Option Nat) (post : Int32 → KT → Prop) : Prop := ((vp_in a2 sf_FIRST_WANTS.length) ∧ (w_C_converts (ksLa K (0 : Int64)) r95_26 (sf_FIRST_WANTS.getD (a2).toNatClampNeg 0) (fun r117_29 => ((r117_29 = (0 : Int32)) → (post (2 : Int32) (ksLa K (0 : Int64)))) ∧ (¬ (r117_29 = (0 : Int32)) → ((vp_in a2 sf_SECOND_WANTS.length) ∧ (w_C_converts (ksLa K (0 : Int64)) r107_27 (sf_SECOND_WANTS.getD (a2).toNatClampNeg 0) (fun r130_31 => ((r130_31 = (0 : Int32)) → (post (2 : Int32) (ksLa K (0 : Int64)))) ∧ (¬ (r130_31 = (0 : Int32)) → (((a2 = (2 : Int32)) → (w_C_realOf (ksLa K (0 : Int64)) r95_26 (fun r148_34 => w_C_realOf (ksLa K (0 : Int64)) r95_26 (fun r153_35 => (vf_n64 (FP.dadd r148_34 r153_35)) ∧ (w_C_boxOfReal (ksLa K (0 : Int64)) (7 : Int32) (FP.dadd r148_34 r153_35) (fun r157_36 K157_36 => w_C_answer K157_36 r157_36 (fun r160_37 K160_37 => post r160_37 K160_37))))))) ∧ (¬ (a2 = (2 : Int32)) → ((okR (ksLa K (0 : Int64)) r48_5) ∧ ((((bI (ktg (ksLa K (0 : Int64)) r48_5 == 1 || ktg (ksLa K (0 : Int64)) r48_5 == 3)) = (0 : Int32)) → (post (2 : Int32) (ksLa K (0 : Int64)))) ∧ (¬ ((bI (ktg (ksLa K (0 : Int64)) r48_5 == 1 || ktg (ksLa K (0 : Int64)) r48_5 == 3)) = (0 : Int32)) → ((isI (ksLa K (0 : Int64)) r48_5) ∧ (w_C_invokeOn (ksLa K (0 : Int64)) r48_5 a2 r95_26 r107_27 (fun r187_32 K187_32 => post r187_32 K187_32))))))))))))))))
def w_C_inv_tail (K : KT) (a2 a3 a4 : Int32) (r48_5 : Option Nat) (post : Int32 → KT → Prop) : Prop := ((vp_in a2 sf_ARGUMENT_COUNTS.length) ∧ (((a3 = (sf_ARGUMENT_COUNTS.getD (a2).toNatClampNeg 0)) → ((¬ (9 : Int32) = (0 : Int32)) ∧ ((vp_in (a4 / (9 : Int32)) 9) ∧ (∀ r95_26 : Option Nat, r95_26 = (kH (ksLa K (0 : Int64)) ((a4 / (9 : Int32))).toNatClampNeg) → ((¬ (9 : Int32) = (0 : Int32)) ∧ ((vp_in (a4 - a4 / (9 : Int32) * (9 : Int32)) 9) ∧ (∀ r107_27 : Option Nat, r107_27 = (kH (ksLa K (0 : Int64)) ((a4 - a4 / (9 : Int32) * (9 : Int32))).toNatClampNeg) → (w_C_inv_args K a2 r48_5 r95_26 r107_27 post)))))))) ∧ (¬ (a3 = (sf_ARGUMENT_COUNTS.getD (a2).toNatClampNeg 0)) → (post (2 : Int32) (ksLa K (0 : Int64))))))
theorem c81 : ∀ c, c < 81 → nI c / 9 = nI (c / 9) ∧ nI c - nI c / 9 * 9 = nI (c % 9) := by decide
def cnt (m : Nat) : Nat := [2, 2, 1, 2, 1, 1].getD m 0
theorem rC_inv {n : Nat} {ad : Nat → Nat} {K : KT} {M : MT} (hC : SS n ad K M) {h m c3 c i s : Nat} (hh : h < 9) (hm : m < 6) (h3 : c3 < 3) (hc : c < 81) (hi : i ≤ n) (hs : s ≤ 12) (x2 : kH K h = rfi ad i) (et : ktg K (rfi ad i) = tgN s) {post : Int32 → KT → Prop}
    (p0 : m ≠ 2 → i = 0 → post 1 (ksLa K 0)) (p1 : m ≠ 2 → i ≠ 0 → ¬ (s = 10 ∨ s = 11) → post 2 (ksLa K 0)) (p2 : (m = 2 ∨ (s = 10 ∨ s = 11)) → w_C_inv_tail K (nI m) (nI c3) (nI c) (rfi ad i) post) : w_C_invoke K (nI h) (nI m) (nI c3) (nI c) post := by
  unfold w_C_invoke
  refine pC_below (nI_pos (by omega)) (nI_ge (b := 9) hh (by omega)) (br_f n01 (pC_below (nI_pos (by omega)) (nI_ge (b := 6) hm (by omega)) (br_f n01 (pC_below (nI_pos (by omega)) (nI_ge (b := 3) h3 (by omega)) (br_f n01 (pC_below (nI_pos (by omega)) (nI_ge (b := 81) hc (by omega)) (br_f n01 ⟨vp_in_nI hh (by omega), fun r er => ?_⟩)))))))
  rw [nI_clamp (show h < 2 ^ 31 by omega)] at er
  have er : r = rfi ad i := er.trans x2
  subst er
  by_cases m2 : m = 2
  · exact br_t (by rw [m2]; rfl) (p2 (Or.inl m2))
  · refine br_f (fun e => m2 (nI_inj (b := 2) (by omega) (by omega) e)) ?_
    unfold w_C_itemRefusal
    by_cases z : i = 0
    · exact br_t (sv_none.mpr z) (br_f (by decide) (p0 m2 z))
    · refine br_f (fun e => z (sv_none.mp e)) ⟨sv_ok (K := ksLa K 0) (M := M) hC hi, ?_⟩
      have et' : ktg (ksLa K 0) (rfi ad i) = tgN s := et
      by_cases hso : s = 10 ∨ s = 11
      · have hit : ¬ bI (ktg (ksLa K 0) (rfi ad i) == 1 || ktg (ksLa K 0) (rfi ad i) == 3) = 0 := by
          rw [et', tg_it hs, decide_eq_true hso]
          decide
        exact br_f hit (br_t rfl (p2 (Or.inr hso)))
      · have hit : bI (ktg (ksLa K 0) (rfi ad i) == 1 || ktg (ksLa K 0) (rfi ad i) == 3) = 0 := by
          rw [et', tg_it hs, decide_eq_false hso]
          rfl
        exact br_t hit (br_f (by decide) (p1 m2 z hso))
theorem rC_tail {K : KT} {m c3 c : Nat} {r : Option Nat} (hm : m < 6) (h3 : c3 < 3) (hc : c < 81) {post : Int32 → KT → Prop} (p0 : c3 ≠ cnt m → post 2 (ksLa K 0)) (p1 : c3 = cnt m → w_C_inv_args K (nI m) r (kH K (c / 9)) (kH K (c % 9)) post) : w_C_inv_tail K (nI m) (nI c3) (nI c) r post := by
  have e : sf_ARGUMENT_COUNTS.getD (nI m).toNatClampNeg 0 = nI (cnt m) := by
    rcases (show m = 0 ∨ m = 1 ∨ m = 2 ∨ m = 3 ∨ m = 4 ∨ m = 5 by omega) with rfl | rfl | rfl | rfl | rfl | rfl <;> decide
  have cl : cnt m < 3 := by
    rcases (show m = 0 ∨ m = 1 ∨ m = 2 ∨ m = 3 ∨ m = 4 ∨ m = 5 by omega) with rfl | rfl | rfl | rfl | rfl | rfl <;> decide
  unfold w_C_inv_tail
  refine ⟨vp_in_nI hm (show (6 : Nat) < 2 ^ 31 by decide), ?_⟩
  rw [e]
  by_cases z : c3 = cnt m
  · have p1' := p1 z
    obtain ⟨q1, q2⟩ := c81 c hc
    refine br_t (by rw [z]) ⟨by decide, by rw [q1]; exact vp_in_nI (by omega) (by omega), fun r1 e1 => ⟨by decide, by rw [q2]; exact vp_in_nI (by omega) (by omega), fun r2 e2 => ?_⟩⟩
    rw [q1, nI_clamp (show c / 9 < 2 ^ 31 by omega)] at e1
    rw [q2, nI_clamp (show c % 9 < 2 ^ 31 by omega)] at e2
    have e1 : r1 = kH K (c / 9) := e1
    have e2 : r2 = kH K (c % 9) := e2
    subst e1 e2
    exact p1'
  · exact br_f (fun x => z (nI_inj (by omega) (by omega) x)) (p0 z)
theorem rM_inv {M : MT} {h m c3 c i s : Nat} (hh : h < 9) (hm : m < 6) (h3 : c3 < 3) (hc : c < 81) (hi : i < 520) (hs : s ≤ 12) (es : m_sort M i = nI s) (e0 : i = 0 ↔ s = 0) (x1 : m_held M h = nI i) {post : Int32 → MT → Prop}
    (p0 : m ≠ 2 → i = 0 → post 1 (ms_last M 0)) (p1 : m ≠ 2 → i ≠ 0 → ¬ (s = 10 ∨ s = 11) → post 2 (ms_last M 0)) (p2 : (m = 2 ∨ (s = 10 ∨ s = 11)) → ∀ z1 z4 : Int32, w_M_invoke_b111 M z1 (nI m) (nI c3) z4 (nI i) (m_held M (c / 9)) (m_held M (c % 9)) post) : w_M_invoke M (nI h) (nI m) (nI c3) (nI c) post := by
  obtain ⟨q1, q2⟩ := c81 c hc
  unfold w_M_invoke
  rw [q2, q1, nI_clamp (show h < 2 ^ 31 by omega), nI_clamp (show c / 9 < 2 ^ 31 by omega), nI_clamp (show c % 9 < 2 ^ 31 by omega), x1]
  refine pM_in (nI_pos (by omega)) (nI_nlt (b := h) (a := 8) (by omega) (by omega)) (br_f n01 (pM_in (nI_pos (by omega)) (nI_nlt (b := m) (a := 5) (by omega) (by omega)) (br_f n01 (pM_in (nI_pos (by omega)) (nI_nlt (b := c3) (a := 2) (by omega) (by omega)) (br_f n01 (pM_in (nI_pos (by omega)) (nI_nlt (b := c) (a := 80) (by omega) (by omega)) (br_f n01 ⟨vp_in_nI hh (by omega), by decide, vp_in_nI (by omega) (by omega), by decide, vp_in_nI (by omega) (by omega), ?_⟩)))))))
  unfold w_M_invoke_b90
  by_cases m2 : m = 2
  · exact br_t (by rw [m2]; rfl) (br_t (by rw [m2]; rfl) (p2 (Or.inl m2) _ _))
  · have hm2 : ¬ nI m = 2 := fun e => m2 (nI_inj (b := 2) (by omega) (by omega) e)
    refine br_f hm2 ?_
    by_cases z : i = 0
    · exact br_t (by rw [z]; rfl) (p0 m2 z)
    · refine br_f (fun e => z (nI_inj (b := 0) (by omega) (by omega) e)) (br_f hm2 (rM_isItem hi hs es ?_))
      by_cases hso : s = 10 ∨ s = 11
      · rw [decide_eq_true hso]
        exact br_f n01 (p2 (Or.inr hso) _ _)
      · rw [decide_eq_false hso]
        exact br_t rfl (p1 m2 z hso)
set_option maxHeartbeats 4000000 in
theorem rM_b111_0_0 {M : MT} {z1 z4 z5 z6 z7 : Int32} {post : Int32 → MT → Prop} (hp : post 2 (ms_last M 0)) : w_M_invoke_b111 M z1 (nI 0) (nI 0) z4 z5 z6 z7 post := by
  unfold w_M_invoke_b111
  repeat (first | refine br_t (by decide) ?_ | refine br_f (by decide) ?_)
  exact hp
set_option maxHeartbeats 4000000 in
theorem rM_b111_0_1 {M : MT} {z1 z4 z5 z6 z7 : Int32} {post : Int32 → MT → Prop} (hp : post 2 (ms_last M 0)) : w_M_invoke_b111 M z1 (nI 0) (nI 1) z4 z5 z6 z7 post := by
  unfold w_M_invoke_b111
  repeat (first | refine br_t (by decide) ?_ | refine br_f (by decide) ?_)
  exact hp
set_option maxHeartbeats 4000000 in
theorem rM_b111_0 {M : MT} {z1 z4 z5 z6 z7 : Int32} {post : Int32 → MT → Prop} (hp : w_M_sum M z5 z6 z7 post) : w_M_invoke_b111 M z1 (nI 0) (nI 2) z4 z5 z6 z7 post := by
  unfold w_M_invoke_b111
  refine br_t (by decide) (br_t (by decide) (br_t (by decide) ?_))
  exact hp
set_option maxHeartbeats 4000000 in
theorem rM_b111_1_0 {M : MT} {z1 z4 z5 z6 z7 : Int32} {post : Int32 → MT → Prop} (hp : post 2 (ms_last M 0)) : w_M_invoke_b111 M z1 (nI 1) (nI 0) z4 z5 z6 z7 post := by
  unfold w_M_invoke_b111
  repeat (first | refine br_t (by decide) ?_ | refine br_f (by decide) ?_)
  exact hp
set_option maxHeartbeats 4000000 in
theorem rM_b111_1_1 {M : MT} {z1 z4 z5 z6 z7 : Int32} {post : Int32 → MT → Prop} (hp : post 2 (ms_last M 0)) : w_M_invoke_b111 M z1 (nI 1) (nI 1) z4 z5 z6 z7 post := by
  unfold w_M_invoke_b111
  repeat (first | refine br_t (by decide) ?_ | refine br_f (by decide) ?_)
  exact hp
set_option maxHeartbeats 4000000 in
theorem rM_b111_1 {M : MT} {z1 z4 z5 z6 z7 : Int32} {post : Int32 → MT → Prop} (hp : w_M_tag M z6 z7 post) : w_M_invoke_b111 M z1 (nI 1) (nI 2) z4 z5 z6 z7 post := by
  unfold w_M_invoke_b111
  refine br_f (by decide) (br_t (by decide) (br_t (by decide) (br_f (by decide) (br_t (by decide) ?_))))
  exact hp
set_option maxHeartbeats 4000000 in
theorem rM_b111_2_0 {M : MT} {z1 z4 z5 z6 z7 : Int32} {post : Int32 → MT → Prop} (hp : post 2 (ms_last M 0)) : w_M_invoke_b111 M z1 (nI 2) (nI 0) z4 z5 z6 z7 post := by
  unfold w_M_invoke_b111
  repeat (first | refine br_t (by decide) ?_ | refine br_f (by decide) ?_)
  exact hp
set_option maxHeartbeats 4000000 in
theorem rM_b111_2_2 {M : MT} {z1 z4 z5 z6 z7 : Int32} {post : Int32 → MT → Prop} (hp : post 2 (ms_last M 0)) : w_M_invoke_b111 M z1 (nI 2) (nI 2) z4 z5 z6 z7 post := by
  unfold w_M_invoke_b111
  repeat (first | refine br_t (by decide) ?_ | refine br_f (by decide) ?_)
  exact hp
set_option maxHeartbeats 4000000 in
theorem rM_b111_2 {M : MT} {z1 z4 z5 z6 z7 : Int32} {post : Int32 → MT → Prop} (hp : w_M_twice M z6 post) : w_M_invoke_b111 M z1 (nI 2) (nI 1) z4 z5 z6 z7 post := by
  unfold w_M_invoke_b111
  refine br_f (by decide) (br_f (by decide) (br_f (by decide) (br_t (by decide) (br_f (by decide) (br_f (by decide) (br_t (by decide) ?_))))))
  exact hp
set_option maxHeartbeats 4000000 in
theorem rM_b111_3_0 {M : MT} {z1 z4 z5 z6 z7 : Int32} {post : Int32 → MT → Prop} (hp : post 2 (ms_last M 0)) : w_M_invoke_b111 M z1 (nI 3) (nI 0) z4 z5 z6 z7 post := by
  unfold w_M_invoke_b111
  repeat (first | refine br_t (by decide) ?_ | refine br_f (by decide) ?_)
  exact hp
set_option maxHeartbeats 4000000 in
theorem rM_b111_3_1 {M : MT} {z1 z4 z5 z6 z7 : Int32} {post : Int32 → MT → Prop} (hp : post 2 (ms_last M 0)) : w_M_invoke_b111 M z1 (nI 3) (nI 1) z4 z5 z6 z7 post := by
  unfold w_M_invoke_b111
  repeat (first | refine br_t (by decide) ?_ | refine br_f (by decide) ?_)
  exact hp
set_option maxHeartbeats 4000000 in
theorem rM_b111_3 {M : MT} {z1 z4 z5 z6 z7 : Int32} {post : Int32 → MT → Prop} (hp : w_M_div M z6 z7 post) : w_M_invoke_b111 M z1 (nI 3) (nI 2) z4 z5 z6 z7 post := by
  unfold w_M_invoke_b111
  refine br_f (by decide) (br_f (by decide) (br_t (by decide) (br_t (by decide) (br_f (by decide) (br_f (by decide) (br_f (by decide) (br_t (by decide) ?_)))))))
  exact hp
set_option maxHeartbeats 4000000 in
theorem rM_b111_4_0 {M : MT} {z1 z4 z5 z6 z7 : Int32} {post : Int32 → MT → Prop} (hp : post 2 (ms_last M 0)) : w_M_invoke_b111 M z1 (nI 4) (nI 0) z4 z5 z6 z7 post := by
  unfold w_M_invoke_b111
  repeat (first | refine br_t (by decide) ?_ | refine br_f (by decide) ?_)
  exact hp
set_option maxHeartbeats 4000000 in
theorem rM_b111_4_2 {M : MT} {z1 z4 z5 z6 z7 : Int32} {post : Int32 → MT → Prop} (hp : post 2 (ms_last M 0)) : w_M_invoke_b111 M z1 (nI 4) (nI 2) z4 z5 z6 z7 post := by
  unfold w_M_invoke_b111
  repeat (first | refine br_t (by decide) ?_ | refine br_f (by decide) ?_)
  exact hp
set_option maxHeartbeats 4000000 in
theorem rM_b111_4 {M : MT} {z1 z4 z5 z6 z7 : Int32} {post : Int32 → MT → Prop} (hp : w_M_pick M z5 z6 post) : w_M_invoke_b111 M z1 (nI 4) (nI 1) z4 z5 z6 z7 post := by
  unfold w_M_invoke_b111
  refine br_f (by decide) (br_f (by decide) (br_f (by decide) (br_t (by decide) (br_f (by decide) (br_f (by decide) (br_f (by decide) (br_f (by decide) (br_t (by decide) ?_))))))))
  exact hp
set_option maxHeartbeats 4000000 in
theorem rM_b111_5_0 {M : MT} {z1 z4 z5 z6 z7 : Int32} {post : Int32 → MT → Prop} (hp : post 2 (ms_last M 0)) : w_M_invoke_b111 M z1 (nI 5) (nI 0) z4 z5 z6 z7 post := by
  unfold w_M_invoke_b111
  repeat (first | refine br_t (by decide) ?_ | refine br_f (by decide) ?_)
  exact hp
set_option maxHeartbeats 4000000 in
theorem rM_b111_5_2 {M : MT} {z1 z4 z5 z6 z7 : Int32} {post : Int32 → MT → Prop} (hp : post 2 (ms_last M 0)) : w_M_invoke_b111 M z1 (nI 5) (nI 2) z4 z5 z6 z7 post := by
  unfold w_M_invoke_b111
  repeat (first | refine br_t (by decide) ?_ | refine br_f (by decide) ?_)
  exact hp
set_option maxHeartbeats 4000000 in
theorem rM_b111_5 {M : MT} {z1 z4 z5 z6 z7 : Int32} {post : Int32 → MT → Prop} (hp : w_M_self M z5 z6 post) : w_M_invoke_b111 M z1 (nI 5) (nI 1) z4 z5 z6 z7 post := by
  unfold w_M_invoke_b111
  refine br_f (by decide) (br_f (by decide) (br_f (by decide) (br_t (by decide) (br_f (by decide) (br_f (by decide) (br_f (by decide) (br_f (by decide) (br_f (by decide) ?_))))))))
  exact hp
theorem rC_boxW' {K : KT} {k : Nat} {w : Int64} {r : UInt64} (hk : k < 6) {post : Option Nat → KT → Prop} (h : ∀ q : Nat, q ∉ kL K → post (some q) (kNew K q (oW k w r))) : w_C_boxOfWhole K (nI k) w post := rC_boxW (fun q hq => by
  have e : oW k w r = (0, nI k, w, FP.l2d w, 0, none, none, none, 0) := if_pos hk
  have := h q hq
  rw [e] at this
  exact this)
theorem rC_boxR' {K : KT} {k : Nat} {w : Int64} {r : UInt64} (hk : ¬ k < 6) {post : Option Nat → KT → Prop} (h : ∀ q : Nat, q ∉ kL K → post (some q) (kNew K q (oW k w r))) : w_C_boxOfReal K (nI k) r post := rC_boxR (fun q hq => by
  have e : oW k w r = (0, nI k, 0, r, 0, none, none, none, 0) := if_neg hk
  have := h q hq
  rw [e] at this
  exact this)
theorem rM_answer {M : MT} {n k : Nat} {w : Int64} {post : Int32 → MT → Prop} (ho : m_objects M = nI n) (hn : n + 1 < 520) (hp : post 0 (ms_last (ms_held (ms_real (ms_whole (ms_sort (ms_objects (ms_realNow (ms_wholeNow M w) (m_realNow M)) (nI (n + 1))) (n + 1) (nI (k + 1))) (n + 1) w) (n + 1) (m_realNow M)) 8 (nI (n + 1))) 0)) : w_M_answer M (nI k) w post := by
  unfold w_M_answer
  refine rM_box (n := n) ho hn ⟨vp8, ?_⟩
  rw [e8c]
  exact hp
theorem okW {k : Nat} {w : Int64} {r : UInt64} {K : KT} {q : Nat} : okR (kNew K q (oW k w r)) (some q) := okR_new (show (oW k w r).1 < 5 by rw [oW_tag]; decide)
theorem rC_conv8 {n : Nat} {ad : Nat → Nat} {K : KT} {M : MT} (h : SS n ad K M) {j s : Nat} (hj : j ≤ n) (hs : s ≤ 12) (et : ktg K (rfi ad j) = tgN s) (e0 : j = 0 ↔ s = 0) {post : Int32 → Prop} (hp : post (bI (fit s 3))) : w_C_converts K (rfi ad j) 8 post := rC_fits (f := 3) h hj hs et e0 (by decide) hp
theorem rC_conv9 {n : Nat} {ad : Nat → Nat} {K : KT} {M : MT} (h : SS n ad K M) {j s : Nat} (hj : j ≤ n) (hs : s ≤ 12) (et : ktg K (rfi ad j) = tgN s) (e0 : j = 0 ↔ s = 0) {post : Int32 → Prop} (hp : post (bI (fit s 5))) : w_C_converts K (rfi ad j) 9 post := rC_fits (f := 5) h hj hs et e0 (by decide) hp
theorem rC_conv10 {K : KT} {r : Option Nat} {post : Int32 → Prop} (hp : post 1) : w_C_converts K r 10 post := br_t rfl ⟨Or.inr rfl, hp⟩
theorem ss_now {n : Nat} {ad : Nat → Nat} {K : KT} {M : MT} (h : SS n ad K M) {w : Int64} {r : UInt64} : SS n ad K (ms_realNow (ms_wholeNow M w) r) := h
theorem sh_now {x : Int64} {M : MT} (h : x = m_shared M) {w : Int64} {r : UInt64} : x = m_shared (ms_realNow (ms_wholeNow M w) r) := h
theorem ob_now {x : Int32} {M : MT} (h : m_objects M = x) {w : Int64} {r : UInt64} : m_objects (ms_realNow (ms_wholeNow M w) r) = x := h
theorem ss_last {n : Nat} {ad : Nat → Nat} {K : KT} {M : MT} (h : SS n ad K M) {w : Int64} : SS n ad K (ms_last M w) := h
theorem sh_last {x : Int64} {M : MT} (h : x = m_shared M) {w : Int64} : x = m_shared (ms_last M w) := h
theorem ob_last {x : Int32} {M : MT} (h : m_objects M = x) {w : Int64} : m_objects (ms_last M w) = x := h
theorem now_w {M : MT} {w : Int64} {r : UInt64} : m_wholeNow (ms_realNow (ms_wholeNow M w) r) = w := rfl
theorem now_h {M : MT} {w : Int64} {r : UInt64} : m_whole (ms_realNow (ms_wholeNow M w) r) = m_whole M := rfl
theorem dv_m1 (a : Int32) : a / (-1) = -a := by
  apply Int32.toInt_inj.mp
  rw [Int32.toInt_div, show (-1 : Int32).toInt = -1 from rfl, Int32.toInt_neg, Int.tdiv_neg, Int.tdiv_one]
theorem tag_num {t s : Nat} (ht : t ≤ 9) (hs : s ≤ 12) : (100 * nI t + nI s).toInt64 = 100 * lN t + (nI s).toInt64 := by
  have h : ∀ t, t < 10 → ∀ s, s < 13 → (100 * nI t + nI s).toInt64 = 100 * lN t + (nI s).toInt64 := by decide
  exact h t (by omega) s (by omega)
theorem ss_set1v {n : Nat} {ad : Nat → Nat} {K : KT} {M : MT} (h : SS n ad K M) {i s : Nat} (hi : i ≤ n) (e0 : i = 0 ↔ s = 0) (es : m_sort M i = nI s) (hs : s = 10 ∨ s = 11) {v : Int32} (hv : v.toInt8.toInt32 = v) : SS n ad (ksO K (ad i) (osS (kO K (ad i)) v)) (ms_small M i v) := by
  have := ss_set1 h hi e0 es hs (w := v.toInt64) (by rw [Int32.toInt32_toInt64]; exact hv)
  rw [Int32.toInt32_toInt64, hv] at this
  exact this
set_option maxHeartbeats 4000000 in
theorem sim_inv0 {N n : Nat} {ad : Nat → Nat} {K : KT} {M : MT} (hN : N + 1 < 520) (hn : n ≤ N) (ho : m_objects M = nI n) (hs : kSh K = m_shared M) (hC : SS n ad K M) {i s j s1 k s2 : Nat} (hi : i ≤ n) (hs12 : s ≤ 12) (es : m_sort M i = nI s) (et : ktg K (rfi ad i) = tgN s) (e0 : i = 0 ↔ s = 0) (hj : j ≤ n) (hs1 : s1 ≤ 12) (es1 : m_sort M j = nI s1) (et1 : ktg K (rfi ad j) = tgN s1) (e01 : j = 0 ↔ s1 = 0) (hk : k ≤ n) (hs2 : s2 ≤ 12) (es2 : m_sort M k = nI s2) (et2 : ktg K (rfi ad k) = tgN s2) (e02 : k = 0 ↔ s2 = 0) {W : (Int32 → MT → Prop) → Prop} (hso : s = 10 ∨ s = 11) (go : ∀ Q : Int32 → MT → Prop, w_M_sum M (nI i) (nI j) (nI k) Q → W Q) : w_C_inv_args K (nI 0) (rfi ad i) (rfi ad j) (rfi ad k) (fun r K' => W (fun r' M' => r = r' ∧ Sim (N + 1) K' M')) := by
  have hC' : SS n ad (ksLa K 0) M := hC
  have et' : ktg (ksLa K 0) (rfi ad i) = tgN s := et
  have hS2 : ∀ (w : Int64) (r : UInt64), Sim (N + 1) (ksLa K 0) (ms_last (ms_realNow (ms_wholeNow M w) r) 0) := fun w r => ⟨n, ad, by omega, ob_last (ob_now ho), sh_last (sh_now hs), rfl, ss_last (ss_now hC)⟩
  have hS3 : Sim (N + 1) (ksLa K 0) (ms_last M 0) := ⟨n, ad, by omega, ho, hs, rfl, hC⟩
  have i5 : i < 520 := by omega
  have j5 : j < 520 := by omega
  have k5 : k < 520 := by omega
  have vi := vp_in_nI (N := 520) i5 (by omega)
  have vj := vp_in_nI (N := 520) j5 (by omega)
  have vk := vp_in_nI (N := 520) k5 (by omega)
  have ci : (nI i).toNatClampNeg = i := nI_clamp (by omega)
  have cj : (nI j).toNatClampNeg = j := nI_clamp (by omega)
  have ck : (nI k).toNatClampNeg = k := nI_clamp (by omega)
  unfold w_C_inv_args
  rw [show sf_FIRST_WANTS.getD (nI 0).toNatClampNeg 0 = nI 4 by decide, show sf_SECOND_WANTS.getD (nI 0).toNatClampNeg 0 = nI 5 by decide]
  refine ⟨by unfold vp_in; decide, ?_⟩
  have hok := sv_ok hC' hi
  obtain ⟨sp, s3, g1, g2, g3, i1, g4, g5, g6, g7, g8, g9, g10, g11⟩ := sv_sp hC hi e0 es hso
  have hI : isI (ksLa K 0) (rfi ad i) := by
    rw [g1]
    exact sv_isI (K := ksLa K 0) g2 g3
  have hb : kob (ksLa K 0) (rfi ad i) = kO K (ad i) := by
    rw [g1]
    rfl
  have hit : ¬ bI (ktg (ksLa K 0) (rfi ad i) == 1 || ktg (ksLa K 0) (rfi ad i) == 3) = 0 := by
    rw [et', tg_it hs12, decide_eq_true hso]
    decide
  refine rC_conv hC' hj hs1 es1 et1 (by decide) ?_
  cases h1 : cvt s1 4
  · refine br_t rfl (go _ ?_)
    unfold w_M_sum
    exact rM_unboxes (k := 4) j5 hs1 es1 (by decide) (fun _ => br_t rfl ⟨rfl, hS3⟩) (fun z => by rw [h1] at z; cases z)
  · refine br_f n01 ⟨by unfold vp_in; decide, rC_conv hC' hk hs2 es2 et2 (by decide) ?_⟩
    cases h2 : cvt s2 5
    · refine br_t rfl (go _ ?_)
      unfold w_M_sum
      refine rM_unboxes (k := 4) j5 hs1 es1 (by decide) (fun z => by rw [h1] at z; cases z) (fun _ r _ => br_f n01 ?_)
      exact rM_unboxes (M := ms_realNow (ms_wholeNow M (m_whole M j)) r) (k := 5) k5 hs2 es2 (by decide) (fun _ => br_t rfl ⟨rfl, hS2 _ r⟩) (fun z => by rw [h2] at z; cases z)
    · refine br_f n01 (br_f (by decide) ⟨hok, br_f hit ⟨hI, ?_⟩⟩)
      unfold w_C_invokeOn
      obtain ⟨c1, c18, ec1, hw1⟩ := cvt_src h1
      obtain ⟨c2, c28, ec2, hw2⟩ := cvt_src h2
      have hl1 := wid_4 c1 c18 hw1
      refine br_t (by decide) (rC_wholeOf hC' hj (k := c1) (by omega) (by rw [es1, ec1]) (rC_wholeOf hC' hk (wid_5 c2 c28 hw2) (by rw [es2, ec2]) ⟨hI, ?_⟩))
      rw [hb, ← g4]
      refine rC_boxW' (k := 5) (r := 0) (by decide) (fun q hq => rC_answer okW (go _ ?_))
      unfold w_M_sum
      refine rM_unboxes (k := 4) j5 hs1 es1 (by decide) (fun z => by rw [h1] at z; cases z) (fun _ r _ => br_f n01 ?_)
      refine rM_unboxes (M := ms_realNow (ms_wholeNow M (m_whole M j)) r) (k := 5) k5 hs2 es2 (by decide) (fun z => by rw [h2] at z; cases z) (fun _ r' _ => br_f n01 ⟨vi, ?_⟩)
      rw [ci]
      simp only [now_w, now_h]
      refine rM_answer (k := 5) (n := n) (ob_now (ob_now ho)) (by omega) ⟨rfl, ?_⟩
      exact sim_boxed (M := ms_realNow (ms_wholeNow (ms_realNow (ms_wholeNow M (m_whole M j)) r) (m_whole M k)) r') hn (sh_now (sh_now hs)) (ss_now (ss_now hC)) hq (by decide) (fun _ => ⟨rfl, rng_5 _⟩) (fun z => absurd z (by decide))
set_option maxHeartbeats 4000000 in
theorem sim_inv1 {N n : Nat} {ad : Nat → Nat} {K : KT} {M : MT} (hN : N + 1 < 520) (hn : n ≤ N) (ho : m_objects M = nI n) (hs : kSh K = m_shared M) (hC : SS n ad K M) {i s j s1 k s2 : Nat} (hi : i ≤ n) (hs12 : s ≤ 12) (es : m_sort M i = nI s) (et : ktg K (rfi ad i) = tgN s) (e0 : i = 0 ↔ s = 0) (hj : j ≤ n) (hs1 : s1 ≤ 12) (es1 : m_sort M j = nI s1) (et1 : ktg K (rfi ad j) = tgN s1) (e01 : j = 0 ↔ s1 = 0) (hk : k ≤ n) (hs2 : s2 ≤ 12) (es2 : m_sort M k = nI s2) (et2 : ktg K (rfi ad k) = tgN s2) (e02 : k = 0 ↔ s2 = 0) {W : (Int32 → MT → Prop) → Prop} (hso : s = 10 ∨ s = 11) (go : ∀ Q : Int32 → MT → Prop, w_M_tag M (nI j) (nI k) Q → W Q) : w_C_inv_args K (nI 1) (rfi ad i) (rfi ad j) (rfi ad k) (fun r K' => W (fun r' M' => r = r' ∧ Sim (N + 1) K' M')) := by
  have hC' : SS n ad (ksLa K 0) M := hC
  have et' : ktg (ksLa K 0) (rfi ad i) = tgN s := et
  have hS2 : ∀ (w : Int64) (r : UInt64), Sim (N + 1) (ksLa K 0) (ms_last (ms_realNow (ms_wholeNow M w) r) 0) := fun w r => ⟨n, ad, by omega, ob_last (ob_now ho), sh_last (sh_now hs), rfl, ss_last (ss_now hC)⟩
  have hS3 : Sim (N + 1) (ksLa K 0) (ms_last M 0) := ⟨n, ad, by omega, ho, hs, rfl, hC⟩
  have i5 : i < 520 := by omega
  have j5 : j < 520 := by omega
  have k5 : k < 520 := by omega
  have vi := vp_in_nI (N := 520) i5 (by omega)
  have vj := vp_in_nI (N := 520) j5 (by omega)
  have vk := vp_in_nI (N := 520) k5 (by omega)
  have ci : (nI i).toNatClampNeg = i := nI_clamp (by omega)
  have cj : (nI j).toNatClampNeg = j := nI_clamp (by omega)
  have ck : (nI k).toNatClampNeg = k := nI_clamp (by omega)
  unfold w_C_inv_args
  rw [show sf_FIRST_WANTS.getD (nI 1).toNatClampNeg 0 = 8 by decide, show sf_SECOND_WANTS.getD (nI 1).toNatClampNeg 0 = 10 by decide]
  refine ⟨by unfold vp_in; decide, ?_⟩
  have hok := sv_ok hC' hi
  obtain ⟨sp, s3, g1, g2, g3, i1, g4, g5, g6, g7, g8, g9, g10, g11⟩ := sv_sp hC hi e0 es hso
  have hI : isI (ksLa K 0) (rfi ad i) := by
    rw [g1]
    exact sv_isI (K := ksLa K 0) g2 g3
  have hb : kob (ksLa K 0) (rfi ad i) = kO K (ad i) := by
    rw [g1]
    rfl
  have hit : ¬ bI (ktg (ksLa K 0) (rfi ad i) == 1 || ktg (ksLa K 0) (rfi ad i) == 3) = 0 := by
    rw [et', tg_it hs12, decide_eq_true hso]
    decide
  refine rC_conv8 hC' hj hs1 et1 e01 ?_
  have v9 : ∀ z : j ≠ 0, fit s1 3 = decide (s1 = 9) := fun z => by
    show decide (s1 = 0 ∨ s1 = 9) = decide (s1 = 9)
    exact decide_eq_decide.mpr ⟨fun x => x.resolve_left (fun y => z (e01.mpr y)), Or.inr⟩
  by_cases z : j = 0
  · have zs := e01.mp z
    rw [show fit s1 3 = true from decide_eq_true (Or.inl zs)]
    refine br_f n01 ⟨by unfold vp_in; decide, rC_conv10 (br_f n01 (br_f (by decide) ⟨hok, br_f hit ⟨hI, ?_⟩⟩))⟩
    unfold w_C_invokeOn w_C_tagOf
    refine br_f (by decide) (br_t (by decide) ⟨sv_ok hC' hj, ?_⟩)
    have et1' : ktg (ksLa K 0) (rfi ad j) = tgN s1 := et1
    rw [et1', tg_text hs1, decide_eq_false (show ¬ s1 = 9 by omega)]
    refine br_t rfl (go _ ?_)
    have z0 : nI j = 0 := by rw [z]; rfl
    exact br_t z0 (br_t z0 ⟨rfl, n, ad, by omega, ho, hs, (show Int32.toInt64 2 = 2 by decide), hC⟩)
  · have z0 : ¬ nI j = 0 := fun e => z (nI_inj (b := 0) (by omega) (by omega) e)
    rw [v9 z]
    by_cases s9 : s1 = 9
    · rw [decide_eq_true s9]
      refine br_f n01 ⟨by unfold vp_in; decide, rC_conv10 (br_f n01 (br_f (by decide) ⟨hok, br_f hit ⟨hI, ?_⟩⟩))⟩
      unfold w_C_invokeOn w_C_tagOf
      have et1' : ktg (ksLa K 0) (rfi ad j) = tgN s1 := et1
      have hT : isT (ksLa K 0) (rfi ad j) 4 := sv_isT hC' hj z (by rw [et1', s9]; rfl)
      refine br_f (by decide) (br_t (by decide) ⟨sv_ok hC' hj, ?_⟩)
      rw [et1', tg_text hs1, decide_eq_true s9]
      refine br_f n01 ⟨hT, hT, rC_sortOf hC' hk ?_⟩
      obtain ⟨m1, m2⟩ := hC.2.1 j (by omega) hj
      have e9 : m_sort M j = 9 := by rw [es1, s9]; rfl
      have hwt : ∃ t : Nat, t ≤ 9 ∧ oI (kO K (ad j)) = nI t ∧ m_whole M j = lN t := by
        rcases m2 with ⟨k', hk', e, -⟩ | ⟨t, ht, -, -, q1, q2⟩ | ⟨e, -⟩ | ⟨⟨e, -⟩ | ⟨e, -⟩, -⟩
        · rw [e9] at e
          exact absurd (nI_inj (a := 9) (by omega) (by omega) e) (by omega)
        · exact ⟨t, ht, q1, q2⟩
        · rw [e9] at e
          exact absurd e (by decide)
        · rw [e9] at e
          exact absurd e (by decide)
        · rw [e9] at e
          exact absurd e (by decide)
      obtain ⟨t, ht, q1, q2⟩ := hwt
      have hbj : oI (kob (ksLa K 0) (rfi ad j)) = nI t := by rw [sv_some z]; exact q1
      rw [hbj]
      have ev : (100 * nI t + m_sort M k).toInt64 = 100 * m_whole M j + (m_sort M k).toInt64 := by
        rw [q2, es2]
        exact tag_num ht hs2
      rw [ev]
      refine rC_boxW' (k := 4) (r := 0) (by decide) (fun q hq => rC_answer okW (go _ ?_))
      unfold w_M_tag
      refine br_f z0 ⟨vj, ?_⟩
      rw [cj, ck]
      refine br_t e9 (br_f z0 ⟨vj, vk, rM_answer (k := 4) (n := n) ho (by omega) ⟨rfl, ?_⟩⟩)
      refine sim_boxed (M := M) hn hs hC hq (by decide) (fun _ => ⟨rfl, ?_⟩) (fun z => absurd z (by decide))
      rw [← ev]
      exact rng_4 _
    · rw [decide_eq_false s9]
      refine br_t rfl (go _ ?_)
      unfold w_M_tag
      refine br_f z0 ⟨vj, ?_⟩
      rw [cj]
      exact br_f (fun e => by
        rw [es1] at e
        exact s9 (nI_inj (b := 9) (by omega) (by omega) e)) ⟨rfl, hS3⟩
set_option maxHeartbeats 4000000 in
theorem sim_inv2 {N n : Nat} {ad : Nat → Nat} {K : KT} {M : MT} (hN : N + 1 < 520) (hn : n ≤ N) (ho : m_objects M = nI n) (hs : kSh K = m_shared M) (hC : SS n ad K M) {i s j s1 k s2 : Nat} (hi : i ≤ n) (hs12 : s ≤ 12) (es : m_sort M i = nI s) (et : ktg K (rfi ad i) = tgN s) (e0 : i = 0 ↔ s = 0) (hj : j ≤ n) (hs1 : s1 ≤ 12) (es1 : m_sort M j = nI s1) (et1 : ktg K (rfi ad j) = tgN s1) (e01 : j = 0 ↔ s1 = 0) (hk : k ≤ n) (hs2 : s2 ≤ 12) (es2 : m_sort M k = nI s2) (et2 : ktg K (rfi ad k) = tgN s2) (e02 : k = 0 ↔ s2 = 0) {W : (Int32 → MT → Prop) → Prop} (go : ∀ Q : Int32 → MT → Prop, w_M_twice M (nI j) Q → W Q) : w_C_inv_args K (nI 2) (rfi ad i) (rfi ad j) (rfi ad k) (fun r K' => W (fun r' M' => r = r' ∧ Sim (N + 1) K' M')) := by
  have hC' : SS n ad (ksLa K 0) M := hC
  have et' : ktg (ksLa K 0) (rfi ad i) = tgN s := et
  have hS2 : ∀ (w : Int64) (r : UInt64), Sim (N + 1) (ksLa K 0) (ms_last (ms_realNow (ms_wholeNow M w) r) 0) := fun w r => ⟨n, ad, by omega, ob_last (ob_now ho), sh_last (sh_now hs), rfl, ss_last (ss_now hC)⟩
  have hS3 : Sim (N + 1) (ksLa K 0) (ms_last M 0) := ⟨n, ad, by omega, ho, hs, rfl, hC⟩
  have i5 : i < 520 := by omega
  have j5 : j < 520 := by omega
  have k5 : k < 520 := by omega
  have vi := vp_in_nI (N := 520) i5 (by omega)
  have vj := vp_in_nI (N := 520) j5 (by omega)
  have vk := vp_in_nI (N := 520) k5 (by omega)
  have ci : (nI i).toNatClampNeg = i := nI_clamp (by omega)
  have cj : (nI j).toNatClampNeg = j := nI_clamp (by omega)
  have ck : (nI k).toNatClampNeg = k := nI_clamp (by omega)
  unfold w_C_inv_args
  rw [show sf_FIRST_WANTS.getD (nI 2).toNatClampNeg 0 = nI 7 by decide, show sf_SECOND_WANTS.getD (nI 2).toNatClampNeg 0 = 10 by decide]
  refine ⟨by unfold vp_in; decide, ?_⟩
  refine rC_conv hC' hj hs1 es1 et1 (by decide) ?_
  cases h1 : cvt s1 7
  · refine br_t rfl (go _ ?_)
    unfold w_M_twice
    exact rM_unboxes (k := 7) j5 hs1 es1 (by decide) (fun _ => br_t rfl ⟨rfl, hS3⟩) (fun z => by rw [h1] at z; cases z)
  · refine br_f n01 ⟨by unfold vp_in; decide, rC_conv10 (br_f n01 (br_t (by decide) ?_))⟩
    obtain ⟨c1, c18, ec1, hw1⟩ := cvt_src h1
    have esc : m_sort M j = nI (c1 + 1) := by rw [es1, ec1]
    refine rC_realOf hC' hj c18 esc (fun vn => rC_realOf hC' hj c18 esc (fun _ => ⟨fp_dbl vn, ?_⟩))
    refine rC_boxR' (k := 7) (w := 0) (by decide) (fun q hq => rC_answer okW (go _ ?_))
    unfold w_M_twice
    refine rM_unboxes (k := 7) j5 hs1 es1 (by decide) (fun z => by rw [h1] at z; cases z) (fun _ r er => br_f n01 ?_)
    have er' : r = rr c1 7 (m_whole M j) (m_real M j) := by
      have q := er (by decide)
      rw [ec1] at q
      exact q
    subst er'
    refine ⟨fp_dbl vn, rM_box (k := 7) (n := n) ho (by omega) ⟨vp8, ?_⟩⟩
    rw [e8c]
    refine ⟨rfl, ?_⟩
    exact sim_boxed (M := M) (w := m_whole M j) hn hs hC hq (by decide) (fun z => absurd z (by decide)) (fun _ => ⟨rfl, fp_dbl vn⟩)
