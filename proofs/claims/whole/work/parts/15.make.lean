/-! make -/
set_option maxHeartbeats 4000000 in
theorem rC_makeE0 {K : KT} {a2 a3 : Int32} (e2 : a2 = 0) {post : Int32 → KT → Prop} (hp : ∀ q : Nat, q ∉ kL K → post 0 (ksH (kNew (ksLa K 0) q (ob0 2)) 8 (some q))) : w_C_make K (nI 0) a2 a3 post := by
  unfold w_C_make
  refine pC_below (by decide) (by decide) (br_f n01 (br_t e2 (m_C_hasEmptyConstructor (dC_hasEmpty 0 (by decide)) (fun r er => ?_))))
  subst er
  repeat (first | refine br_t (by decide) ?_ | refine br_f (by decide) ?_ | refine br_t e2 ?_ | refine br_f e2 ?_ | refine ⟨(by unfold vp_in; decide), ?_⟩)
  refine fun q hq => rC_P ?_
  exact rC_answer (okR_new (by decide : 2 < 5)) (hp q hq)
set_option maxHeartbeats 4000000 in
theorem rM_makeE0 {M : MT} {a2 a3 : Int32} {n : Nat} (ho : m_objects M = nI n) (hn : n + 1 < 520) (e2 : a2 = 0) {post : Int32 → MT → Prop} (hp : post 0 (ms_last (ms_held (ms_sort (ms_objects M (nI (n + 1))) (n + 1) 12) 8 (nI (n + 1))) 0)) : w_M_make M (nI 0) a2 a3 post := by
  have vp5 : vp_in (nI (n + 1)) 520 := vp_in_nI (by omega) (by omega)
  unfold w_M_make
  refine pM_in (by decide) (by decide) (br_f n01 ?_)
  repeat (first | refine br_t (by decide) ?_ | refine br_f (by decide) ?_ | refine br_t e2 ?_ | refine br_f e2 ?_ | refine ⟨(by unfold vp_in; decide), ?_⟩ | refine ⟨vp5, ?_⟩)
  refine rM_create ho hn ?_
  repeat (first | refine br_t (by decide) ?_ | refine br_f (by decide) ?_ | refine br_t e2 ?_ | refine br_f e2 ?_ | refine ⟨(by unfold vp_in; decide), ?_⟩ | refine ⟨vp5, ?_⟩)
  rw [e8c]
  exact hp
set_option maxHeartbeats 4000000 in
theorem rC_makeE1 {K : KT} {a2 a3 : Int32} (e2 : a2 = 0) {post : Int32 → KT → Prop} (hp : post 6 (ksLa K 0)) : w_C_make K (nI 1) a2 a3 post := by
  unfold w_C_make
  refine pC_below (by decide) (by decide) (br_f n01 (br_t e2 (m_C_hasEmptyConstructor (dC_hasEmpty 1 (by decide)) (fun r er => ?_))))
  subst er
  repeat (first | refine br_t (by decide) ?_ | refine br_f (by decide) ?_ | refine br_t e2 ?_ | refine br_f e2 ?_ | refine ⟨(by unfold vp_in; decide), ?_⟩)
  exact hp
set_option maxHeartbeats 4000000 in
theorem rM_makeE1 {M : MT} {a2 a3 : Int32} (e2 : a2 = 0) {post : Int32 → MT → Prop} (hp : post 6 (ms_last M 0)) : w_M_make M (nI 1) a2 a3 post := by
  unfold w_M_make
  refine pM_in (by decide) (by decide) (br_f n01 ?_)
  repeat (first | refine br_t (by decide) ?_ | refine br_f (by decide) ?_ | refine br_t e2 ?_ | refine br_f e2 ?_ | refine ⟨(by unfold vp_in; decide), ?_⟩)
  exact hp
set_option maxHeartbeats 4000000 in
theorem rC_makeE2 {K : KT} {a2 a3 : Int32} (e2 : a2 = 0) {post : Int32 → KT → Prop} (hp : post 5 (ksLa K 0)) : w_C_make K (nI 2) a2 a3 post := by
  unfold w_C_make
  refine pC_below (by decide) (by decide) (br_f n01 (br_t e2 (m_C_hasEmptyConstructor (dC_hasEmpty 2 (by decide)) (fun r er => ?_))))
  subst er
  repeat (first | refine br_t (by decide) ?_ | refine br_f (by decide) ?_ | refine br_t e2 ?_ | refine br_f e2 ?_ | refine ⟨(by unfold vp_in; decide), ?_⟩)
  exact hp
set_option maxHeartbeats 4000000 in
theorem rM_makeE2 {M : MT} {a2 a3 : Int32} (e2 : a2 = 0) {post : Int32 → MT → Prop} (hp : post 5 (ms_last M 0)) : w_M_make M (nI 2) a2 a3 post := by
  unfold w_M_make
  refine pM_in (by decide) (by decide) (br_f n01 ?_)
  repeat (first | refine br_t (by decide) ?_ | refine br_f (by decide) ?_ | refine br_t e2 ?_ | refine br_f e2 ?_ | refine ⟨(by unfold vp_in; decide), ?_⟩)
  exact hp
set_option maxHeartbeats 4000000 in
theorem rC_makeE3 {K : KT} {a2 a3 : Int32} (e2 : a2 = 0) {post : Int32 → KT → Prop} (hp : ∀ q : Nat, q ∉ kL K → post 0 (ksH (kNew (ksLa K 0) q ((4, 0, 0, 0, 0, none, none, none, 0))) 8 (some q))) : w_C_make K (nI 3) a2 a3 post := by
  unfold w_C_make
  refine pC_below (by decide) (by decide) (br_f n01 (br_t e2 (m_C_hasEmptyConstructor (dC_hasEmpty 3 (by decide)) (fun r er => ?_))))
  subst er
  repeat (first | refine br_t (by decide) ?_ | refine br_f (by decide) ?_ | refine br_t e2 ?_ | refine br_f e2 ?_ | refine ⟨(by unfold vp_in; decide), ?_⟩)
  refine fun q hq => rC_T ?_
  exact rC_answer (okR_new (by decide : 4 < 5)) (hp q hq)
set_option maxHeartbeats 4000000 in
theorem rM_makeE3 {M : MT} {a2 a3 : Int32} {n : Nat} (ho : m_objects M = nI n) (hn : n + 1 < 520) (e2 : a2 = 0) {post : Int32 → MT → Prop} (hp : post 0 (ms_last (ms_held (ms_sort (ms_objects M (nI (n + 1))) (n + 1) 9) 8 (nI (n + 1))) 0)) : w_M_make M (nI 3) a2 a3 post := by
  have vp5 : vp_in (nI (n + 1)) 520 := vp_in_nI (by omega) (by omega)
  unfold w_M_make
  refine pM_in (by decide) (by decide) (br_f n01 ?_)
  repeat (first | refine br_t (by decide) ?_ | refine br_f (by decide) ?_ | refine br_t e2 ?_ | refine br_f e2 ?_ | refine ⟨(by unfold vp_in; decide), ?_⟩ | refine ⟨vp5, ?_⟩)
  refine rM_create ho hn ?_
  repeat (first | refine br_t (by decide) ?_ | refine br_f (by decide) ?_ | refine br_t e2 ?_ | refine br_f e2 ?_ | refine ⟨(by unfold vp_in; decide), ?_⟩ | refine ⟨vp5, ?_⟩)
  rw [e8c]
  exact hp
set_option maxHeartbeats 4000000 in
theorem rC_makeE4 {K : KT} {a2 a3 : Int32} (e2 : a2 = 0) {post : Int32 → KT → Prop} (hp : post 5 (ksLa K 0)) : w_C_make K (nI 4) a2 a3 post := by
  unfold w_C_make
  refine pC_below (by decide) (by decide) (br_f n01 (br_t e2 (m_C_hasEmptyConstructor (dC_hasEmpty 4 (by decide)) (fun r er => ?_))))
  subst er
  repeat (first | refine br_t (by decide) ?_ | refine br_f (by decide) ?_ | refine br_t e2 ?_ | refine br_f e2 ?_ | refine ⟨(by unfold vp_in; decide), ?_⟩)
  exact hp
set_option maxHeartbeats 4000000 in
theorem rM_makeE4 {M : MT} {a2 a3 : Int32} (e2 : a2 = 0) {post : Int32 → MT → Prop} (hp : post 5 (ms_last M 0)) : w_M_make M (nI 4) a2 a3 post := by
  unfold w_M_make
  refine pM_in (by decide) (by decide) (br_f n01 ?_)
  repeat (first | refine br_t (by decide) ?_ | refine br_f (by decide) ?_ | refine br_t e2 ?_ | refine br_f e2 ?_ | refine ⟨(by unfold vp_in; decide), ?_⟩)
  exact hp
set_option maxHeartbeats 4000000 in
theorem rC_makeE5 {K : KT} {a2 a3 : Int32} (e2 : a2 = 0) {post : Int32 → KT → Prop} (hp : ∀ q : Nat, q ∉ kL K → post 0 (ksH (kNew (ksLa K 0) q ((1, 0, 0, 0, 0, none, none, none, 0))) 8 (some q))) : w_C_make K (nI 5) a2 a3 post := by
  unfold w_C_make
  refine pC_below (by decide) (by decide) (br_f n01 (br_t e2 (m_C_hasEmptyConstructor (dC_hasEmpty 5 (by decide)) (fun r er => ?_))))
  subst er
  repeat (first | refine br_t (by decide) ?_ | refine br_f (by decide) ?_ | refine br_t e2 ?_ | refine br_f e2 ?_ | refine ⟨(by unfold vp_in; decide), ?_⟩)
  refine fun q hq => rC_I ?_
  exact rC_answer (okR_new (by decide : 1 < 5)) (hp q hq)
set_option maxHeartbeats 4000000 in
theorem rM_makeE5 {M : MT} {a2 a3 : Int32} {n : Nat} (ho : m_objects M = nI n) (hn : n + 1 < 520) (e2 : a2 = 0) {post : Int32 → MT → Prop} (hp : post 0 (ms_last (ms_held (ms_sort (ms_objects M (nI (n + 1))) (n + 1) 10) 8 (nI (n + 1))) 0)) : w_M_make M (nI 5) a2 a3 post := by
  have vp5 : vp_in (nI (n + 1)) 520 := vp_in_nI (by omega) (by omega)
  unfold w_M_make
  refine pM_in (by decide) (by decide) (br_f n01 ?_)
  repeat (first | refine br_t (by decide) ?_ | refine br_f (by decide) ?_ | refine br_t e2 ?_ | refine br_f e2 ?_ | refine ⟨(by unfold vp_in; decide), ?_⟩ | refine ⟨vp5, ?_⟩)
  refine rM_create ho hn ?_
  repeat (first | refine br_t (by decide) ?_ | refine br_f (by decide) ?_ | refine br_t e2 ?_ | refine br_f e2 ?_ | refine ⟨(by unfold vp_in; decide), ?_⟩ | refine ⟨vp5, ?_⟩)
  rw [e8c]
  exact hp
set_option maxHeartbeats 4000000 in
theorem rC_makeE6 {K : KT} {a2 a3 : Int32} (e2 : a2 = 0) {post : Int32 → KT → Prop} (hp : post 5 (ksLa K 0)) : w_C_make K (nI 6) a2 a3 post := by
  unfold w_C_make
  refine pC_below (by decide) (by decide) (br_f n01 (br_t e2 (m_C_hasEmptyConstructor (dC_hasEmpty 6 (by decide)) (fun r er => ?_))))
  subst er
  repeat (first | refine br_t (by decide) ?_ | refine br_f (by decide) ?_ | refine br_t e2 ?_ | refine br_f e2 ?_ | refine ⟨(by unfold vp_in; decide), ?_⟩)
  exact hp
set_option maxHeartbeats 4000000 in
theorem rM_makeE6 {M : MT} {a2 a3 : Int32} (e2 : a2 = 0) {post : Int32 → MT → Prop} (hp : post 5 (ms_last M 0)) : w_M_make M (nI 6) a2 a3 post := by
  unfold w_M_make
  refine pM_in (by decide) (by decide) (br_f n01 ?_)
  repeat (first | refine br_t (by decide) ?_ | refine br_f (by decide) ?_ | refine br_t e2 ?_ | refine br_f e2 ?_ | refine ⟨(by unfold vp_in; decide), ?_⟩)
  exact hp
set_option maxHeartbeats 4000000 in
theorem rC_makeE7 {K : KT} {a2 a3 : Int32} (e2 : a2 = 0) {post : Int32 → KT → Prop} (hp : post 6 (ksLa K 0)) : w_C_make K (nI 7) a2 a3 post := by
  unfold w_C_make
  refine pC_below (by decide) (by decide) (br_f n01 (br_t e2 (m_C_hasEmptyConstructor (dC_hasEmpty 7 (by decide)) (fun r er => ?_))))
  subst er
  repeat (first | refine br_t (by decide) ?_ | refine br_f (by decide) ?_ | refine br_t e2 ?_ | refine br_f e2 ?_ | refine ⟨(by unfold vp_in; decide), ?_⟩)
  exact hp
set_option maxHeartbeats 4000000 in
theorem rM_makeE7 {M : MT} {a2 a3 : Int32} (e2 : a2 = 0) {post : Int32 → MT → Prop} (hp : post 6 (ms_last M 0)) : w_M_make M (nI 7) a2 a3 post := by
  unfold w_M_make
  refine pM_in (by decide) (by decide) (br_f n01 ?_)
  repeat (first | refine br_t (by decide) ?_ | refine br_f (by decide) ?_ | refine br_t e2 ?_ | refine br_f e2 ?_ | refine ⟨(by unfold vp_in; decide), ?_⟩)
  exact hp
set_option maxHeartbeats 4000000 in
theorem rC_makeF0 {K : KT} {a2 a3 : Int32} (e2 : ¬ a2 = 0) {post : Int32 → KT → Prop} (hp : post 5 (ksLa K 0)) : w_C_make K (nI 0) a2 a3 post := by
  unfold w_C_make
  refine pC_below (by decide) (by decide) (br_f n01 (br_f e2 (m_C_hasIntConstructor (dC_hasInt 0 (by decide)) (fun r er => ?_))))
  subst er
  repeat (first | refine br_t (by decide) ?_ | refine br_f (by decide) ?_ | refine br_t e2 ?_ | refine br_f e2 ?_ | refine ⟨(by unfold vp_in; decide), ?_⟩)
  exact hp
set_option maxHeartbeats 4000000 in
theorem rM_makeF0 {M : MT} {a2 a3 : Int32} (e2 : ¬ a2 = 0) {post : Int32 → MT → Prop} (hp : post 5 (ms_last M 0)) : w_M_make M (nI 0) a2 a3 post := by
  unfold w_M_make
  refine pM_in (by decide) (by decide) (br_f n01 ?_)
  repeat (first | refine br_t (by decide) ?_ | refine br_f (by decide) ?_ | refine br_t e2 ?_ | refine br_f e2 ?_ | refine ⟨(by unfold vp_in; decide), ?_⟩)
  exact hp
set_option maxHeartbeats 4000000 in
theorem rC_makeF1 {K : KT} {a2 a3 : Int32} (e2 : ¬ a2 = 0) {post : Int32 → KT → Prop} (hp : post 5 (ksLa K 0)) : w_C_make K (nI 1) a2 a3 post := by
  unfold w_C_make
  refine pC_below (by decide) (by decide) (br_f n01 (br_f e2 (m_C_hasIntConstructor (dC_hasInt 1 (by decide)) (fun r er => ?_))))
  subst er
  repeat (first | refine br_t (by decide) ?_ | refine br_f (by decide) ?_ | refine br_t e2 ?_ | refine br_f e2 ?_ | refine ⟨(by unfold vp_in; decide), ?_⟩)
  exact hp
set_option maxHeartbeats 4000000 in
theorem rM_makeF1 {M : MT} {a2 a3 : Int32} (e2 : ¬ a2 = 0) {post : Int32 → MT → Prop} (hp : post 5 (ms_last M 0)) : w_M_make M (nI 1) a2 a3 post := by
  unfold w_M_make
  refine pM_in (by decide) (by decide) (br_f n01 ?_)
  repeat (first | refine br_t (by decide) ?_ | refine br_f (by decide) ?_ | refine br_t e2 ?_ | refine br_f e2 ?_ | refine ⟨(by unfold vp_in; decide), ?_⟩)
  exact hp
set_option maxHeartbeats 4000000 in
theorem rC_makeF2 {K : KT} {a2 a3 : Int32} (e2 : ¬ a2 = 0) {post : Int32 → KT → Prop} (hp : ∀ q : Nat, q ∉ kL K → post 0 (ksH (kNew (ksLa K 0) q ((0, 4, a3.toInt64, FP.l2d a3.toInt64, 0, none, none, none, 0))) 8 (some q))) : w_C_make K (nI 2) a2 a3 post := by
  unfold w_C_make
  refine pC_below (by decide) (by decide) (br_f n01 (br_f e2 (m_C_hasIntConstructor (dC_hasInt 2 (by decide)) (fun r er => ?_))))
  subst er
  repeat (first | refine br_t (by decide) ?_ | refine br_f (by decide) ?_ | refine br_t e2 ?_ | refine br_f e2 ?_ | refine ⟨(by unfold vp_in; decide), ?_⟩)
  refine rC_boxW (fun q hq => ?_)
  exact rC_answer (okR_new (by decide : 0 < 5)) (hp q hq)
set_option maxHeartbeats 4000000 in
theorem rM_makeF2 {M : MT} {a2 a3 : Int32} {n : Nat} (ho : m_objects M = nI n) (hn : n + 1 < 520) (e2 : ¬ a2 = 0) {post : Int32 → MT → Prop} (hp : post 0 (ms_last (ms_held (ms_whole (ms_sort (ms_objects M (nI (n + 1))) (n + 1) 5) (n + 1) a3.toInt64) 8 (nI (n + 1))) 0)) : w_M_make M (nI 2) a2 a3 post := by
  have vp5 : vp_in (nI (n + 1)) 520 := vp_in_nI (by omega) (by omega)
  unfold w_M_make
  refine pM_in (by decide) (by decide) (br_f n01 ?_)
  repeat (first | refine br_t (by decide) ?_ | refine br_f (by decide) ?_ | refine br_t e2 ?_ | refine br_f e2 ?_ | refine ⟨(by unfold vp_in; decide), ?_⟩ | refine ⟨vp5, ?_⟩)
  refine rM_create ho hn ?_
  repeat (first | refine br_t (by decide) ?_ | refine br_f (by decide) ?_ | refine br_t e2 ?_ | refine br_f e2 ?_ | refine ⟨(by unfold vp_in; decide), ?_⟩ | refine ⟨vp5, ?_⟩)
  rw [e8c]
  rw [nI_clamp (show n + 1 < 2 ^ 31 by omega)]
  exact hp
set_option maxHeartbeats 4000000 in
theorem rC_makeF3 {K : KT} {a2 a3 : Int32} (e2 : ¬ a2 = 0) {post : Int32 → KT → Prop} (hp : post 5 (ksLa K 0)) : w_C_make K (nI 3) a2 a3 post := by
  unfold w_C_make
  refine pC_below (by decide) (by decide) (br_f n01 (br_f e2 (m_C_hasIntConstructor (dC_hasInt 3 (by decide)) (fun r er => ?_))))
  subst er
  repeat (first | refine br_t (by decide) ?_ | refine br_f (by decide) ?_ | refine br_t e2 ?_ | refine br_f e2 ?_ | refine ⟨(by unfold vp_in; decide), ?_⟩)
  exact hp
set_option maxHeartbeats 4000000 in
theorem rM_makeF3 {M : MT} {a2 a3 : Int32} (e2 : ¬ a2 = 0) {post : Int32 → MT → Prop} (hp : post 5 (ms_last M 0)) : w_M_make M (nI 3) a2 a3 post := by
  unfold w_M_make
  refine pM_in (by decide) (by decide) (br_f n01 ?_)
  repeat (first | refine br_t (by decide) ?_ | refine br_f (by decide) ?_ | refine br_t e2 ?_ | refine br_f e2 ?_ | refine ⟨(by unfold vp_in; decide), ?_⟩)
  exact hp
set_option maxHeartbeats 4000000 in
theorem rC_makeF4 {K : KT} {a2 a3 : Int32} (e2 : ¬ a2 = 0) {post : Int32 → KT → Prop} (hp : post 5 (ksLa K 0)) : w_C_make K (nI 4) a2 a3 post := by
  unfold w_C_make
  refine pC_below (by decide) (by decide) (br_f n01 (br_f e2 (m_C_hasIntConstructor (dC_hasInt 4 (by decide)) (fun r er => ?_))))
  subst er
  repeat (first | refine br_t (by decide) ?_ | refine br_f (by decide) ?_ | refine br_t e2 ?_ | refine br_f e2 ?_ | refine ⟨(by unfold vp_in; decide), ?_⟩)
  exact hp
set_option maxHeartbeats 4000000 in
theorem rM_makeF4 {M : MT} {a2 a3 : Int32} (e2 : ¬ a2 = 0) {post : Int32 → MT → Prop} (hp : post 5 (ms_last M 0)) : w_M_make M (nI 4) a2 a3 post := by
  unfold w_M_make
  refine pM_in (by decide) (by decide) (br_f n01 ?_)
  repeat (first | refine br_t (by decide) ?_ | refine br_f (by decide) ?_ | refine br_t e2 ?_ | refine br_f e2 ?_ | refine ⟨(by unfold vp_in; decide), ?_⟩)
  exact hp
set_option maxHeartbeats 4000000 in
theorem rC_makeF5 {K : KT} {a2 a3 : Int32} (e2 : ¬ a2 = 0) {post : Int32 → KT → Prop} (hp : ∀ q : Nat, q ∉ kL K → post 0 (ksH (kNew (ksLa K 0) q ((1, a3, 0, 0, 0, none, none, none, 0))) 8 (some q))) : w_C_make K (nI 5) a2 a3 post := by
  unfold w_C_make
  refine pC_below (by decide) (by decide) (br_f n01 (br_f e2 (m_C_hasIntConstructor (dC_hasInt 5 (by decide)) (fun r er => ?_))))
  subst er
  repeat (first | refine br_t (by decide) ?_ | refine br_f (by decide) ?_ | refine br_t e2 ?_ | refine br_f e2 ?_ | refine ⟨(by unfold vp_in; decide), ?_⟩)
  refine fun q hq => rC_I ?_
  exact rC_answer (okR_new (by decide : 1 < 5)) (hp q hq)
set_option maxHeartbeats 4000000 in
theorem rM_makeF5 {M : MT} {a2 a3 : Int32} {n : Nat} (ho : m_objects M = nI n) (hn : n + 1 < 520) (e2 : ¬ a2 = 0) {post : Int32 → MT → Prop} (hp : post 0 (ms_last (ms_held (ms_whole (ms_sort (ms_objects M (nI (n + 1))) (n + 1) 10) (n + 1) a3.toInt64) 8 (nI (n + 1))) 0)) : w_M_make M (nI 5) a2 a3 post := by
  have vp5 : vp_in (nI (n + 1)) 520 := vp_in_nI (by omega) (by omega)
  unfold w_M_make
  refine pM_in (by decide) (by decide) (br_f n01 ?_)
  repeat (first | refine br_t (by decide) ?_ | refine br_f (by decide) ?_ | refine br_t e2 ?_ | refine br_f e2 ?_ | refine ⟨(by unfold vp_in; decide), ?_⟩ | refine ⟨vp5, ?_⟩)
  refine rM_create ho hn ?_
  repeat (first | refine br_t (by decide) ?_ | refine br_f (by decide) ?_ | refine br_t e2 ?_ | refine br_f e2 ?_ | refine ⟨(by unfold vp_in; decide), ?_⟩ | refine ⟨vp5, ?_⟩)
  rw [e8c]
  rw [nI_clamp (show n + 1 < 2 ^ 31 by omega)]
  exact hp
set_option maxHeartbeats 4000000 in
theorem rC_makeF6 {K : KT} {a2 a3 : Int32} (e2 : ¬ a2 = 0) {post : Int32 → KT → Prop} (hp : ∀ q : Nat, q ∉ kL K → post 0 (ksH (kNew (ksLa K 0) q ((3, a3 + 1, 0, 0, 0, none, none, none, 5))) 8 (some q))) : w_C_make K (nI 6) a2 a3 post := by
  unfold w_C_make
  refine pC_below (by decide) (by decide) (br_f n01 (br_f e2 (m_C_hasIntConstructor (dC_hasInt 6 (by decide)) (fun r er => ?_))))
  subst er
  repeat (first | refine br_t (by decide) ?_ | refine br_f (by decide) ?_ | refine br_t e2 ?_ | refine br_f e2 ?_ | refine ⟨(by unfold vp_in; decide), ?_⟩)
  refine fun q hq => rC_S ?_
  exact rC_answer (okR_new (by decide : 3 < 5)) (hp q hq)
set_option maxHeartbeats 4000000 in
theorem rM_makeF6 {M : MT} {a2 a3 : Int32} {n : Nat} (ho : m_objects M = nI n) (hn : n + 1 < 520) (e2 : ¬ a2 = 0) {post : Int32 → MT → Prop} (hp : post 0 (ms_last (ms_held (ms_extra (ms_whole (ms_sort (ms_objects M (nI (n + 1))) (n + 1) 11) (n + 1) (a3 + 1).toInt64) (n + 1) 5) 8 (nI (n + 1))) 0)) : w_M_make M (nI 6) a2 a3 post := by
  have vp5 : vp_in (nI (n + 1)) 520 := vp_in_nI (by omega) (by omega)
  unfold w_M_make
  refine pM_in (by decide) (by decide) (br_f n01 ?_)
  repeat (first | refine br_t (by decide) ?_ | refine br_f (by decide) ?_ | refine br_t e2 ?_ | refine br_f e2 ?_ | refine ⟨(by unfold vp_in; decide), ?_⟩ | refine ⟨vp5, ?_⟩)
  refine rM_create ho hn ?_
  repeat (first | refine br_t (by decide) ?_ | refine br_f (by decide) ?_ | refine br_t e2 ?_ | refine br_f e2 ?_ | refine ⟨(by unfold vp_in; decide), ?_⟩ | refine ⟨vp5, ?_⟩)
  rw [e8c]
  rw [nI_clamp (show n + 1 < 2 ^ 31 by omega)]
  exact hp
set_option maxHeartbeats 4000000 in
theorem rC_makeF7 {K : KT} {a2 a3 : Int32} (e2 : ¬ a2 = 0) {post : Int32 → KT → Prop} (hp : post 6 (ksLa K 0)) : w_C_make K (nI 7) a2 a3 post := by
  unfold w_C_make
  refine pC_below (by decide) (by decide) (br_f n01 (br_f e2 (m_C_hasIntConstructor (dC_hasInt 7 (by decide)) (fun r er => ?_))))
  subst er
  repeat (first | refine br_t (by decide) ?_ | refine br_f (by decide) ?_ | refine br_t e2 ?_ | refine br_f e2 ?_ | refine ⟨(by unfold vp_in; decide), ?_⟩)
  exact hp
set_option maxHeartbeats 4000000 in
theorem rM_makeF7 {M : MT} {a2 a3 : Int32} (e2 : ¬ a2 = 0) {post : Int32 → MT → Prop} (hp : post 6 (ms_last M 0)) : w_M_make M (nI 7) a2 a3 post := by
  unfold w_M_make
  refine pM_in (by decide) (by decide) (br_f n01 ?_)
  repeat (first | refine br_t (by decide) ?_ | refine br_f (by decide) ?_ | refine br_t e2 ?_ | refine br_f e2 ?_ | refine ⟨(by unfold vp_in; decide), ?_⟩)
  exact hp
set_option maxHeartbeats 4000000 in
theorem sim_make {N : Nat} {K : KT} {M : MT} (hN : N + 1 < 520) (hS : Sim N K M) (a1 a2 a3 : Int32) : w_C_make K a1 a2 a3 (fun r K' => w_M_make M a1 a2 a3 (fun r' M' => r = r' ∧ Sim (N + 1) K' M')) := by
  have hS0 := hS.up (Nat.le_succ N)
  obtain ⟨n, ad, hn, ho, hs, hl, hC⟩ := hS
  have hS1 : Sim (N + 1) (ksLa K 0) (ms_last M 0) := ⟨n, ad, by omega, ho, hs, rfl, hC⟩
  have hn5 : n + 1 < 520 := by omega
  obtain ⟨-, -, -, -, h4⟩ := id hC
  obtain ⟨d2, d3, d4, d5, d6, d7, d8⟩ := h4 (n + 1) (by omega)
  have rr0 : ∀ ad' : Nat → Nat, RR (n + 1) ad' none 0 := fun _ => ⟨0, by omega, rfl, rfl⟩
  rcases ixs a1 (n := 8) (by omega) with ⟨h, hh, rfl⟩ | h1
  · by_cases e2 : a2 = 0
    · rcases (show h = 0 ∨ h = 1 ∨ h = 2 ∨ h = 3 ∨ h = 4 ∨ h = 5 ∨ h = 6 ∨ h = 7 by omega) with rfl | rfl | rfl | rfl | rfl | rfl | rfl | rfl
      · refine rC_makeE0 e2 (fun q hq => rM_makeE0 ho hn5 e2 ⟨rfl, ?_⟩)
        exact sim_made (M := M) (q := q) (h := 8) (o := ob0 2) (s := 12) (w := 0) (r := 0) (x := 0) hn hs hC hq rfl rfl rfl rfl rfl rfl rfl rfl rfl (fun i hi => pk_un hi) (fun _ _ => rfl) (fun _ _ => rfl) (fun _ _ => rfl) rfl rfl rfl rfl pk_us d2 d3 d5 (Or.inr (Or.inr (Or.inl ⟨rfl, rfl⟩)))
      · exact rC_makeE1 e2 (rM_makeE1 e2 ⟨rfl, hS1⟩)
      · exact rC_makeE2 e2 (rM_makeE2 e2 ⟨rfl, hS1⟩)
      · refine rC_makeE3 e2 (fun q hq => rM_makeE3 ho hn5 e2 ⟨rfl, ?_⟩)
        exact sim_made (M := M) (q := q) (h := 8) (o := (4, 0, 0, 0, 0, none, none, none, 0)) (s := 9) (w := 0) (r := 0) (x := 0) hn hs hC hq rfl rfl rfl rfl rfl rfl rfl rfl rfl (fun i hi => pk_un hi) (fun _ _ => rfl) (fun _ _ => rfl) (fun _ _ => rfl) rfl rfl rfl rfl pk_us d2 d3 d5 (Or.inr (Or.inl ⟨0, by omega, rfl, rfl, rfl, rfl⟩))
      · exact rC_makeE4 e2 (rM_makeE4 e2 ⟨rfl, hS1⟩)
      · refine rC_makeE5 e2 (fun q hq => rM_makeE5 ho hn5 e2 ⟨rfl, ?_⟩)
        exact sim_made (M := M) (q := q) (h := 8) (o := (1, 0, 0, 0, 0, none, none, none, 0)) (s := 10) (w := 0) (r := 0) (x := 0) hn hs hC hq rfl rfl rfl rfl rfl rfl rfl rfl rfl (fun i hi => pk_un hi) (fun _ _ => rfl) (fun _ _ => rfl) (fun _ _ => rfl) rfl rfl rfl rfl pk_us d2 d3 d5 (Or.inr (Or.inr (Or.inr ⟨Or.inl ⟨rfl, rfl⟩, rfl, rfl, rfl, rfl, fp_0, rr0 _, rr0 _, rr0 _⟩)))
      · exact rC_makeE6 e2 (rM_makeE6 e2 ⟨rfl, hS1⟩)
      · exact rC_makeE7 e2 (rM_makeE7 e2 ⟨rfl, hS1⟩)
    · rcases (show h = 0 ∨ h = 1 ∨ h = 2 ∨ h = 3 ∨ h = 4 ∨ h = 5 ∨ h = 6 ∨ h = 7 by omega) with rfl | rfl | rfl | rfl | rfl | rfl | rfl | rfl
      · exact rC_makeF0 e2 (rM_makeF0 e2 ⟨rfl, hS1⟩)
      · exact rC_makeF1 e2 (rM_makeF1 e2 ⟨rfl, hS1⟩)
      · refine rC_makeF2 e2 (fun q hq => rM_makeF2 ho hn5 e2 ⟨rfl, ?_⟩)
        exact sim_made (M := M) (q := q) (h := 8) (o := (0, 4, a3.toInt64, FP.l2d a3.toInt64, 0, none, none, none, 0)) (s := 5) (w := a3.toInt64) (r := 0) (x := 0) hn hs hC hq rfl rfl rfl rfl rfl rfl rfl rfl rfl (fun i hi => pk_un hi) (fun i hi => pk_uLn hi) (fun _ _ => rfl) (fun _ _ => rfl) rfl rfl rfl rfl pk_us pk_uLs d3 d5 (Or.inl ⟨4, by omega, rfl, rfl, rfl, fun _ => ⟨rfl, rfl, rng_4 a3⟩, fun h => absurd h (by decide)⟩)
      · exact rC_makeF3 e2 (rM_makeF3 e2 ⟨rfl, hS1⟩)
      · exact rC_makeF4 e2 (rM_makeF4 e2 ⟨rfl, hS1⟩)
      · refine rC_makeF5 e2 (fun q hq => rM_makeF5 ho hn5 e2 ⟨rfl, ?_⟩)
        exact sim_made (M := M) (q := q) (h := 8) (o := (1, a3, 0, 0, 0, none, none, none, 0)) (s := 10) (w := a3.toInt64) (r := 0) (x := 0) hn hs hC hq rfl rfl rfl rfl rfl rfl rfl rfl rfl (fun i hi => pk_un hi) (fun i hi => pk_uLn hi) (fun _ _ => rfl) (fun _ _ => rfl) rfl rfl rfl rfl pk_us pk_uLs d3 d5 (Or.inr (Or.inr (Or.inr ⟨Or.inl ⟨rfl, rfl⟩, rfl, rfl, rfl, rfl, fp_0, rr0 _, rr0 _, rr0 _⟩)))
      · refine rC_makeF6 e2 (fun q hq => rM_makeF6 ho hn5 e2 ⟨rfl, ?_⟩)
        exact sim_made (M := M) (q := q) (h := 8) (o := (3, a3 + 1, 0, 0, 0, none, none, none, 5)) (s := 11) (w := (a3 + 1).toInt64) (r := 0) (x := 5) hn hs hC hq rfl rfl rfl rfl rfl rfl rfl rfl rfl (fun i hi => pk_un hi) (fun i hi => pk_uLn hi) (fun _ _ => rfl) (fun i hi => pk_un hi) rfl rfl rfl rfl pk_us pk_uLs d3 pk_us (Or.inr (Or.inr (Or.inr ⟨Or.inr ⟨rfl, rfl, rfl, rfl⟩, rfl, rfl, rfl, rfl, fp_0, rr0 _, rr0 _, rr0 _⟩)))
      · exact rC_makeF7 e2 (rM_makeF7 e2 ⟨rfl, hS1⟩)
  · unfold w_C_make w_M_make
    exact pC_nbelow h1 (br_t rfl (pM_nin (ix_lt (n := 7) (by omega) h1) (br_t rfl ⟨rfl, hS0⟩)))
