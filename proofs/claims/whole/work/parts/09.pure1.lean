/-! numbers that are no NaN -/
theorem fp64 (a : UInt64) : vf_n64 a ↔ FP.Core.val64 a ≠ .nan := by
  rw [← FP.Core.notNaN_iff]
  have h := FP.Core.isNaN_bits a
  unfold vf_n64
  rw [UInt64.le_iff_toNat_le, UInt64.toNat_and]
  have e : (0x7fffffffffffffff : UInt64).toNat = 2 ^ 63 - 1 := rfl
  have e2 : (0x7ff0000000000000 : UInt64).toNat = 9218868437227405312 := rfl
  rw [e, Nat.and_two_pow_sub_one_eq_mod, e2]
  constructor
  · intro hle
    cases hb : FP.Core.dIsNaN a with
    | false => rfl
    | true => exact absurd (h.mp hb) (by omega)
  · intro hf
    refine Nat.not_lt.mp (fun q => ?_)
    rw [h.mpr q] at hf
    cases hf
theorem fp32 (a : UInt32) : vf_n32 a ↔ FP.Core.val32 a ≠ .nan := by
  rw [← FP.Core.notNaN_iff32]
  have h := FP.Core.isNaN_bits32 a
  unfold vf_n32
  rw [UInt32.le_iff_toNat_le, UInt32.toNat_and]
  have e : (0x7fffffff : UInt32).toNat = 2 ^ 31 - 1 := rfl
  have e2 : (0x7f800000 : UInt32).toNat = 2139095040 := rfl
  rw [e, Nat.and_two_pow_sub_one_eq_mod, e2]
  constructor
  · intro hle
    cases hb : FP.Core.fIsNaN a with
    | false => rfl
    | true => exact absurd (h.mp hb) (by omega)
  · intro hf
    refine Nat.not_lt.mp (fun q => ?_)
    rw [h.mpr q] at hf
    cases hf
theorem fp_l2d (w : Int64) : vf_n64 (FP.l2d w) := by
  rw [fp64]
  show FP.Core.val64 (FP.Core.l2d w) ≠ .nan
  rw [FP.Core.val64_l2d, Ne, FP.Core.round_nan]
  exact FP.Core.Datum.noConfusion
theorem fp_l2f (w : Int64) : vf_n32 (FP.l2f w) := by
  rw [fp32]
  show FP.Core.val32 (FP.Core.l2f w) ≠ .nan
  rw [FP.Core.val32_l2f, Ne, FP.Core.round_nan]
  exact FP.Core.Datum.noConfusion
theorem fp_f2d {a : UInt32} (h : vf_n32 a) : vf_n64 (FP.f2d a) := by
  rw [fp32, ← FP.Core.notNaN_iff32] at h
  rw [fp64, ← FP.Core.notNaN_iff]
  exact (FP.f2d_nan a).trans h
theorem fp_prod {d : FP.Core.Datum} {s : Bool} {c : Nat} {q : Int} (hd : d ≠ .nan) (hc : c ≠ 0) : FP.Core.exactProduct d (.fin s c q) ≠ .nan := by
  cases d with
  | nan => exact absurd rfl hd
  | inf t => simp [FP.Core.exactProduct, hc]
  | fin t e r => simp [FP.Core.exactProduct]
theorem fp_dmul {a b : UInt64} {s : Bool} {c : Nat} {q : Int} (hb : FP.Core.val64 b = .fin s c q) (hc : c ≠ 0) (h : vf_n64 a) : vf_n64 (FP.dmul a b) := by
  rw [fp64] at h ⊢
  show FP.Core.val64 (FP.Core.dmul a b) ≠ .nan
  rw [FP.Core.val64_dmul, Ne, FP.Core.round_nan, hb]
  exact fp_prod h hc
theorem fp_fmul {a b : UInt32} {s : Bool} {c : Nat} {q : Int} (hb : FP.Core.val32 b = .fin s c q) (hc : c ≠ 0) (h : vf_n32 a) : vf_n32 (FP.fmul a b) := by
  rw [fp32] at h ⊢
  show FP.Core.val32 (FP.Core.fmul a b) ≠ .nan
  rw [FP.Core.val32_fmul, Ne, FP.Core.round_nan, hb]
  exact fp_prod h hc
theorem fp_8 {a : UInt64} (h : vf_n64 a) : vf_n64 (FP.dmul a (4620693217682128896 : UInt64)) := fp_dmul (s := false) (c := 2 ^ 52) (q := -49) (by decide +kernel) (by decide) h
theorem fp_e {a : UInt64} (h : vf_n64 a) : vf_n64 (FP.dmul a (4593671619917905920 : UInt64)) := fp_dmul (s := false) (c := 2 ^ 52) (q := -55) (by decide +kernel) (by decide) h
theorem fp_ef {a : UInt32} (h : vf_n32 a) : vf_n32 (FP.fmul a (1040187392 : UInt32)) := fp_fmul (s := false) (c := 2 ^ 23) (q := -26) (by decide +kernel) (by decide) h
theorem fp_dbl {a : UInt64} (h : vf_n64 a) : vf_n64 (FP.dadd a a) := by
  rw [fp64] at h ⊢
  show FP.Core.val64 (FP.Core.dadd a a) ≠ .nan
  rw [FP.Core.val64_dadd, Ne, FP.Core.round_nan]
  cases hd : FP.Core.val64 a with
  | nan => exact absurd hd h
  | inf t => simp [FP.Core.exactSum]
  | fin t e r => simp [FP.Core.exactSum]
theorem fp_0 : vf_n64 (0 : UInt64) := by unfold vf_n64; decide
/-! small rules -/
theorem ixs (a : Int32) {n : Nat} (hn : n < 2 ^ 31) : (∃ j : Nat, j < n ∧ a = nI j) ∨ (a < 0 ∨ nI n ≤ a) := by
  rcases pk_ix a hn with h | h | h
  · exact Or.inr (Or.inl h)
  · exact Or.inr (Or.inr h)
  · exact Or.inl h
theorem ix_lt {a : Int32} {n : Nat} (hn : n + 1 < 2 ^ 31) (h : a < 0 ∨ nI (n + 1) ≤ a) : a < 0 ∨ nI n < a := by
  rcases h with h | h
  · exact Or.inl h
  · refine Or.inr ?_
    rw [Int32.le_iff_toInt_le, nI_toInt hn] at h
    rw [Int32.lt_iff_toInt_lt, nI_toInt (by omega)]
    omega
theorem nI_inj {a b : Nat} (ha : a < 2 ^ 31) (hb : b < 2 ^ 31) (h : nI a = nI b) : a = b := (nI_eq ha hb).mp h
theorem bI_0 {b : Bool} : bI b = 0 ↔ b = false := by cases b <;> simp [bI]
theorem pC_below {a b : Int32} {post : Int32 → Prop} (h1 : ¬ a < 0) (h2 : ¬ b ≤ a) (hp : post 1) : w_C_isBelow a b post := br_f h1 (br_f h2 ⟨Or.inr rfl, hp⟩)
theorem pC_nbelow {a b : Int32} {post : Int32 → Prop} (h : a < 0 ∨ b ≤ a) (hp : post 0) : w_C_isBelow a b post := by
  by_cases h1 : a < 0
  · exact br_t h1 ⟨Or.inl rfl, hp⟩
  · exact br_f h1 (br_t (h.resolve_left h1) ⟨Or.inl rfl, hp⟩)
theorem pM_in {a b d : Int32} {post : Int32 → Prop} (h1 : ¬ a < b) (h2 : ¬ d < a) (hp : post 1) : w_M_in a b d post := br_f h1 (br_f h2 ⟨Or.inr rfl, hp⟩)
theorem pM_nin {a b d : Int32} {post : Int32 → Prop} (h : a < b ∨ d < a) (hp : post 0) : w_M_in a b d post := by
  by_cases h1 : a < b
  · exact br_t h1 ⟨Or.inl rfl, hp⟩
  · exact br_f h1 (br_t (h.resolve_left h1) ⟨Or.inl rfl, hp⟩)
theorem n01 : ¬ (1 : Int32) = 0 := by decide
/-! objects that are made -/
theorem kNew_up {K : KT} {q : Nat} {o o' : Ob} : ksO (kNew K q o) q o' = kNew K q o' := by
  unfold ksO kNew
  simp only [bx_uu]
theorem kNew_upR {K : KT} {q : Nat} {o o' : Ob} : ksR (kNew K q o) (some q) o' = kNew K q o' := kNew_up
theorem kob_new {K : KT} {q : Nat} {o : Ob} : kob (kNew K q o) (some q) = o := va_up_self _ _ _
theorem isT_new {K : KT} {q t : Nat} {o : Ob} (h : o.1 = t) : isT (kNew K q o) (some q) t := ⟨q, rfl, List.mem_append_right _ (List.mem_singleton_self q), by show (va_up (kO K) q o q).1 = t; rw [va_up_self]; exact h⟩
theorem okR_new {K : KT} {q : Nat} {o : Ob} (h : o.1 < 5) : okR (kNew K q o) (some q) := fun a e => by
  cases e
  exact ⟨List.mem_append_right _ (List.mem_singleton_self q), by show (va_up (kO K) q o q).1 < 5; rw [va_up_self]; exact h⟩
theorem rC_boxW {K : KT} {k : Int32} {w : Int64} {post : Option Nat → KT → Prop} (h : ∀ q : Nat, q ∉ kL K → post (some q) (kNew K q (0, k, w, FP.l2d w, 0, none, none, none, 0))) : w_C_boxOfWhole K k w post := by
  intro q hq
  unfold w_B_init w_H_init
  simp only [kNew_upR, kob_new]
  exact ⟨isT_new rfl, isT_new rfl, isT_new rfl, h q hq⟩
theorem rC_boxR {K : KT} {k : Int32} {d : UInt64} {post : Option Nat → KT → Prop} (h : ∀ q : Nat, q ∉ kL K → post (some q) (kNew K q (0, k, 0, d, 0, none, none, none, 0))) : w_C_boxOfReal K k d post := by
  intro q hq
  unfold w_B_init w_H_init
  simp only [kNew_upR, kob_new]
  exact ⟨isT_new rfl, isT_new rfl, isT_new rfl, h q hq⟩
theorem rC_T {K : KT} {q : Nat} {n : Int32} {post : KT → Prop} (h : post (kNew K q (4, n, 0, 0, 0, none, none, none, 0))) : w_T_init (kNew K q (ob0 4)) q n post := by
  unfold w_T_init w_H_init
  simp only [kNew_upR, kob_new]
  exact ⟨isT_new rfl, h⟩
theorem rC_P {K : KT} {q : Nat} {post : KT → Prop} (h : post (kNew K q (ob0 2))) : w_P_init (kNew K q (ob0 2)) q post := h
theorem rC_I {K : KT} {q : Nat} {n : Int32} {post : KT → Prop} (h : post (kNew K q (1, n, 0, 0, 0, none, none, none, 0))) : w_I_init (kNew K q (ob0 1)) q n post := by
  unfold w_I_init w_H_init
  simp only [kNew_upR, kob_new]
  exact ⟨Or.inl (isT_new rfl), h⟩
theorem rC_S {K : KT} {q : Nat} {n : Int32} {post : KT → Prop} (h : post (kNew K q (3, n + 1, 0, 0, 0, none, none, none, 5))) : w_S_init (kNew K q (ob0 3)) q n post := by
  unfold w_S_init w_I_init w_H_init
  simp only [kNew_upR, kob_new]
  exact ⟨Or.inr (isT_new rfl), isT_new rfl, h⟩
theorem e8c : (8 : Int32).toNatClampNeg = 8 := by decide
theorem vp8 : vp_in (8 : Int32) 9 := by unfold vp_in; decide
theorem rC_answer {K : KT} {r : Option Nat} {post : Int32 → KT → Prop} (h1 : okR K r) (h2 : post 0 (ksH K 8 r)) : w_C_answer K r post := ⟨h1, vp8, by rw [e8c]; exact h2⟩
/-! the reference's makers -/
theorem rM_create {M : MT} {s : Int32} {n : Nat} {post : Int32 → MT → Prop} (ho : m_objects M = nI n) (hn : n + 1 < 520) (h : post (nI (n + 1)) (ms_sort (ms_objects M (nI (n + 1))) (n + 1) s)) : w_M_create M s post := by
  unfold w_M_create
  have e1 : m_objects M + 1 = nI (n + 1) := by rw [ho]; exact nI_1 n
  rw [e1]
  have e2 : m_objects (ms_objects M (nI (n + 1))) = nI (n + 1) := rfl
  rw [e2, nI_clamp (show n + 1 < 2 ^ 31 by omega)]
  exact ⟨vp_in_nI hn (by omega), h⟩
theorem rM_box {M : MT} {k n : Nat} {post : Int32 → MT → Prop} (ho : m_objects M = nI n) (hn : n + 1 < 520) (h : post (nI (n + 1)) (ms_real (ms_whole (ms_sort (ms_objects M (nI (n + 1))) (n + 1) (nI (k + 1))) (n + 1) (m_wholeNow M)) (n + 1) (m_realNow M))) : w_M_box M (nI k) post := by
  unfold w_M_box
  rw [nI_1 k]
  refine rM_create ho hn ?_
  rw [nI_clamp (show n + 1 < 2 ^ 31 by omega)]
  exact ⟨vp_in_nI hn (by omega), vp_in_nI hn (by omega), h⟩
