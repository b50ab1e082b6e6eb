/-! numbers: floorMod, ranges -/
theorem bm64 {x : Int} (h1 : -9223372036854775808 ≤ x) (h2 : x < 9223372036854775808) : x.bmod (2 ^ 64) = x := by
  apply Int.bmod_eq_of_le <;> omega
theorem kfm10 (v : Int64) : ∃ t : Nat, t ≤ 9 ∧ (∀ post : Int64 → Prop, post (lN t) → w_J_floorMod v 10 post) ∧ ((v - v / 10 * 10 + 10) - (v - v / 10 * 10 + 10) / 10 * 10 = lN t) := by
  have hv1 := v.le_toInt
  have hv2 := v.toInt_lt
  have e10 : (10 : Int64).toInt = 10 := rfl
  have hd : (v / 10).toInt = v.toInt.tdiv 10 := by rw [Int64.toInt_div_of_ne_right v 10 (by decide), e10]
  have hm := Int.mul_tdiv_add_tmod v.toInt 10
  obtain ⟨b1, b2⟩ := tmod_bounds (a := v.toInt) (M := 10) (by decide)
  have b3 : 0 ≤ v.toInt → 0 ≤ v.toInt.tmod 10 := fun h => Int.tmod_nonneg 10 h
  have b4 : v.toInt < 0 → v.toInt.tmod 10 ≤ 0 := fun h => by
    have q := Int.tmod_nonneg (a := -v.toInt) 10 (by omega)
    rw [Int.neg_tmod] at q
    omega
  generalize v.toInt.tdiv 10 = d at hd hm
  generalize v.toInt.tmod 10 = m at hm b1 b2 b3 b4
  have hz : (v - v / 10 * 10).toInt = m := by
    rw [Int64.toInt_sub, Int64.toInt_mul, hd, e10, bm64 (x := d * 10) (by omega) (by omega), bm64 (by omega) (by omega)]
    omega
  have s1 : (v ^^^ 10).toBitVec.msb = v.toBitVec.msb := by
    rw [Int64.toBitVec_xor, BitVec.msb_xor]
    have q : (10 : Int64).toBitVec.msb = false := by decide
    rw [q, Bool.xor_false]
  rw [BitVec.msb_eq_toInt, BitVec.msb_eq_toInt] at s1
  have s2 : (v ^^^ 10).toInt < 0 ↔ v.toInt < 0 := decide_eq_decide.mp s1
  unfold w_J_floorMod
  generalize v - v / 10 * 10 = z at hz ⊢
  have hz10 : (z + 10).toInt = m + 10 := by rw [Int64.toInt_add, hz, e10, bm64 (by omega) (by omega)]
  obtain ⟨u, hu⟩ : ∃ u : Nat, (u : Int) = m + 10 := ⟨(m + 10).toNat, by omega⟩
  have ez : z + 10 = lN u := by
    apply Int64.toInt_inj.mp
    rw [hz10, pk_lT (by omega), hu]
  have hmod : lN u - lN u / lN 10 * lN 10 = lN (u % 10) := pk_lRem (by omega) (by omega) (by omega)
  refine ⟨u % 10, by omega, fun post hp => ⟨by decide, ?_⟩, by rw [ez]; exact hmod⟩
  by_cases hx : (0 : Int32) ≤ lg_cmp (v ^^^ 10) 0
  · refine br_t hx ?_
    rw [lg_cmp_ge, Int64.le_iff_toInt_le] at hx
    have h0 : (0 : Int64).toInt = 0 := rfl
    have : z = lN (u % 10) := by
      apply Int64.toInt_inj.mp
      rw [hz, pk_lT (by omega)]
      omega
    rw [this]
    exact hp
  · refine br_f hx ?_
    rw [lg_cmp_ge, Int64.le_iff_toInt_le] at hx
    have h0 : (0 : Int64).toInt = 0 := rfl
    by_cases hz0 : lg_cmp z 0 = 0
    · refine br_t hz0 ?_
      rw [lg_cmp_eq] at hz0
      have : z = lN (u % 10) := by
        apply Int64.toInt_inj.mp
        rw [pk_lT (by omega)]
        rw [hz0, h0] at hz
        rw [hz0, h0]
        omega
      rw [this]
      exact hp
    · refine br_f hz0 ?_
      rw [lg_cmp_eq, ← Int64.toInt_inj, hz, h0] at hz0
      rw [ez]
      have : u % 10 = u := by omega
      rw [this] at hp
      exact hp
theorem and_small (v c : Int64) (hc : c.toBitVec.toNat < 2 ^ 31) : (v &&& c).toInt32.toInt64 = v &&& c := by
  apply Int64.toInt_inj.mp
  rw [Int32.toInt_toInt64, Int64.toInt_toInt32]
  have h : (v &&& c).toBitVec.toNat ≤ c.toBitVec.toNat := by
    rw [Int64.toBitVec_and, BitVec.toNat_and]
    exact Nat.and_le_right
  have e : (v &&& c).toInt = ((v &&& c).toBitVec.toNat : Int) := by
    show (v &&& c).toBitVec.toInt = _
    exact BitVec.toInt_eq_toNat_of_lt (by omega)
  rw [e]
  apply Int.bmod_eq_of_le <;> omega
theorem rng_0 (v : Int64) : rng 0 (v &&& 1) := ⟨fun h => absurd h (by decide), fun h => absurd h (by decide), fun _ => and_small v 1 (by decide)⟩
theorem rng_1 (x : Int8) : rng 1 x.toInt32.toInt64 := ⟨fun _ => by rw [Int32.toInt32_toInt64, Int8.toInt8_toInt32], fun h => absurd h (by decide), fun _ => by rw [Int32.toInt32_toInt64]⟩
theorem rng_2 (v : Int64) : rng 2 (v &&& 65535) := ⟨fun h => absurd h (by decide), fun h => absurd h (by decide), fun _ => and_small v 65535 (by decide)⟩
theorem rng_3 (x : Int16) : rng 3 x.toInt32.toInt64 := ⟨fun h => absurd h (by decide), fun _ => by rw [Int32.toInt32_toInt64, Int16.toInt16_toInt32], fun _ => by rw [Int32.toInt32_toInt64]⟩
theorem rng_4 (x : Int32) : rng 4 x.toInt64 := ⟨fun h => absurd h (by decide), fun h => absurd h (by decide), fun _ => by rw [Int32.toInt32_toInt64]⟩
theorem rng_5 (v : Int64) : rng 5 v := ⟨fun h => absurd h (by decide), fun h => absurd h (by decide), fun h => absurd h (by decide)⟩
theorem vf_us {f : Nat → UInt64} {k : Nat} {x : UInt64} : vf_upd f k x k = x := if_pos rfl
theorem vf_un {f : Nat → UInt64} {k j : Nat} {x : UInt64} (h : j ≠ k) : vf_upd f k x j = f j := if_neg h
/-! an object is made on both sides -/
theorem rfi_new {ad : Nat → Nat} {n q : Nat} : some q = rfi (va_up ad (n + 1) q) (n + 1) := by
  unfold rfi
  rw [if_neg (by omega), va_up_self]
theorem sim_made {N n : Nat} {ad : Nat → Nat} {K K' : KT} {M M' : MT} (hn : n ≤ N) (hs : kSh K = m_shared M) (hC : SS n ad K M) {q h : Nat} {o : Ob} (hq : q ∉ kL K)
    (k1 : kH K' = va_up (kH K) h (some q)) (k2 : kSh K' = kSh K) (k3 : kLa K' = 0) (k4 : kL K' = kL K ++ [q]) (k5 : kO K' = va_up (kO K) q o)
    (m1 : m_objects M' = nI (n + 1)) (m2 : m_held M' = upd (m_held M) h (nI (n + 1))) (m3 : m_shared M' = m_shared M) (m4 : m_last M' = 0)
    (e1 : ∀ i, i ≠ n + 1 → m_sort M' i = m_sort M i) (e2 : ∀ i, i ≠ n + 1 → m_whole M' i = m_whole M i) (e3 : ∀ i, i ≠ n + 1 → m_real M' i = m_real M i) (e5 : ∀ i, i ≠ n + 1 → m_extra M' i = m_extra M i)
    (f4 : m_small M' = m_small M) (f6 : m_text M' = m_text M) (f7 : m_any M' = m_any M) (f8 : m_next M' = m_next M)
    {s : Int32} {w : Int64} {r : UInt64} {x : Int32} (v1 : m_sort M' (n + 1) = s) (v2 : m_whole M' (n + 1) = w) (v3 : m_real M' (n + 1) = r) (v5 : m_extra M' (n + 1) = x)
    (ho : OR (n + 1) (va_up ad (n + 1) q) o s w r 0 x 0 0 0) : Sim (N + 1) K' M' := by
  obtain ⟨-, -, -, -, h4⟩ := id hC
  obtain ⟨d2, d3, d4, d5, d6, d7, d8⟩ := h4 (n + 1) (by omega)
  refine ⟨n + 1, va_up ad (n + 1) q, by omega, m1, by rw [k2, m3, hs], by rw [k3, m4], ?_⟩
  show SC (n + 1) (va_up ad (n + 1) q) (kH K') (kL K') (kO K') (m_sort M') (m_whole M') (m_real M') (m_small M') (m_extra M') (m_text M') (m_any M') (m_next M') (m_held M')
  rw [k1, k4, k5, m2, f4, f6, f7, f8]
  refine sc_held (sc_new hC hq e1 e2 e3 (fun _ _ => rfl) e5 (fun _ _ => rfl) (fun _ _ => rfl) (fun _ _ => rfl) ?_) ⟨n + 1, Nat.le_refl _, rfl, rfi_new⟩
  rw [v1, v2, v3, v5, d4, d6, d7, d8]
  exact ho
theorem sim_box {N n : Nat} {ad : Nat → Nat} {K : KT} {M : MT} (hn : n ≤ N) (hs : kSh K = m_shared M) (hC : SS n ad K M) {q h k : Nat} {lw : Int64} {d : UInt64} (hq : q ∉ kL K) (hk : k < 8)
    (c1 : k < 6 → lw = m_wholeNow M ∧ d = FP.l2d (m_wholeNow M) ∧ rng k (m_wholeNow M)) (c2 : 6 ≤ k → d = m_realNow M ∧ vf_n64 (m_realNow M)) :
    Sim (N + 1) (ksH (kNew (ksLa K 0) q (0, nI k, lw, d, 0, none, none, none, 0)) h (some q)) (ms_last (ms_held (ms_real (ms_whole (ms_sort (ms_objects M (nI (n + 1))) (n + 1) (nI (k + 1))) (n + 1) (m_wholeNow M)) (n + 1) (m_realNow M)) h (nI (n + 1))) 0) := by
  obtain ⟨-, -, -, -, h4⟩ := id hC
  obtain ⟨d2, d3, d4, d5, d6, d7, d8⟩ := h4 (n + 1) (by omega)
  refine sim_made (M := M) hn hs hC hq rfl rfl rfl rfl rfl rfl rfl rfl rfl (fun i hi => pk_un hi) (fun i hi => pk_uLn hi) (fun i hi => vf_un hi) (fun _ _ => rfl) rfl rfl rfl rfl pk_us pk_uLs vf_us d5 ?_
  exact Or.inl ⟨k, hk, rfl, rfl, rfl, c1, c2⟩
