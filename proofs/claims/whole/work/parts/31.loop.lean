/-! the law's loop -/
theorem lim {i L : Nat} (hL : L ≤ 2560) (hi : i ≤ 2600) : (Int32.ofNat L - 5 < nI i) ↔ L < i + 5 := by
  have e1 : (Int32.ofNat L).toInt = (L : Int) := nI_toInt (n := L) (by omega)
  have e2 : (nI i).toInt = (i : Int) := nI_toInt (by omega)
  have e3 : (Int32.ofNat L - 5).toInt = (L : Int) - 5 := by
    rw [Int32.toInt_sub, e1, show (5 : Int32).toInt = 5 from rfl]
    apply Int.bmod_eq_of_le <;> omega
  rw [Int32.lt_iff_toInt_lt, e2, e3]
  omega
theorem and15 (x : Int32) : ∃ k : Nat, k < 16 ∧ x &&& 15 = nI k := by
  have h : (x &&& 15).toBitVec.toNat ≤ 15 := by
    rw [Int32.toBitVec_and, BitVec.toNat_and]
    exact Nat.and_le_right
  have e : (x &&& 15).toInt = ((x &&& 15).toBitVec.toNat : Int) := by
    show (x &&& 15).toBitVec.toInt = _
    exact BitVec.toInt_eq_toNat_of_lt (by omega)
  refine ⟨(x &&& 15).toBitVec.toNat, by omega, ?_⟩
  apply Int32.toInt_inj.mp
  rw [e, nI_toInt (by omega)]
set_option maxHeartbeats 4000000 in
set_option maxRecDepth 100000 in
theorem law_loop {p : Program} {l : Launch} {e : Env} {s : State} {m : MethodId} {below : List Frame} {meth : Method} {c : Code} {D : va_G} {cA : ClassId} {CM : Nat → ClassId} {x hs : Nat} {AM : Nat → Nat} {b L : Nat} {xs : Nat → Int32} (hr : meth.sig.returnType = ret) (hlocks : meth.locks = false) (X : LC D cA CM p s m #[Value.ref b] c) (hX : va_X b L xs s s.heap) (hbl : b < s.heap.size) (hL : L ≤ 2560) :
    ∀ (n t : Nat) (H : Heap) (locs : List Loc) (cells slots : Nat) (K : KT) (M : MT) (ls : Array Slot), L < 5 * t + 5 * n + 5 → 5 * t ≤ L → LI D cA CM s x hs AM H locs K M → Sim t K M → lv_has ls 4 [(3, .int (nI (5 * t))), (2, .ref (AM 0)), (1, .ref x), (0, .ref b)] → cells ≤ 12 + t → slots ≤ 4195 + 7 * t → W p l e room_1 s m #[Value.ref b] below meth c H locs cells slots (lw_Z below #[Value.ref b] s) (F0 m 18 ls []) := by
  intro n
  induction n with
  | zero =>
    intro t H locs cells slots K M ls hn htL I hSim hl hc hs7
    refine lv_iload_n X.1 X.2.1 d_L_law_18 rfl (lv_at hl 0 rfl) ?_
    refine lv_aload_n X.1 X.2.1 d_L_law_19 rfl (lv_at hl 3 rfl) ?_
    refine va_slen (b := b) (L := L) (xs := xs) X.1 X.2.1 hX hbl (fun h => absurd (show s.heap.size ≤ b from h) (by omega)) I.1 d_L_law_20 ?_
    refine lv_iconst (v := (5 : Int32)) X.1 X.2.1 d_L_law_21 (by decide) ?_
    refine lv_isub X.1 X.2.1 d_L_law_22 ?_
    refine lv_icmp_gt (tgt := 602) X.1 X.2.1 d_L_law_23 (by decide) (fun _ => ?_) (fun h => absurd ((lim (i := 5 * t) hL (by omega)).mpr (by omega)) h)
    refine va_forget (fun q hq => I.1.2.2 q hq) (W.widen (show cells ≤ 600000 by omega) (show slots ≤ 7302250 by omega) ?_)
    refine lv_iconst (v := (1 : Int32)) X.1 X.2.1 d_L_law_602 (by decide) ?_
    exact lw_ret X.1 X.2.1 hr hlocks d_L_law_603
  | succ n ih =>
    intro t H locs cells slots K M ls hn htL I hSim hl hc hs7
    refine lv_iload_n X.1 X.2.1 d_L_law_18 rfl (lv_at hl 0 rfl) ?_
    refine lv_aload_n X.1 X.2.1 d_L_law_19 rfl (lv_at hl 3 rfl) ?_
    refine va_slen (b := b) (L := L) (xs := xs) X.1 X.2.1 hX hbl (fun h => absurd (show s.heap.size ≤ b from h) (by omega)) I.1 d_L_law_20 ?_
    refine lv_iconst (v := (5 : Int32)) X.1 X.2.1 d_L_law_21 (by decide) ?_
    refine lv_isub X.1 X.2.1 d_L_law_22 ?_
    refine lv_icmp_gt (tgt := 602) X.1 X.2.1 d_L_law_23 (by decide) (fun _ => ?_) (fun hng => ?_)
    · refine va_forget (fun q hq => I.1.2.2 q hq) (W.widen (show cells ≤ 600000 by omega) (show slots ≤ 7302250 by omega) ?_)
      refine lv_iconst (v := (1 : Int32)) X.1 X.2.1 d_L_law_602 (by decide) ?_
      exact lw_ret X.1 X.2.1 hr hlocks d_L_law_603
    · have h5 : 5 * t + 5 ≤ L := by
        rw [lim (i := 5 * t) hL (by omega)] at hng
        omega
      have kk : ∀ (H1 : Heap) (locs1 : List Loc) (K1 : KT) (M1 : MT) (cells1 slots1 : Nat), LI D cA CM s x hs AM H1 locs1 K1 M1 → Sim (t + 1) K1 M1 → cells1 ≤ cells + 1 → slots1 ≤ slots + 7 → W p l e room_1 s m #[Value.ref b] below meth c H1 locs1 cells1 slots1 (lw_Z below #[Value.ref b] s) (F0 m 596 ls []) := by
        intro H1 locs1 K1 M1 cells1 slots1 I1 hS1 g1 g2
        refine lv_iinc (v := nI (5 * (t + 1))) (lv' := [(3, .int (nI (5 * (t + 1)))), (2, .ref (AM 0)), (1, .ref x), (0, .ref b)]) X.1 X.2.1 d_L_law_596 hl (k := 0) rfl (nI_add (5 * t) 5) (by decide) rfl (fun ls1 hl1 => ?_)
        refine lv_goto (tgt := 18) X.1 X.2.1 d_L_law_599 (by decide) ?_
        exact ih (t + 1) H1 locs1 cells1 slots1 K1 M1 ls1 (by omega) (by omega) I1 hS1 hl1 (by omega) (by omega)
      have hc1 : cells + 1 ≤ 600000 := by omega
      have hs1 : slots + 7 ≤ 7302250 := by omega
      refine lv_aload_n X.1 X.2.1 d_L_law_26 rfl (lv_at hl 3 rfl) ?_
      refine lv_iload_n X.1 X.2.1 d_L_law_27 rfl (lv_at hl 0 rfl) ?_
      refine va_sld (b := b) (L := L) (xs := xs) X.1 X.2.1 hX hbl (fun h => absurd (show s.heap.size ≤ b from h) (by omega)) I.1 (vp_in_nI (by omega) (by omega)) d_L_law_28 ?_
      refine lv_bipush (v := (15 : Int32)) X.1 X.2.1 d_L_law_29 (by decide) ?_
      refine lv_iand X.1 X.2.1 d_L_law_31 ?_
      generalize xs (nI (5 * t)).toNatClampNeg = w
      obtain ⟨k, hk, ek⟩ := and15 w
      rw [ek]
      rcases (show k = 0 ∨ k = 1 ∨ k = 2 ∨ k = 3 ∨ k = 4 ∨ k = 5 ∨ k = 6 ∨ k = 7 ∨ k = 8 ∨ k = 9 ∨ k = 10 ∨ k = 11 ∨ k = 12 ∨ k = 13 ∨ k = 14 ∨ k = 15 by omega) with rfl | rfl | rfl | rfl | rfl | rfl | rfl | rfl | rfl | rfl | rfl | rfl | rfl | rfl | rfl | rfl
      · exact lv_tableIn (tgt := 96) (off := 64) X.1 X.2.1 d_L_law_32 (by decide) (by decide) (by decide) (by decide) (lw_case_put X hX hbl hL I hSim h5 hl hc1 hs1 kk)
      · exact lv_tableIn (tgt := 169) (off := 137) X.1 X.2.1 d_L_law_32 (by decide) (by decide) (by decide) (by decide) (lw_case_hold X hX hbl hL I hSim h5 hl hc1 hs1 kk)
      · exact lv_tableIn (tgt := 202) (off := 170) X.1 X.2.1 d_L_law_32 (by decide) (by decide) (by decide) (by decide) (lw_case_make X hX hbl hL I hSim h5 hl hc1 hs1 kk)
      · exact lv_tableIn (tgt := 261) (off := 229) X.1 X.2.1 d_L_law_32 (by decide) (by decide) (by decide) (by decide) (lw_case_get X hX hbl hL I hSim h5 hl hc1 hs1 kk)
      · exact lv_tableIn (tgt := 294) (off := 262) X.1 X.2.1 d_L_law_32 (by decide) (by decide) (by decide) (by decide) (lw_case_getAs X hX hbl hL I hSim h5 hl hc1 hs1 kk)
      · exact lv_tableIn (tgt := 337) (off := 305) X.1 X.2.1 d_L_law_32 (by decide) (by decide) (by decide) (by decide) (lw_case_set X hX hbl hL I hSim h5 hl hc1 hs1 kk)
      · exact lv_tableIn (tgt := 380) (off := 348) X.1 X.2.1 d_L_law_32 (by decide) (by decide) (by decide) (by decide) (lw_case_invoke X hX hbl hL I hSim h5 hl hc1 hs1 kk)
      · exact lv_tableIn (tgt := 433) (off := 401) X.1 X.2.1 d_L_law_32 (by decide) (by decide) (by decide) (by decide) (lw_case_cast X hX hbl hL I hSim h5 hl hc1 hs1 kk)
      · exact lv_tableIn (tgt := 466) (off := 434) X.1 X.2.1 d_L_law_32 (by decide) (by decide) (by decide) (by decide) (lw_case_last X hX hbl hL I hSim h5 hl hc1 hs1 kk)
      · exact lv_tableIn (tgt := 480) (off := 448) X.1 X.2.1 d_L_law_32 (by decide) (by decide) (by decide) (by decide) (lw_case_look X hX hbl hL I hSim h5 hl hc1 hs1 kk)
      · exact lv_tableIn (tgt := 529) (off := 497) X.1 X.2.1 d_L_law_32 (by decide) (by decide) (by decide) (by decide) (lw_case_value X hX hbl hL I hSim h5 hl hc1 hs1 kk)
      · exact lv_tableIn (tgt := 553) (off := 521) X.1 X.2.1 d_L_law_32 (by decide) (by decide) (by decide) (by decide) (lw_case_typed X hX hbl hL I hSim h5 hl hc1 hs1 kk)
      · exact lv_tableOut (tgt := 596) X.1 X.2.1 d_L_law_32 (by decide) (by decide) (kk H locs K M cells slots I (hSim.up (Nat.le_succ t)) (by omega) (by omega))
      · exact lv_tableOut (tgt := 596) X.1 X.2.1 d_L_law_32 (by decide) (by decide) (kk H locs K M cells slots I (hSim.up (Nat.le_succ t)) (by omega) (by omega))
      · exact lv_tableOut (tgt := 596) X.1 X.2.1 d_L_law_32 (by decide) (by decide) (kk H locs K M cells slots I (hSim.up (Nat.le_succ t)) (by omega) (by omega))
      · exact lv_tableOut (tgt := 596) X.1 X.2.1 d_L_law_32 (by decide) (by decide) (kk H locs K M cells slots I (hSim.up (Nat.le_succ t)) (by omega) (by omega))
