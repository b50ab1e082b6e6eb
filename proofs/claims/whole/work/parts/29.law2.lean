/-! the cases of the law -/
set_option maxHeartbeats 4000000 in
set_option maxRecDepth 100000 in
theorem lw_case_put {p : Program} {l : Launch} {e : Env} {s : State} {m : MethodId} {args : Array Value} {below : List Frame} {meth : Method} {c : Code} {H : Heap} {locs : List Loc} {cells slots : Nat} {Q : State → Prop} {ls : Array Slot} {D : va_G} {cA : ClassId} {CM : Nat → ClassId} {x hs : Nat} {AM : Nat → Nat} {K : KT} {M : MT} {b L t : Nat} {xs : Nat → Int32} (X : LC D cA CM p s m args c) (hX : va_X b L xs s s.heap) (hbl : b < s.heap.size) (hL : L ≤ 2560) (I : LI D cA CM s x hs AM H locs K M) (hSim : Sim t K M) (ht : 5 * t + 5 ≤ L) (hl : lv_has ls 4 [(3, .int (nI (5 * t))), (2, .ref (AM 0)), (1, .ref x), (0, .ref b)]) (hc : cells + 1 ≤ 600000) (hs7 : slots + 7 ≤ 7302250)
    (kk : ∀ (H1 : Heap) (locs1 : List Loc) (K1 : KT) (M1 : MT) (cells1 slots1 : Nat), LI D cA CM s x hs AM H1 locs1 K1 M1 → Sim (t + 1) K1 M1 → cells1 ≤ cells + 1 → slots1 ≤ slots + 7 → W p l e room_1 s m args below meth c H1 locs1 cells1 slots1 Q (F0 m 596 ls [])) : W p l e room_1 s m args below meth c H locs cells slots Q (F0 m 96 ls []) := by
  have hN : t + 1 < 520 := by omega
  have hN0 : t < 520 := by omega
  refine lv_aload_n X.1 X.2.1 d_L_law_96 rfl (lv_at hl 2 rfl) ?_
  refine lld (b := b) (L := L) (xs := xs) (i := 5 * t) (j := 1) (v := 1) X hX hbl hL I.1 (lv_at hl 3 rfl) (lv_at hl 0 rfl) (by decide) (by decide) (by omega) d_L_law_97 d_L_law_98 d_L_law_99 d_L_law_100 d_L_law_101 ?_
  refine lld (b := b) (L := L) (xs := xs) (i := 5 * t) (j := 2) (v := 2) X hX hbl hL I.1 (lv_at hl 3 rfl) (lv_at hl 0 rfl) (by decide) (by decide) (by omega) d_L_law_102 d_L_law_103 d_L_law_104 d_L_law_105 d_L_law_106 ?_
  refine lld (b := b) (L := L) (xs := xs) (i := 5 * t) (j := 3) (v := 3) X hX hbl hL I.1 (lv_at hl 3 rfl) (lv_at hl 0 rfl) (by decide) (by decide) (by omega) d_L_law_107 d_L_law_108 d_L_law_109 d_L_law_110 d_L_law_111 ?_
  refine lv_i2l X.1 X.2.1 d_L_law_112 rfl ?_
  refine lv_bipush (v := (32 : Int32)) X.1 X.2.1 d_L_law_113 (by decide) ?_
  refine lv_lshl X.1 X.2.1 d_L_law_115 rfl ?_
  refine lld (b := b) (L := L) (xs := xs) (i := 5 * t) (j := 4) (v := 4) X hX hbl hL I.1 (lv_at hl 3 rfl) (lv_at hl 0 rfl) (by decide) (by decide) (by omega) d_L_law_116 d_L_law_117 d_L_law_118 d_L_law_119 d_L_law_120 ?_
  refine lv_i2l X.1 X.2.1 d_L_law_121 rfl ?_
  refine lv_ldc2 X.1 X.2.1 X.2.2.2.1 (X.2.2.2.2.1 _ wd_568) d_L_law_122 ?_
  refine lv_land X.1 X.2.1 d_L_law_125 ?_
  refine lv_lor X.1 X.2.1 d_L_law_126 ?_
  refine lC_i (KK := fun u => u) X I hl.1 (c_C_put l D (AC s AM) cA x hs K (xs (5 * t + 1)) (xs (5 * t + 2)) (((xs (5 * t + 3)).toInt64 <<< ((32 : Int32).toInt64 &&& 63)) ||| ((xs (5 * t + 4)).toInt64 &&& 4294967295)) _ (sim_put hN hSim (xs (5 * t + 1)) (xs (5 * t + 2)) (((xs (5 * t + 3)).toInt64 <<< ((32 : Int32).toInt64 &&& 63)) ||| ((xs (5 * t + 4)).toInt64 &&& 4294967295)))) rfl ki_C_put wd_31 wd_32 wd_33 ⟨rfl, rfl, (Nat.le_of_ble_eq_true rfl), (Nat.le_of_ble_eq_true rfl)⟩ rfl rfl (Nat.le_of_ble_eq_true rfl) d_L_law_127 (show cells + 1 ≤ 600000 ∧ slots + 3 ≤ 7302250 by omega) (fun r K1 H1 locs1 hq I1 => ?_)
  refine lv_aload_n X.1 X.2.1 d_L_law_130 rfl (lv_at hl 1 rfl) ?_
  refine lld (b := b) (L := L) (xs := xs) (i := 5 * t) (j := 1) (v := 1) X hX hbl hL I1.1 (lv_at hl 3 rfl) (lv_at hl 0 rfl) (by decide) (by decide) (by omega) d_L_law_131 d_L_law_132 d_L_law_133 d_L_law_134 d_L_law_135 ?_
  refine lld (b := b) (L := L) (xs := xs) (i := 5 * t) (j := 2) (v := 2) X hX hbl hL I1.1 (lv_at hl 3 rfl) (lv_at hl 0 rfl) (by decide) (by decide) (by omega) d_L_law_136 d_L_law_137 d_L_law_138 d_L_law_139 d_L_law_140 ?_
  refine lld (b := b) (L := L) (xs := xs) (i := 5 * t) (j := 3) (v := 3) X hX hbl hL I1.1 (lv_at hl 3 rfl) (lv_at hl 0 rfl) (by decide) (by decide) (by omega) d_L_law_141 d_L_law_142 d_L_law_143 d_L_law_144 d_L_law_145 ?_
  refine lv_i2l X.1 X.2.1 d_L_law_146 rfl ?_
  refine lv_bipush (v := (32 : Int32)) X.1 X.2.1 d_L_law_147 (by decide) ?_
  refine lv_lshl X.1 X.2.1 d_L_law_149 rfl ?_
  refine lld (b := b) (L := L) (xs := xs) (i := 5 * t) (j := 4) (v := 4) X hX hbl hL I1.1 (lv_at hl 3 rfl) (lv_at hl 0 rfl) (by decide) (by decide) (by omega) d_L_law_150 d_L_law_151 d_L_law_152 d_L_law_153 d_L_law_154 ?_
  refine lv_i2l X.1 X.2.1 d_L_law_155 rfl ?_
  refine lv_ldc2 X.1 X.2.1 X.2.2.2.1 (X.2.2.2.2.1 _ wd_568) d_L_law_156 ?_
  refine lv_land X.1 X.2.1 d_L_law_159 ?_
  refine lv_lor X.1 X.2.1 d_L_law_160 ?_
  refine lM_i (MM := fun u => u) X I1 hl.1 (fun A => c_M_put l D A AM CM M (xs (5 * t + 1)) (xs (5 * t + 2)) (((xs (5 * t + 3)).toInt64 <<< ((32 : Int32).toInt64 &&& 63)) ||| ((xs (5 * t + 4)).toInt64 &&& 4294967295)) _ hq) rfl ki_M_put wd_418 wd_419 wd_420 ⟨rfl, rfl, (Nat.le_of_ble_eq_true rfl), (Nat.le_of_ble_eq_true rfl)⟩ rfl rfl (Nat.le_of_ble_eq_true rfl) d_L_law_161 (show cells + 1 + 0 ≤ 600000 ∧ slots + 3 + 0 ≤ 7302250 by omega) (fun r2 M1 H2 locs2 hq2 I2 => ?_)
  exact lv_icmp_eq (tgt := 596) X.1 X.2.1 d_L_law_164 (by decide) (fun _ => kk H2 locs2 K1 M1 _ _ I2 hq2.2 (show cells + 1 + 0 ≤ cells + 1 by omega) (show slots + 3 + 0 ≤ slots + 7 by omega)) (fun h => absurd hq2.1 h)
set_option maxHeartbeats 4000000 in
set_option maxRecDepth 100000 in
theorem lw_case_hold {p : Program} {l : Launch} {e : Env} {s : State} {m : MethodId} {args : Array Value} {below : List Frame} {meth : Method} {c : Code} {H : Heap} {locs : List Loc} {cells slots : Nat} {Q : State → Prop} {ls : Array Slot} {D : va_G} {cA : ClassId} {CM : Nat → ClassId} {x hs : Nat} {AM : Nat → Nat} {K : KT} {M : MT} {b L t : Nat} {xs : Nat → Int32} (X : LC D cA CM p s m args c) (hX : va_X b L xs s s.heap) (hbl : b < s.heap.size) (hL : L ≤ 2560) (I : LI D cA CM s x hs AM H locs K M) (hSim : Sim t K M) (ht : 5 * t + 5 ≤ L) (hl : lv_has ls 4 [(3, .int (nI (5 * t))), (2, .ref (AM 0)), (1, .ref x), (0, .ref b)]) (hc : cells + 1 ≤ 600000) (hs7 : slots + 7 ≤ 7302250)
    (kk : ∀ (H1 : Heap) (locs1 : List Loc) (K1 : KT) (M1 : MT) (cells1 slots1 : Nat), LI D cA CM s x hs AM H1 locs1 K1 M1 → Sim (t + 1) K1 M1 → cells1 ≤ cells + 1 → slots1 ≤ slots + 7 → W p l e room_1 s m args below meth c H1 locs1 cells1 slots1 Q (F0 m 596 ls [])) : W p l e room_1 s m args below meth c H locs cells slots Q (F0 m 169 ls []) := by
  have hN : t + 1 < 520 := by omega
  have hN0 : t < 520 := by omega
  refine lv_aload_n X.1 X.2.1 d_L_law_169 rfl (lv_at hl 2 rfl) ?_
  refine lld (b := b) (L := L) (xs := xs) (i := 5 * t) (j := 1) (v := 1) X hX hbl hL I.1 (lv_at hl 3 rfl) (lv_at hl 0 rfl) (by decide) (by decide) (by omega) d_L_law_170 d_L_law_171 d_L_law_172 d_L_law_173 d_L_law_174 ?_
  refine lld (b := b) (L := L) (xs := xs) (i := 5 * t) (j := 2) (v := 2) X hX hbl hL I.1 (lv_at hl 3 rfl) (lv_at hl 0 rfl) (by decide) (by decide) (by omega) d_L_law_175 d_L_law_176 d_L_law_177 d_L_law_178 d_L_law_179 ?_
  refine lC_i (KK := fun u => u) X I hl.1 (c_C_hold l D (AC s AM) cA x hs K (xs (5 * t + 1)) (xs (5 * t + 2)) _ (sim_hold hSim (xs (5 * t + 1)) (xs (5 * t + 2)))) rfl ki_C_hold wd_87 wd_88 wd_89 ⟨rfl, rfl, (Nat.le_of_ble_eq_true rfl), (Nat.le_of_ble_eq_true rfl)⟩ rfl rfl (Nat.le_of_ble_eq_true rfl) d_L_law_180 (show cells + 0 ≤ 600000 ∧ slots + 0 ≤ 7302250 by omega) (fun r K1 H1 locs1 hq I1 => ?_)
  refine lv_aload_n X.1 X.2.1 d_L_law_183 rfl (lv_at hl 1 rfl) ?_
  refine lld (b := b) (L := L) (xs := xs) (i := 5 * t) (j := 1) (v := 1) X hX hbl hL I1.1 (lv_at hl 3 rfl) (lv_at hl 0 rfl) (by decide) (by decide) (by omega) d_L_law_184 d_L_law_185 d_L_law_186 d_L_law_187 d_L_law_188 ?_
  refine lld (b := b) (L := L) (xs := xs) (i := 5 * t) (j := 2) (v := 2) X hX hbl hL I1.1 (lv_at hl 3 rfl) (lv_at hl 0 rfl) (by decide) (by decide) (by omega) d_L_law_189 d_L_law_190 d_L_law_191 d_L_law_192 d_L_law_193 ?_
  refine lM_i (MM := fun u => u) X I1 hl.1 (fun A => c_M_hold l D A AM CM M (xs (5 * t + 1)) (xs (5 * t + 2)) _ hq) rfl ki_M_hold wd_441 wd_442 wd_443 ⟨rfl, rfl, (Nat.le_of_ble_eq_true rfl), (Nat.le_of_ble_eq_true rfl)⟩ rfl rfl (Nat.le_of_ble_eq_true rfl) d_L_law_194 (show cells + 0 + 0 ≤ 600000 ∧ slots + 0 + 0 ≤ 7302250 by omega) (fun r2 M1 H2 locs2 hq2 I2 => ?_)
  exact lv_icmp_eq (tgt := 596) X.1 X.2.1 d_L_law_197 (by decide) (fun _ => kk H2 locs2 K1 M1 _ _ I2 (hq2.2.up (Nat.le_succ t)) (show cells + 0 + 0 ≤ cells + 1 by omega) (show slots + 0 + 0 ≤ slots + 7 by omega)) (fun h => absurd hq2.1 h)
set_option maxHeartbeats 4000000 in
set_option maxRecDepth 100000 in
theorem lw_case_make {p : Program} {l : Launch} {e : Env} {s : State} {m : MethodId} {args : Array Value} {below : List Frame} {meth : Method} {c : Code} {H : Heap} {locs : List Loc} {cells slots : Nat} {Q : State → Prop} {ls : Array Slot} {D : va_G} {cA : ClassId} {CM : Nat → ClassId} {x hs : Nat} {AM : Nat → Nat} {K : KT} {M : MT} {b L t : Nat} {xs : Nat → Int32} (X : LC D cA CM p s m args c) (hX : va_X b L xs s s.heap) (hbl : b < s.heap.size) (hL : L ≤ 2560) (I : LI D cA CM s x hs AM H locs K M) (hSim : Sim t K M) (ht : 5 * t + 5 ≤ L) (hl : lv_has ls 4 [(3, .int (nI (5 * t))), (2, .ref (AM 0)), (1, .ref x), (0, .ref b)]) (hc : cells + 1 ≤ 600000) (hs7 : slots + 7 ≤ 7302250)
    (kk : ∀ (H1 : Heap) (locs1 : List Loc) (K1 : KT) (M1 : MT) (cells1 slots1 : Nat), LI D cA CM s x hs AM H1 locs1 K1 M1 → Sim (t + 1) K1 M1 → cells1 ≤ cells + 1 → slots1 ≤ slots + 7 → W p l e room_1 s m args below meth c H1 locs1 cells1 slots1 Q (F0 m 596 ls [])) : W p l e room_1 s m args below meth c H locs cells slots Q (F0 m 202 ls []) := by
  have hN : t + 1 < 520 := by omega
  have hN0 : t < 520 := by omega
  by_cases hz : xs (5 * t + 2) = 0
  · refine lv_aload_n X.1 X.2.1 d_L_law_202 rfl (lv_at hl 2 rfl) ?_
    refine lld (b := b) (L := L) (xs := xs) (i := 5 * t) (j := 1) (v := 1) X hX hbl hL I.1 (lv_at hl 3 rfl) (lv_at hl 0 rfl) (by decide) (by decide) (by omega) d_L_law_203 d_L_law_204 d_L_law_205 d_L_law_206 d_L_law_207 ?_
    refine lld (b := b) (L := L) (xs := xs) (i := 5 * t) (j := 2) (v := 2) X hX hbl hL I.1 (lv_at hl 3 rfl) (lv_at hl 0 rfl) (by decide) (by decide) (by omega) d_L_law_208 d_L_law_209 d_L_law_210 d_L_law_211 d_L_law_212 ?_
    refine lv_if_eq (tgt := 220) X.1 X.2.1 d_L_law_213 (by decide) (fun _ => ?_) (fun h => absurd hz h)
    refine lv_iconst (v := (0 : Int32)) X.1 X.2.1 d_L_law_220 (by decide) ?_
    refine lld (b := b) (L := L) (xs := xs) (i := 5 * t) (j := 3) (v := 3) X hX hbl hL I.1 (lv_at hl 3 rfl) (lv_at hl 0 rfl) (by decide) (by decide) (by omega) d_L_law_221 d_L_law_222 d_L_law_223 d_L_law_224 d_L_law_225 ?_
    refine lC_i (KK := fun u => u) X I hl.1 (c_C_make l D (AC s AM) cA x hs K (xs (5 * t + 1)) 0 (xs (5 * t + 3)) _ (sim_make hN hSim (xs (5 * t + 1)) 0 (xs (5 * t + 3)))) rfl ki_C_make wd_91 wd_92 wd_93 ⟨rfl, rfl, (Nat.le_of_ble_eq_true rfl), (Nat.le_of_ble_eq_true rfl)⟩ rfl rfl (Nat.le_of_ble_eq_true rfl) d_L_law_226 (show cells + 1 ≤ 600000 ∧ slots + 7 ≤ 7302250 by omega) (fun r K1 H1 locs1 hq I1 => ?_)
    refine lv_aload_n X.1 X.2.1 d_L_law_229 rfl (lv_at hl 1 rfl) ?_
    refine lld (b := b) (L := L) (xs := xs) (i := 5 * t) (j := 1) (v := 1) X hX hbl hL I1.1 (lv_at hl 3 rfl) (lv_at hl 0 rfl) (by decide) (by decide) (by omega) d_L_law_230 d_L_law_231 d_L_law_232 d_L_law_233 d_L_law_234 ?_
    refine lld (b := b) (L := L) (xs := xs) (i := 5 * t) (j := 2) (v := 2) X hX hbl hL I1.1 (lv_at hl 3 rfl) (lv_at hl 0 rfl) (by decide) (by decide) (by omega) d_L_law_235 d_L_law_236 d_L_law_237 d_L_law_238 d_L_law_239 ?_
    refine lv_if_eq (tgt := 247) X.1 X.2.1 d_L_law_240 (by decide) (fun _ => ?_) (fun h => absurd hz h)
    refine lv_iconst (v := (0 : Int32)) X.1 X.2.1 d_L_law_247 (by decide) ?_
    refine lld (b := b) (L := L) (xs := xs) (i := 5 * t) (j := 3) (v := 3) X hX hbl hL I1.1 (lv_at hl 3 rfl) (lv_at hl 0 rfl) (by decide) (by decide) (by omega) d_L_law_248 d_L_law_249 d_L_law_250 d_L_law_251 d_L_law_252 ?_
    refine lM_i (MM := fun u => u) X I1 hl.1 (fun A => c_M_make l D A AM CM M (xs (5 * t + 1)) 0 (xs (5 * t + 3)) _ hq) rfl ki_M_make wd_445 wd_446 wd_447 ⟨rfl, rfl, (Nat.le_of_ble_eq_true rfl), (Nat.le_of_ble_eq_true rfl)⟩ rfl rfl (Nat.le_of_ble_eq_true rfl) d_L_law_253 (show cells + 1 + 0 ≤ 600000 ∧ slots + 7 + 0 ≤ 7302250 by omega) (fun r2 M1 H2 locs2 hq2 I2 => ?_)
    exact lv_icmp_eq (tgt := 596) X.1 X.2.1 d_L_law_256 (by decide) (fun _ => kk H2 locs2 K1 M1 _ _ I2 hq2.2 (show cells + 1 + 0 ≤ cells + 1 by omega) (show slots + 7 + 0 ≤ slots + 7 by omega)) (fun h => absurd hq2.1 h)
  · refine lv_aload_n X.1 X.2.1 d_L_law_202 rfl (lv_at hl 2 rfl) ?_
    refine lld (b := b) (L := L) (xs := xs) (i := 5 * t) (j := 1) (v := 1) X hX hbl hL I.1 (lv_at hl 3 rfl) (lv_at hl 0 rfl) (by decide) (by decide) (by omega) d_L_law_203 d_L_law_204 d_L_law_205 d_L_law_206 d_L_law_207 ?_
    refine lld (b := b) (L := L) (xs := xs) (i := 5 * t) (j := 2) (v := 2) X hX hbl hL I.1 (lv_at hl 3 rfl) (lv_at hl 0 rfl) (by decide) (by decide) (by omega) d_L_law_208 d_L_law_209 d_L_law_210 d_L_law_211 d_L_law_212 ?_
    refine lv_if_eq (tgt := 220) X.1 X.2.1 d_L_law_213 (by decide) (fun h => absurd h hz) (fun _ => ?_)
    refine lv_iconst (v := (1 : Int32)) X.1 X.2.1 d_L_law_216 (by decide) ?_
    refine lv_goto (tgt := 221) X.1 X.2.1 d_L_law_217 (by decide) ?_
    refine lld (b := b) (L := L) (xs := xs) (i := 5 * t) (j := 3) (v := 3) X hX hbl hL I.1 (lv_at hl 3 rfl) (lv_at hl 0 rfl) (by decide) (by decide) (by omega) d_L_law_221 d_L_law_222 d_L_law_223 d_L_law_224 d_L_law_225 ?_
    refine lC_i (KK := fun u => u) X I hl.1 (c_C_make l D (AC s AM) cA x hs K (xs (5 * t + 1)) 1 (xs (5 * t + 3)) _ (sim_make hN hSim (xs (5 * t + 1)) 1 (xs (5 * t + 3)))) rfl ki_C_make wd_91 wd_92 wd_93 ⟨rfl, rfl, (Nat.le_of_ble_eq_true rfl), (Nat.le_of_ble_eq_true rfl)⟩ rfl rfl (Nat.le_of_ble_eq_true rfl) d_L_law_226 (show cells + 1 ≤ 600000 ∧ slots + 7 ≤ 7302250 by omega) (fun r K1 H1 locs1 hq I1 => ?_)
    refine lv_aload_n X.1 X.2.1 d_L_law_229 rfl (lv_at hl 1 rfl) ?_
    refine lld (b := b) (L := L) (xs := xs) (i := 5 * t) (j := 1) (v := 1) X hX hbl hL I1.1 (lv_at hl 3 rfl) (lv_at hl 0 rfl) (by decide) (by decide) (by omega) d_L_law_230 d_L_law_231 d_L_law_232 d_L_law_233 d_L_law_234 ?_
    refine lld (b := b) (L := L) (xs := xs) (i := 5 * t) (j := 2) (v := 2) X hX hbl hL I1.1 (lv_at hl 3 rfl) (lv_at hl 0 rfl) (by decide) (by decide) (by omega) d_L_law_235 d_L_law_236 d_L_law_237 d_L_law_238 d_L_law_239 ?_
    refine lv_if_eq (tgt := 247) X.1 X.2.1 d_L_law_240 (by decide) (fun h => absurd h hz) (fun _ => ?_)
    refine lv_iconst (v := (1 : Int32)) X.1 X.2.1 d_L_law_243 (by decide) ?_
    refine lv_goto (tgt := 248) X.1 X.2.1 d_L_law_244 (by decide) ?_
    refine lld (b := b) (L := L) (xs := xs) (i := 5 * t) (j := 3) (v := 3) X hX hbl hL I1.1 (lv_at hl 3 rfl) (lv_at hl 0 rfl) (by decide) (by decide) (by omega) d_L_law_248 d_L_law_249 d_L_law_250 d_L_law_251 d_L_law_252 ?_
    refine lM_i (MM := fun u => u) X I1 hl.1 (fun A => c_M_make l D A AM CM M (xs (5 * t + 1)) 1 (xs (5 * t + 3)) _ hq) rfl ki_M_make wd_445 wd_446 wd_447 ⟨rfl, rfl, (Nat.le_of_ble_eq_true rfl), (Nat.le_of_ble_eq_true rfl)⟩ rfl rfl (Nat.le_of_ble_eq_true rfl) d_L_law_253 (show cells + 1 + 0 ≤ 600000 ∧ slots + 7 + 0 ≤ 7302250 by omega) (fun r2 M1 H2 locs2 hq2 I2 => ?_)
    exact lv_icmp_eq (tgt := 596) X.1 X.2.1 d_L_law_256 (by decide) (fun _ => kk H2 locs2 K1 M1 _ _ I2 hq2.2 (show cells + 1 + 0 ≤ cells + 1 by omega) (show slots + 7 + 0 ≤ slots + 7 by omega)) (fun h => absurd hq2.1 h)
set_option maxHeartbeats 4000000 in
set_option maxRecDepth 100000 in
theorem lw_case_get {p : Program} {l : Launch} {e : Env} {s : State} {m : MethodId} {args : Array Value} {below : List Frame} {meth : Method} {c : Code} {H : Heap} {locs : List Loc} {cells slots : Nat} {Q : State → Prop} {ls : Array Slot} {D : va_G} {cA : ClassId} {CM : Nat → ClassId} {x hs : Nat} {AM : Nat → Nat} {K : KT} {M : MT} {b L t : Nat} {xs : Nat → Int32} (X : LC D cA CM p s m args c) (hX : va_X b L xs s s.heap) (hbl : b < s.heap.size) (hL : L ≤ 2560) (I : LI D cA CM s x hs AM H locs K M) (hSim : Sim t K M) (ht : 5 * t + 5 ≤ L) (hl : lv_has ls 4 [(3, .int (nI (5 * t))), (2, .ref (AM 0)), (1, .ref x), (0, .ref b)]) (hc : cells + 1 ≤ 600000) (hs7 : slots + 7 ≤ 7302250)
    (kk : ∀ (H1 : Heap) (locs1 : List Loc) (K1 : KT) (M1 : MT) (cells1 slots1 : Nat), LI D cA CM s x hs AM H1 locs1 K1 M1 → Sim (t + 1) K1 M1 → cells1 ≤ cells + 1 → slots1 ≤ slots + 7 → W p l e room_1 s m args below meth c H1 locs1 cells1 slots1 Q (F0 m 596 ls [])) : W p l e room_1 s m args below meth c H locs cells slots Q (F0 m 261 ls []) := by
  have hN : t + 1 < 520 := by omega
  have hN0 : t < 520 := by omega
  refine lv_aload_n X.1 X.2.1 d_L_law_261 rfl (lv_at hl 2 rfl) ?_
  refine lld (b := b) (L := L) (xs := xs) (i := 5 * t) (j := 1) (v := 1) X hX hbl hL I.1 (lv_at hl 3 rfl) (lv_at hl 0 rfl) (by decide) (by decide) (by omega) d_L_law_262 d_L_law_263 d_L_law_264 d_L_law_265 d_L_law_266 ?_
  refine lld (b := b) (L := L) (xs := xs) (i := 5 * t) (j := 2) (v := 2) X hX hbl hL I.1 (lv_at hl 3 rfl) (lv_at hl 0 rfl) (by decide) (by decide) (by omega) d_L_law_267 d_L_law_268 d_L_law_269 d_L_law_270 d_L_law_271 ?_
  refine lC_i (KK := fun u => u) X I hl.1 (c_C_get l D (AC s AM) cA x hs K (xs (5 * t + 1)) (xs (5 * t + 2)) _ (sim_get hN hSim (xs (5 * t + 1)) (xs (5 * t + 2)))) rfl ki_C_get wd_161 wd_162 wd_163 ⟨rfl, rfl, (Nat.le_of_ble_eq_true rfl), (Nat.le_of_ble_eq_true rfl)⟩ rfl rfl (Nat.le_of_ble_eq_true rfl) d_L_law_272 (show cells + 1 ≤ 600000 ∧ slots + 3 ≤ 7302250 by omega) (fun r K1 H1 locs1 hq I1 => ?_)
  refine lv_aload_n X.1 X.2.1 d_L_law_275 rfl (lv_at hl 1 rfl) ?_
  refine lld (b := b) (L := L) (xs := xs) (i := 5 * t) (j := 1) (v := 1) X hX hbl hL I1.1 (lv_at hl 3 rfl) (lv_at hl 0 rfl) (by decide) (by decide) (by omega) d_L_law_276 d_L_law_277 d_L_law_278 d_L_law_279 d_L_law_280 ?_
  refine lld (b := b) (L := L) (xs := xs) (i := 5 * t) (j := 2) (v := 2) X hX hbl hL I1.1 (lv_at hl 3 rfl) (lv_at hl 0 rfl) (by decide) (by decide) (by omega) d_L_law_281 d_L_law_282 d_L_law_283 d_L_law_284 d_L_law_285 ?_
  refine lM_i (MM := fun u => u) X I1 hl.1 (fun A => c_M_get l D A AM CM M (xs (5 * t + 1)) (xs (5 * t + 2)) _ hq) rfl ki_M_get wd_449 wd_450 wd_451 ⟨rfl, rfl, (Nat.le_of_ble_eq_true rfl), (Nat.le_of_ble_eq_true rfl)⟩ rfl rfl (Nat.le_of_ble_eq_true rfl) d_L_law_286 (show cells + 1 + 0 ≤ 600000 ∧ slots + 3 + 0 ≤ 7302250 by omega) (fun r2 M1 H2 locs2 hq2 I2 => ?_)
  exact lv_icmp_eq (tgt := 596) X.1 X.2.1 d_L_law_289 (by decide) (fun _ => kk H2 locs2 K1 M1 _ _ I2 hq2.2 (show cells + 1 + 0 ≤ cells + 1 by omega) (show slots + 3 + 0 ≤ slots + 7 by omega)) (fun h => absurd hq2.1 h)
set_option maxHeartbeats 4000000 in
set_option maxRecDepth 100000 in
theorem lw_case_getAs {p : Program} {l : Launch} {e : Env} {s : State} {m : MethodId} {args : Array Value} {below : List Frame} {meth : Method} {c : Code} {H : Heap} {locs : List Loc} {cells slots : Nat} {Q : State → Prop} {ls : Array Slot} {D : va_G} {cA : ClassId} {CM : Nat → ClassId} {x hs : Nat} {AM : Nat → Nat} {K : KT} {M : MT} {b L t : Nat} {xs : Nat → Int32} (X : LC D cA CM p s m args c) (hX : va_X b L xs s s.heap) (hbl : b < s.heap.size) (hL : L ≤ 2560) (I : LI D cA CM s x hs AM H locs K M) (hSim : Sim t K M) (ht : 5 * t + 5 ≤ L) (hl : lv_has ls 4 [(3, .int (nI (5 * t))), (2, .ref (AM 0)), (1, .ref x), (0, .ref b)]) (hc : cells + 1 ≤ 600000) (hs7 : slots + 7 ≤ 7302250)
    (kk : ∀ (H1 : Heap) (locs1 : List Loc) (K1 : KT) (M1 : MT) (cells1 slots1 : Nat), LI D cA CM s x hs AM H1 locs1 K1 M1 → Sim (t + 1) K1 M1 → cells1 ≤ cells + 1 → slots1 ≤ slots + 7 → W p l e room_1 s m args below meth c H1 locs1 cells1 slots1 Q (F0 m 596 ls [])) : W p l e room_1 s m args below meth c H locs cells slots Q (F0 m 294 ls []) := by
  have hN : t + 1 < 520 := by omega
  have hN0 : t < 520 := by omega
  refine lv_aload_n X.1 X.2.1 d_L_law_294 rfl (lv_at hl 2 rfl) ?_
  refine lld (b := b) (L := L) (xs := xs) (i := 5 * t) (j := 1) (v := 1) X hX hbl hL I.1 (lv_at hl 3 rfl) (lv_at hl 0 rfl) (by decide) (by decide) (by omega) d_L_law_295 d_L_law_296 d_L_law_297 d_L_law_298 d_L_law_299 ?_
  refine lld (b := b) (L := L) (xs := xs) (i := 5 * t) (j := 2) (v := 2) X hX hbl hL I.1 (lv_at hl 3 rfl) (lv_at hl 0 rfl) (by decide) (by decide) (by omega) d_L_law_300 d_L_law_301 d_L_law_302 d_L_law_303 d_L_law_304 ?_
  refine lld (b := b) (L := L) (xs := xs) (i := 5 * t) (j := 3) (v := 3) X hX hbl hL I.1 (lv_at hl 3 rfl) (lv_at hl 0 rfl) (by decide) (by decide) (by omega) d_L_law_305 d_L_law_306 d_L_law_307 d_L_law_308 d_L_law_309 ?_
  refine lC_i (KK := fun u => u) X I hl.1 (c_C_getAs l D (AC s AM) cA x hs K (xs (5 * t + 1)) (xs (5 * t + 2)) (xs (5 * t + 3)) _ (sim_getAs hN0 hSim (xs (5 * t + 1)) (xs (5 * t + 2)) (xs (5 * t + 3)))) rfl ki_C_getAs wd_188 wd_189 wd_190 ⟨rfl, rfl, (Nat.le_of_ble_eq_true rfl), (Nat.le_of_ble_eq_true rfl)⟩ rfl rfl (Nat.le_of_ble_eq_true rfl) d_L_law_310 (show cells + 1 ≤ 600000 ∧ slots + 3 ≤ 7302250 by omega) (fun r K1 H1 locs1 hq I1 => ?_)
  refine lv_aload_n X.1 X.2.1 d_L_law_313 rfl (lv_at hl 1 rfl) ?_
  refine lld (b := b) (L := L) (xs := xs) (i := 5 * t) (j := 1) (v := 1) X hX hbl hL I1.1 (lv_at hl 3 rfl) (lv_at hl 0 rfl) (by decide) (by decide) (by omega) d_L_law_314 d_L_law_315 d_L_law_316 d_L_law_317 d_L_law_318 ?_
  refine lld (b := b) (L := L) (xs := xs) (i := 5 * t) (j := 2) (v := 2) X hX hbl hL I1.1 (lv_at hl 3 rfl) (lv_at hl 0 rfl) (by decide) (by decide) (by omega) d_L_law_319 d_L_law_320 d_L_law_321 d_L_law_322 d_L_law_323 ?_
  refine lld (b := b) (L := L) (xs := xs) (i := 5 * t) (j := 3) (v := 3) X hX hbl hL I1.1 (lv_at hl 3 rfl) (lv_at hl 0 rfl) (by decide) (by decide) (by omega) d_L_law_324 d_L_law_325 d_L_law_326 d_L_law_327 d_L_law_328 ?_
  refine lM_i (MM := fun u => u) X I1 hl.1 (fun A => c_M_getAs l D A AM CM M (xs (5 * t + 1)) (xs (5 * t + 2)) (xs (5 * t + 3)) _ hq) rfl ki_M_getAs wd_465 wd_466 wd_467 ⟨rfl, rfl, (Nat.le_of_ble_eq_true rfl), (Nat.le_of_ble_eq_true rfl)⟩ rfl rfl (Nat.le_of_ble_eq_true rfl) d_L_law_329 (show cells + 1 + 0 ≤ 600000 ∧ slots + 3 + 0 ≤ 7302250 by omega) (fun r2 M1 H2 locs2 hq2 I2 => ?_)
  exact lv_icmp_eq (tgt := 596) X.1 X.2.1 d_L_law_332 (by decide) (fun _ => kk H2 locs2 K1 M1 _ _ I2 (hq2.2.up (Nat.le_succ t)) (show cells + 1 + 0 ≤ cells + 1 by omega) (show slots + 3 + 0 ≤ slots + 7 by omega)) (fun h => absurd hq2.1 h)
set_option maxHeartbeats 4000000 in
set_option maxRecDepth 100000 in
theorem lw_case_set {p : Program} {l : Launch} {e : Env} {s : State} {m : MethodId} {args : Array Value} {below : List Frame} {meth : Method} {c : Code} {H : Heap} {locs : List Loc} {cells slots : Nat} {Q : State → Prop} {ls : Array Slot} {D : va_G} {cA : ClassId} {CM : Nat → ClassId} {x hs : Nat} {AM : Nat → Nat} {K : KT} {M : MT} {b L t : Nat} {xs : Nat → Int32} (X : LC D cA CM p s m args c) (hX : va_X b L xs s s.heap) (hbl : b < s.heap.size) (hL : L ≤ 2560) (I : LI D cA CM s x hs AM H locs K M) (hSim : Sim t K M) (ht : 5 * t + 5 ≤ L) (hl : lv_has ls 4 [(3, .int (nI (5 * t))), (2, .ref (AM 0)), (1, .ref x), (0, .ref b)]) (hc : cells + 1 ≤ 600000) (hs7 : slots + 7 ≤ 7302250)
    (kk : ∀ (H1 : Heap) (locs1 : List Loc) (K1 : KT) (M1 : MT) (cells1 slots1 : Nat), LI D cA CM s x hs AM H1 locs1 K1 M1 → Sim (t + 1) K1 M1 → cells1 ≤ cells + 1 → slots1 ≤ slots + 7 → W p l e room_1 s m args below meth c H1 locs1 cells1 slots1 Q (F0 m 596 ls [])) : W p l e room_1 s m args below meth c H locs cells slots Q (F0 m 337 ls []) := by
  have hN : t + 1 < 520 := by omega
  have hN0 : t < 520 := by omega
  refine lv_aload_n X.1 X.2.1 d_L_law_337 rfl (lv_at hl 2 rfl) ?_
  refine lld (b := b) (L := L) (xs := xs) (i := 5 * t) (j := 1) (v := 1) X hX hbl hL I.1 (lv_at hl 3 rfl) (lv_at hl 0 rfl) (by decide) (by decide) (by omega) d_L_law_338 d_L_law_339 d_L_law_340 d_L_law_341 d_L_law_342 ?_
  refine lld (b := b) (L := L) (xs := xs) (i := 5 * t) (j := 2) (v := 2) X hX hbl hL I.1 (lv_at hl 3 rfl) (lv_at hl 0 rfl) (by decide) (by decide) (by omega) d_L_law_343 d_L_law_344 d_L_law_345 d_L_law_346 d_L_law_347 ?_
  refine lld (b := b) (L := L) (xs := xs) (i := 5 * t) (j := 3) (v := 3) X hX hbl hL I.1 (lv_at hl 3 rfl) (lv_at hl 0 rfl) (by decide) (by decide) (by omega) d_L_law_348 d_L_law_349 d_L_law_350 d_L_law_351 d_L_law_352 ?_
  refine lC_i (KK := fun u => u) X I hl.1 (c_C_set l D (AC s AM) cA x hs K (xs (5 * t + 1)) (xs (5 * t + 2)) (xs (5 * t + 3)) _ (sim_set hN0 hSim (xs (5 * t + 1)) (xs (5 * t + 2)) (xs (5 * t + 3)))) rfl ki_C_set wd_202 wd_203 wd_204 ⟨rfl, rfl, (Nat.le_of_ble_eq_true rfl), (Nat.le_of_ble_eq_true rfl)⟩ rfl rfl (Nat.le_of_ble_eq_true rfl) d_L_law_353 (show cells + 0 ≤ 600000 ∧ slots + 0 ≤ 7302250 by omega) (fun r K1 H1 locs1 hq I1 => ?_)
  refine lv_aload_n X.1 X.2.1 d_L_law_356 rfl (lv_at hl 1 rfl) ?_
  refine lld (b := b) (L := L) (xs := xs) (i := 5 * t) (j := 1) (v := 1) X hX hbl hL I1.1 (lv_at hl 3 rfl) (lv_at hl 0 rfl) (by decide) (by decide) (by omega) d_L_law_357 d_L_law_358 d_L_law_359 d_L_law_360 d_L_law_361 ?_
  refine lld (b := b) (L := L) (xs := xs) (i := 5 * t) (j := 2) (v := 2) X hX hbl hL I1.1 (lv_at hl 3 rfl) (lv_at hl 0 rfl) (by decide) (by decide) (by omega) d_L_law_362 d_L_law_363 d_L_law_364 d_L_law_365 d_L_law_366 ?_
  refine lld (b := b) (L := L) (xs := xs) (i := 5 * t) (j := 3) (v := 3) X hX hbl hL I1.1 (lv_at hl 3 rfl) (lv_at hl 0 rfl) (by decide) (by decide) (by omega) d_L_law_367 d_L_law_368 d_L_law_369 d_L_law_370 d_L_law_371 ?_
  refine lM_i (MM := fun u => u) X I1 hl.1 (fun A => c_M_set l D A AM CM M (xs (5 * t + 1)) (xs (5 * t + 2)) (xs (5 * t + 3)) _ hq) rfl ki_M_set wd_481 wd_482 wd_483 ⟨rfl, rfl, (Nat.le_of_ble_eq_true rfl), (Nat.le_of_ble_eq_true rfl)⟩ rfl rfl (Nat.le_of_ble_eq_true rfl) d_L_law_372 (show cells + 0 + 0 ≤ 600000 ∧ slots + 0 + 0 ≤ 7302250 by omega) (fun r2 M1 H2 locs2 hq2 I2 => ?_)
  exact lv_icmp_eq (tgt := 596) X.1 X.2.1 d_L_law_375 (by decide) (fun _ => kk H2 locs2 K1 M1 _ _ I2 (hq2.2.up (Nat.le_succ t)) (show cells + 0 + 0 ≤ cells + 1 by omega) (show slots + 0 + 0 ≤ slots + 7 by omega)) (fun h => absurd hq2.1 h)
set_option maxHeartbeats 4000000 in
set_option maxRecDepth 100000 in
theorem lw_case_invoke {p : Program} {l : Launch} {e : Env} {s : State} {m : MethodId} {args : Array Value} {below : List Frame} {meth : Method} {c : Code} {H : Heap} {locs : List Loc} {cells slots : Nat} {Q : State → Prop} {ls : Array Slot} {D : va_G} {cA : ClassId} {CM : Nat → ClassId} {x hs : Nat} {AM : Nat → Nat} {K : KT} {M : MT} {b L t : Nat} {xs : Nat → Int32} (X : LC D cA CM p s m args c) (hX : va_X b L xs s s.heap) (hbl : b < s.heap.size) (hL : L ≤ 2560) (I : LI D cA CM s x hs AM H locs K M) (hSim : Sim t K M) (ht : 5 * t + 5 ≤ L) (hl : lv_has ls 4 [(3, .int (nI (5 * t))), (2, .ref (AM 0)), (1, .ref x), (0, .ref b)]) (hc : cells + 1 ≤ 600000) (hs7 : slots + 7 ≤ 7302250)
    (kk : ∀ (H1 : Heap) (locs1 : List Loc) (K1 : KT) (M1 : MT) (cells1 slots1 : Nat), LI D cA CM s x hs AM H1 locs1 K1 M1 → Sim (t + 1) K1 M1 → cells1 ≤ cells + 1 → slots1 ≤ slots + 7 → W p l e room_1 s m args below meth c H1 locs1 cells1 slots1 Q (F0 m 596 ls [])) : W p l e room_1 s m args below meth c H locs cells slots Q (F0 m 380 ls []) := by
  have hN : t + 1 < 520 := by omega
  have hN0 : t < 520 := by omega
  refine lv_aload_n X.1 X.2.1 d_L_law_380 rfl (lv_at hl 2 rfl) ?_
  refine lld (b := b) (L := L) (xs := xs) (i := 5 * t) (j := 1) (v := 1) X hX hbl hL I.1 (lv_at hl 3 rfl) (lv_at hl 0 rfl) (by decide) (by decide) (by omega) d_L_law_381 d_L_law_382 d_L_law_383 d_L_law_384 d_L_law_385 ?_
  refine lld (b := b) (L := L) (xs := xs) (i := 5 * t) (j := 2) (v := 2) X hX hbl hL I.1 (lv_at hl 3 rfl) (lv_at hl 0 rfl) (by decide) (by decide) (by omega) d_L_law_386 d_L_law_387 d_L_law_388 d_L_law_389 d_L_law_390 ?_
  refine lld (b := b) (L := L) (xs := xs) (i := 5 * t) (j := 3) (v := 3) X hX hbl hL I.1 (lv_at hl 3 rfl) (lv_at hl 0 rfl) (by decide) (by decide) (by omega) d_L_law_391 d_L_law_392 d_L_law_393 d_L_law_394 d_L_law_395 ?_
  refine lld (b := b) (L := L) (xs := xs) (i := 5 * t) (j := 4) (v := 4) X hX hbl hL I.1 (lv_at hl 3 rfl) (lv_at hl 0 rfl) (by decide) (by decide) (by omega) d_L_law_396 d_L_law_397 d_L_law_398 d_L_law_399 d_L_law_400 ?_
  refine lC_i (KK := fun u => u) X I hl.1 (c_C_invoke l D (AC s AM) cA x hs K (xs (5 * t + 1)) (xs (5 * t + 2)) (xs (5 * t + 3)) (xs (5 * t + 4)) _ (sim_invoke hN hSim (xs (5 * t + 1)) (xs (5 * t + 2)) (xs (5 * t + 3)) (xs (5 * t + 4)))) rfl ki_C_invoke wd_236 wd_237 wd_238 ⟨rfl, rfl, (Nat.le_of_ble_eq_true rfl), (Nat.le_of_ble_eq_true rfl)⟩ rfl rfl (Nat.le_of_ble_eq_true rfl) d_L_law_401 (show cells + 1 ≤ 600000 ∧ slots + 3 ≤ 7302250 by omega) (fun r K1 H1 locs1 hq I1 => ?_)
  refine lv_aload_n X.1 X.2.1 d_L_law_404 rfl (lv_at hl 1 rfl) ?_
  refine lld (b := b) (L := L) (xs := xs) (i := 5 * t) (j := 1) (v := 1) X hX hbl hL I1.1 (lv_at hl 3 rfl) (lv_at hl 0 rfl) (by decide) (by decide) (by omega) d_L_law_405 d_L_law_406 d_L_law_407 d_L_law_408 d_L_law_409 ?_
  refine lld (b := b) (L := L) (xs := xs) (i := 5 * t) (j := 2) (v := 2) X hX hbl hL I1.1 (lv_at hl 3 rfl) (lv_at hl 0 rfl) (by decide) (by decide) (by omega) d_L_law_410 d_L_law_411 d_L_law_412 d_L_law_413 d_L_law_414 ?_
  refine lld (b := b) (L := L) (xs := xs) (i := 5 * t) (j := 3) (v := 3) X hX hbl hL I1.1 (lv_at hl 3 rfl) (lv_at hl 0 rfl) (by decide) (by decide) (by omega) d_L_law_415 d_L_law_416 d_L_law_417 d_L_law_418 d_L_law_419 ?_
  refine lld (b := b) (L := L) (xs := xs) (i := 5 * t) (j := 4) (v := 4) X hX hbl hL I1.1 (lv_at hl 3 rfl) (lv_at hl 0 rfl) (by decide) (by decide) (by omega) d_L_law_420 d_L_law_421 d_L_law_422 d_L_law_423 d_L_law_424 ?_
  refine lM_i (MM := fun u => u) X I1 hl.1 (fun A => c_M_invoke l D A AM CM M (xs (5 * t + 1)) (xs (5 * t + 2)) (xs (5 * t + 3)) (xs (5 * t + 4)) _ hq) rfl ki_M_invoke wd_501 wd_502 wd_503 ⟨rfl, rfl, (Nat.le_of_ble_eq_true rfl), (Nat.le_of_ble_eq_true rfl)⟩ rfl rfl (Nat.le_of_ble_eq_true rfl) d_L_law_425 (show cells + 1 + 0 ≤ 600000 ∧ slots + 3 + 0 ≤ 7302250 by omega) (fun r2 M1 H2 locs2 hq2 I2 => ?_)
  exact lv_icmp_eq (tgt := 596) X.1 X.2.1 d_L_law_428 (by decide) (fun _ => kk H2 locs2 K1 M1 _ _ I2 hq2.2 (show cells + 1 + 0 ≤ cells + 1 by omega) (show slots + 3 + 0 ≤ slots + 7 by omega)) (fun h => absurd hq2.1 h)
set_option maxHeartbeats 4000000 in
set_option maxRecDepth 100000 in
theorem lw_case_cast {p : Program} {l : Launch} {e : Env} {s : State} {m : MethodId} {args : Array Value} {below : List Frame} {meth : Method} {c : Code} {H : Heap} {locs : List Loc} {cells slots : Nat} {Q : State → Prop} {ls : Array Slot} {D : va_G} {cA : ClassId} {CM : Nat → ClassId} {x hs : Nat} {AM : Nat → Nat} {K : KT} {M : MT} {b L t : Nat} {xs : Nat → Int32} (X : LC D cA CM p s m args c) (hX : va_X b L xs s s.heap) (hbl : b < s.heap.size) (hL : L ≤ 2560) (I : LI D cA CM s x hs AM H locs K M) (hSim : Sim t K M) (ht : 5 * t + 5 ≤ L) (hl : lv_has ls 4 [(3, .int (nI (5 * t))), (2, .ref (AM 0)), (1, .ref x), (0, .ref b)]) (hc : cells + 1 ≤ 600000) (hs7 : slots + 7 ≤ 7302250)
    (kk : ∀ (H1 : Heap) (locs1 : List Loc) (K1 : KT) (M1 : MT) (cells1 slots1 : Nat), LI D cA CM s x hs AM H1 locs1 K1 M1 → Sim (t + 1) K1 M1 → cells1 ≤ cells + 1 → slots1 ≤ slots + 7 → W p l e room_1 s m args below meth c H1 locs1 cells1 slots1 Q (F0 m 596 ls [])) : W p l e room_1 s m args below meth c H locs cells slots Q (F0 m 433 ls []) := by
  have hN : t + 1 < 520 := by omega
  have hN0 : t < 520 := by omega
  refine lv_aload_n X.1 X.2.1 d_L_law_433 rfl (lv_at hl 2 rfl) ?_
  refine lld (b := b) (L := L) (xs := xs) (i := 5 * t) (j := 1) (v := 1) X hX hbl hL I.1 (lv_at hl 3 rfl) (lv_at hl 0 rfl) (by decide) (by decide) (by omega) d_L_law_434 d_L_law_435 d_L_law_436 d_L_law_437 d_L_law_438 ?_
  refine lld (b := b) (L := L) (xs := xs) (i := 5 * t) (j := 2) (v := 2) X hX hbl hL I.1 (lv_at hl 3 rfl) (lv_at hl 0 rfl) (by decide) (by decide) (by omega) d_L_law_439 d_L_law_440 d_L_law_441 d_L_law_442 d_L_law_443 ?_
  refine lC_i (KK := fun u => u) X I hl.1 (c_C_cast l D (AC s AM) cA x hs K (xs (5 * t + 1)) (xs (5 * t + 2)) _ (sim_cast hN0 hSim (xs (5 * t + 1)) (xs (5 * t + 2)))) rfl ki_C_cast wd_296 wd_297 wd_298 ⟨rfl, rfl, (Nat.le_of_ble_eq_true rfl), (Nat.le_of_ble_eq_true rfl)⟩ rfl rfl (Nat.le_of_ble_eq_true rfl) d_L_law_444 (show cells + 0 ≤ 600000 ∧ slots + 0 ≤ 7302250 by omega) (fun r K1 H1 locs1 hq I1 => ?_)
  refine lv_aload_n X.1 X.2.1 d_L_law_447 rfl (lv_at hl 1 rfl) ?_
  refine lld (b := b) (L := L) (xs := xs) (i := 5 * t) (j := 1) (v := 1) X hX hbl hL I1.1 (lv_at hl 3 rfl) (lv_at hl 0 rfl) (by decide) (by decide) (by omega) d_L_law_448 d_L_law_449 d_L_law_450 d_L_law_451 d_L_law_452 ?_
  refine lld (b := b) (L := L) (xs := xs) (i := 5 * t) (j := 2) (v := 2) X hX hbl hL I1.1 (lv_at hl 3 rfl) (lv_at hl 0 rfl) (by decide) (by decide) (by omega) d_L_law_453 d_L_law_454 d_L_law_455 d_L_law_456 d_L_law_457 ?_
  refine lM_i (MM := fun u => u) X I1 hl.1 (fun A => c_M_cast l D A AM CM M (xs (5 * t + 1)) (xs (5 * t + 2)) _ hq) rfl ki_M_cast wd_534 wd_535 wd_536 ⟨rfl, rfl, (Nat.le_of_ble_eq_true rfl), (Nat.le_of_ble_eq_true rfl)⟩ rfl rfl (Nat.le_of_ble_eq_true rfl) d_L_law_458 (show cells + 0 + 0 ≤ 600000 ∧ slots + 0 + 0 ≤ 7302250 by omega) (fun r2 M1 H2 locs2 hq2 I2 => ?_)
  exact lv_icmp_eq (tgt := 596) X.1 X.2.1 d_L_law_461 (by decide) (fun _ => kk H2 locs2 K1 M1 _ _ I2 (hq2.2.up (Nat.le_succ t)) (show cells + 0 + 0 ≤ cells + 1 by omega) (show slots + 0 + 0 ≤ slots + 7 by omega)) (fun h => absurd hq2.1 h)
set_option maxHeartbeats 4000000 in
set_option maxRecDepth 100000 in
theorem lw_case_last {p : Program} {l : Launch} {e : Env} {s : State} {m : MethodId} {args : Array Value} {below : List Frame} {meth : Method} {c : Code} {H : Heap} {locs : List Loc} {cells slots : Nat} {Q : State → Prop} {ls : Array Slot} {D : va_G} {cA : ClassId} {CM : Nat → ClassId} {x hs : Nat} {AM : Nat → Nat} {K : KT} {M : MT} {b L t : Nat} {xs : Nat → Int32} (X : LC D cA CM p s m args c) (hX : va_X b L xs s s.heap) (hbl : b < s.heap.size) (hL : L ≤ 2560) (I : LI D cA CM s x hs AM H locs K M) (hSim : Sim t K M) (ht : 5 * t + 5 ≤ L) (hl : lv_has ls 4 [(3, .int (nI (5 * t))), (2, .ref (AM 0)), (1, .ref x), (0, .ref b)]) (hc : cells + 1 ≤ 600000) (hs7 : slots + 7 ≤ 7302250)
    (kk : ∀ (H1 : Heap) (locs1 : List Loc) (K1 : KT) (M1 : MT) (cells1 slots1 : Nat), LI D cA CM s x hs AM H1 locs1 K1 M1 → Sim (t + 1) K1 M1 → cells1 ≤ cells + 1 → slots1 ≤ slots + 7 → W p l e room_1 s m args below meth c H1 locs1 cells1 slots1 Q (F0 m 596 ls [])) : W p l e room_1 s m args below meth c H locs cells slots Q (F0 m 466 ls []) := by
  have hN : t + 1 < 520 := by omega
  have hN0 : t < 520 := by omega
  refine lv_aload_n X.1 X.2.1 d_L_law_466 rfl (lv_at hl 2 rfl) ?_
  refine lC_l (S := Unit) (KK := fun _ => K) X I hl.1 (c_C_last l D (AC s AM) cA x hs K _ (sim_last hSim )) rfl ki_C_last wd_325 wd_326 wd_327 ⟨rfl, rfl, (Nat.le_of_ble_eq_true rfl), (Nat.le_of_ble_eq_true rfl)⟩ rfl rfl (Nat.le_of_ble_eq_true rfl) d_L_law_467 (show cells + 0 ≤ 600000 ∧ slots + 0 ≤ 7302250 by omega) (fun r _ H1 locs1 hq I1 => ?_)
  refine lv_aload_n X.1 X.2.1 d_L_law_470 rfl (lv_at hl 1 rfl) ?_
  refine lM_l (S := Unit) (MM := fun _ => M) X I1 hl.1 (fun A => c_M_last l D A AM CM M _ hq) rfl ki_M_last wd_542 wd_543 wd_544 ⟨rfl, rfl, (Nat.le_of_ble_eq_true rfl), (Nat.le_of_ble_eq_true rfl)⟩ rfl rfl (Nat.le_of_ble_eq_true rfl) d_L_law_471 (show cells + 0 + 0 ≤ 600000 ∧ slots + 0 + 0 ≤ 7302250 by omega) (fun r2 _ H2 locs2 hq2 I2 => ?_)
  refine W.lcmp X.1 X.2.1 d_L_law_474 ?_
  exact lv_if_eq (tgt := 596) X.1 X.2.1 d_L_law_475 (by decide) (fun _ => kk H2 locs2 K M _ _ I2 (hSim.up (Nat.le_succ t)) (show cells + 0 + 0 ≤ cells + 1 by omega) (show slots + 0 + 0 ≤ slots + 7 by omega)) (fun h => absurd ((lg_cmp_eq _ _).mpr hq2) h)
set_option maxHeartbeats 4000000 in
set_option maxRecDepth 100000 in
theorem lw_case_look {p : Program} {l : Launch} {e : Env} {s : State} {m : MethodId} {args : Array Value} {below : List Frame} {meth : Method} {c : Code} {H : Heap} {locs : List Loc} {cells slots : Nat} {Q : State → Prop} {ls : Array Slot} {D : va_G} {cA : ClassId} {CM : Nat → ClassId} {x hs : Nat} {AM : Nat → Nat} {K : KT} {M : MT} {b L t : Nat} {xs : Nat → Int32} (X : LC D cA CM p s m args c) (hX : va_X b L xs s s.heap) (hbl : b < s.heap.size) (hL : L ≤ 2560) (I : LI D cA CM s x hs AM H locs K M) (hSim : Sim t K M) (ht : 5 * t + 5 ≤ L) (hl : lv_has ls 4 [(3, .int (nI (5 * t))), (2, .ref (AM 0)), (1, .ref x), (0, .ref b)]) (hc : cells + 1 ≤ 600000) (hs7 : slots + 7 ≤ 7302250)
    (kk : ∀ (H1 : Heap) (locs1 : List Loc) (K1 : KT) (M1 : MT) (cells1 slots1 : Nat), LI D cA CM s x hs AM H1 locs1 K1 M1 → Sim (t + 1) K1 M1 → cells1 ≤ cells + 1 → slots1 ≤ slots + 7 → W p l e room_1 s m args below meth c H1 locs1 cells1 slots1 Q (F0 m 596 ls [])) : W p l e room_1 s m args below meth c H locs cells slots Q (F0 m 480 ls []) := by
  have hN : t + 1 < 520 := by omega
  have hN0 : t < 520 := by omega
  by_cases hz : xs (5 * t + 2) = 0
  · refine lv_aload_n X.1 X.2.1 d_L_law_480 rfl (lv_at hl 2 rfl) ?_
    refine lld (b := b) (L := L) (xs := xs) (i := 5 * t) (j := 1) (v := 1) X hX hbl hL I.1 (lv_at hl 3 rfl) (lv_at hl 0 rfl) (by decide) (by decide) (by omega) d_L_law_481 d_L_law_482 d_L_law_483 d_L_law_484 d_L_law_485 ?_
    refine lld (b := b) (L := L) (xs := xs) (i := 5 * t) (j := 2) (v := 2) X hX hbl hL I.1 (lv_at hl 3 rfl) (lv_at hl 0 rfl) (by decide) (by decide) (by omega) d_L_law_486 d_L_law_487 d_L_law_488 d_L_law_489 d_L_law_490 ?_
    refine lv_if_eq (tgt := 498) X.1 X.2.1 d_L_law_491 (by decide) (fun _ => ?_) (fun h => absurd hz h)
    refine lv_iconst (v := (0 : Int32)) X.1 X.2.1 d_L_law_498 (by decide) ?_
    refine lC_i (S := Unit) (KK := fun _ => K) X I hl.1 (c_C_look l D (AC s AM) cA x hs K (xs (5 * t + 1)) 0 _ (sim_look hN0 hSim (xs (5 * t + 1)) 0)) rfl ki_C_look wd_329 wd_330 wd_331 ⟨rfl, rfl, (Nat.le_of_ble_eq_true rfl), (Nat.le_of_ble_eq_true rfl)⟩ rfl rfl (Nat.le_of_ble_eq_true rfl) d_L_law_499 (show cells + 0 ≤ 600000 ∧ slots + 0 ≤ 7302250 by omega) (fun r _ H1 locs1 hq I1 => ?_)
    refine lv_aload_n X.1 X.2.1 d_L_law_502 rfl (lv_at hl 1 rfl) ?_
    refine lld (b := b) (L := L) (xs := xs) (i := 5 * t) (j := 1) (v := 1) X hX hbl hL I1.1 (lv_at hl 3 rfl) (lv_at hl 0 rfl) (by decide) (by decide) (by omega) d_L_law_503 d_L_law_504 d_L_law_505 d_L_law_506 d_L_law_507 ?_
    refine lld (b := b) (L := L) (xs := xs) (i := 5 * t) (j := 2) (v := 2) X hX hbl hL I1.1 (lv_at hl 3 rfl) (lv_at hl 0 rfl) (by decide) (by decide) (by omega) d_L_law_508 d_L_law_509 d_L_law_510 d_L_law_511 d_L_law_512 ?_
    refine lv_if_eq (tgt := 520) X.1 X.2.1 d_L_law_513 (by decide) (fun _ => ?_) (fun h => absurd hz h)
    refine lv_iconst (v := (0 : Int32)) X.1 X.2.1 d_L_law_520 (by decide) ?_
    refine lM_i (S := Unit) (MM := fun _ => M) X I1 hl.1 (fun A => c_M_look l D A AM CM M (xs (5 * t + 1)) 0 _ hq) rfl ki_M_look wd_546 wd_547 wd_548 ⟨rfl, rfl, (Nat.le_of_ble_eq_true rfl), (Nat.le_of_ble_eq_true rfl)⟩ rfl rfl (Nat.le_of_ble_eq_true rfl) d_L_law_521 (show cells + 0 + 0 ≤ 600000 ∧ slots + 0 + 0 ≤ 7302250 by omega) (fun r2 _ H2 locs2 hq2 I2 => ?_)
    exact lv_icmp_eq (tgt := 596) X.1 X.2.1 d_L_law_524 (by decide) (fun _ => kk H2 locs2 K M _ _ I2 (hSim.up (Nat.le_succ t)) (show cells + 0 + 0 ≤ cells + 1 by omega) (show slots + 0 + 0 ≤ slots + 7 by omega)) (fun h => absurd hq2 h)
  · refine lv_aload_n X.1 X.2.1 d_L_law_480 rfl (lv_at hl 2 rfl) ?_
    refine lld (b := b) (L := L) (xs := xs) (i := 5 * t) (j := 1) (v := 1) X hX hbl hL I.1 (lv_at hl 3 rfl) (lv_at hl 0 rfl) (by decide) (by decide) (by omega) d_L_law_481 d_L_law_482 d_L_law_483 d_L_law_484 d_L_law_485 ?_
    refine lld (b := b) (L := L) (xs := xs) (i := 5 * t) (j := 2) (v := 2) X hX hbl hL I.1 (lv_at hl 3 rfl) (lv_at hl 0 rfl) (by decide) (by decide) (by omega) d_L_law_486 d_L_law_487 d_L_law_488 d_L_law_489 d_L_law_490 ?_
    refine lv_if_eq (tgt := 498) X.1 X.2.1 d_L_law_491 (by decide) (fun h => absurd h hz) (fun _ => ?_)
    refine lv_iconst (v := (1 : Int32)) X.1 X.2.1 d_L_law_494 (by decide) ?_
    refine lv_goto (tgt := 499) X.1 X.2.1 d_L_law_495 (by decide) ?_
    refine lC_i (S := Unit) (KK := fun _ => K) X I hl.1 (c_C_look l D (AC s AM) cA x hs K (xs (5 * t + 1)) 1 _ (sim_look hN0 hSim (xs (5 * t + 1)) 1)) rfl ki_C_look wd_329 wd_330 wd_331 ⟨rfl, rfl, (Nat.le_of_ble_eq_true rfl), (Nat.le_of_ble_eq_true rfl)⟩ rfl rfl (Nat.le_of_ble_eq_true rfl) d_L_law_499 (show cells + 0 ≤ 600000 ∧ slots + 0 ≤ 7302250 by omega) (fun r _ H1 locs1 hq I1 => ?_)
    refine lv_aload_n X.1 X.2.1 d_L_law_502 rfl (lv_at hl 1 rfl) ?_
    refine lld (b := b) (L := L) (xs := xs) (i := 5 * t) (j := 1) (v := 1) X hX hbl hL I1.1 (lv_at hl 3 rfl) (lv_at hl 0 rfl) (by decide) (by decide) (by omega) d_L_law_503 d_L_law_504 d_L_law_505 d_L_law_506 d_L_law_507 ?_
    refine lld (b := b) (L := L) (xs := xs) (i := 5 * t) (j := 2) (v := 2) X hX hbl hL I1.1 (lv_at hl 3 rfl) (lv_at hl 0 rfl) (by decide) (by decide) (by omega) d_L_law_508 d_L_law_509 d_L_law_510 d_L_law_511 d_L_law_512 ?_
    refine lv_if_eq (tgt := 520) X.1 X.2.1 d_L_law_513 (by decide) (fun h => absurd h hz) (fun _ => ?_)
    refine lv_iconst (v := (1 : Int32)) X.1 X.2.1 d_L_law_516 (by decide) ?_
    refine lv_goto (tgt := 521) X.1 X.2.1 d_L_law_517 (by decide) ?_
    refine lM_i (S := Unit) (MM := fun _ => M) X I1 hl.1 (fun A => c_M_look l D A AM CM M (xs (5 * t + 1)) 1 _ hq) rfl ki_M_look wd_546 wd_547 wd_548 ⟨rfl, rfl, (Nat.le_of_ble_eq_true rfl), (Nat.le_of_ble_eq_true rfl)⟩ rfl rfl (Nat.le_of_ble_eq_true rfl) d_L_law_521 (show cells + 0 + 0 ≤ 600000 ∧ slots + 0 + 0 ≤ 7302250 by omega) (fun r2 _ H2 locs2 hq2 I2 => ?_)
    exact lv_icmp_eq (tgt := 596) X.1 X.2.1 d_L_law_524 (by decide) (fun _ => kk H2 locs2 K M _ _ I2 (hSim.up (Nat.le_succ t)) (show cells + 0 + 0 ≤ cells + 1 by omega) (show slots + 0 + 0 ≤ slots + 7 by omega)) (fun h => absurd hq2 h)
set_option maxHeartbeats 4000000 in
set_option maxRecDepth 100000 in
theorem lw_case_value {p : Program} {l : Launch} {e : Env} {s : State} {m : MethodId} {args : Array Value} {below : List Frame} {meth : Method} {c : Code} {H : Heap} {locs : List Loc} {cells slots : Nat} {Q : State → Prop} {ls : Array Slot} {D : va_G} {cA : ClassId} {CM : Nat → ClassId} {x hs : Nat} {AM : Nat → Nat} {K : KT} {M : MT} {b L t : Nat} {xs : Nat → Int32} (X : LC D cA CM p s m args c) (hX : va_X b L xs s s.heap) (hbl : b < s.heap.size) (hL : L ≤ 2560) (I : LI D cA CM s x hs AM H locs K M) (hSim : Sim t K M) (ht : 5 * t + 5 ≤ L) (hl : lv_has ls 4 [(3, .int (nI (5 * t))), (2, .ref (AM 0)), (1, .ref x), (0, .ref b)]) (hc : cells + 1 ≤ 600000) (hs7 : slots + 7 ≤ 7302250)
    (kk : ∀ (H1 : Heap) (locs1 : List Loc) (K1 : KT) (M1 : MT) (cells1 slots1 : Nat), LI D cA CM s x hs AM H1 locs1 K1 M1 → Sim (t + 1) K1 M1 → cells1 ≤ cells + 1 → slots1 ≤ slots + 7 → W p l e room_1 s m args below meth c H1 locs1 cells1 slots1 Q (F0 m 596 ls [])) : W p l e room_1 s m args below meth c H locs cells slots Q (F0 m 529 ls []) := by
  have hN : t + 1 < 520 := by omega
  have hN0 : t < 520 := by omega
  refine lv_aload_n X.1 X.2.1 d_L_law_529 rfl (lv_at hl 2 rfl) ?_
  refine lld (b := b) (L := L) (xs := xs) (i := 5 * t) (j := 1) (v := 1) X hX hbl hL I.1 (lv_at hl 3 rfl) (lv_at hl 0 rfl) (by decide) (by decide) (by omega) d_L_law_530 d_L_law_531 d_L_law_532 d_L_law_533 d_L_law_534 ?_
  refine lC_l (S := Unit) (KK := fun _ => K) X I hl.1 (c_C_value l D (AC s AM) cA x hs K (xs (5 * t + 1)) _ (sim_value hN0 hSim (xs (5 * t + 1)))) rfl ki_C_value wd_337 wd_338 wd_339 ⟨rfl, rfl, (Nat.le_of_ble_eq_true rfl), (Nat.le_of_ble_eq_true rfl)⟩ rfl rfl (Nat.le_of_ble_eq_true rfl) d_L_law_535 (show cells + 0 ≤ 600000 ∧ slots + 0 ≤ 7302250 by omega) (fun r _ H1 locs1 hq I1 => ?_)
  refine lv_aload_n X.1 X.2.1 d_L_law_538 rfl (lv_at hl 1 rfl) ?_
  refine lld (b := b) (L := L) (xs := xs) (i := 5 * t) (j := 1) (v := 1) X hX hbl hL I1.1 (lv_at hl 3 rfl) (lv_at hl 0 rfl) (by decide) (by decide) (by omega) d_L_law_539 d_L_law_540 d_L_law_541 d_L_law_542 d_L_law_543 ?_
  refine lM_l (MM := fun u => u) X I1 hl.1 (fun A => c_M_value l D A AM CM M (xs (5 * t + 1)) _ hq) rfl ki_M_value wd_550 wd_551 wd_552 ⟨rfl, rfl, (Nat.le_of_ble_eq_true rfl), (Nat.le_of_ble_eq_true rfl)⟩ rfl rfl (Nat.le_of_ble_eq_true rfl) d_L_law_544 (show cells + 0 + 0 ≤ 600000 ∧ slots + 0 + 0 ≤ 7302250 by omega) (fun r2 M1 H2 locs2 hq2 I2 => ?_)
  refine W.lcmp X.1 X.2.1 d_L_law_547 ?_
  exact lv_if_eq (tgt := 596) X.1 X.2.1 d_L_law_548 (by decide) (fun _ => kk H2 locs2 K M1 _ _ I2 (hq2.2.up (Nat.le_succ t)) (show cells + 0 + 0 ≤ cells + 1 by omega) (show slots + 0 + 0 ≤ slots + 7 by omega)) (fun h => absurd ((lg_cmp_eq _ _).mpr hq2.1) h)
set_option maxHeartbeats 4000000 in
set_option maxRecDepth 100000 in
theorem lw_case_typed {p : Program} {l : Launch} {e : Env} {s : State} {m : MethodId} {args : Array Value} {below : List Frame} {meth : Method} {c : Code} {H : Heap} {locs : List Loc} {cells slots : Nat} {Q : State → Prop} {ls : Array Slot} {D : va_G} {cA : ClassId} {CM : Nat → ClassId} {x hs : Nat} {AM : Nat → Nat} {K : KT} {M : MT} {b L t : Nat} {xs : Nat → Int32} (X : LC D cA CM p s m args c) (hX : va_X b L xs s s.heap) (hbl : b < s.heap.size) (hL : L ≤ 2560) (I : LI D cA CM s x hs AM H locs K M) (hSim : Sim t K M) (ht : 5 * t + 5 ≤ L) (hl : lv_has ls 4 [(3, .int (nI (5 * t))), (2, .ref (AM 0)), (1, .ref x), (0, .ref b)]) (hc : cells + 1 ≤ 600000) (hs7 : slots + 7 ≤ 7302250)
    (kk : ∀ (H1 : Heap) (locs1 : List Loc) (K1 : KT) (M1 : MT) (cells1 slots1 : Nat), LI D cA CM s x hs AM H1 locs1 K1 M1 → Sim (t + 1) K1 M1 → cells1 ≤ cells + 1 → slots1 ≤ slots + 7 → W p l e room_1 s m args below meth c H1 locs1 cells1 slots1 Q (F0 m 596 ls [])) : W p l e room_1 s m args below meth c H locs cells slots Q (F0 m 553 ls []) := by
  have hN : t + 1 < 520 := by omega
  have hN0 : t < 520 := by omega
  refine lv_aload_n X.1 X.2.1 d_L_law_553 rfl (lv_at hl 2 rfl) ?_
  refine lld (b := b) (L := L) (xs := xs) (i := 5 * t) (j := 1) (v := 1) X hX hbl hL I.1 (lv_at hl 3 rfl) (lv_at hl 0 rfl) (by decide) (by decide) (by omega) d_L_law_554 d_L_law_555 d_L_law_556 d_L_law_557 d_L_law_558 ?_
  refine lld (b := b) (L := L) (xs := xs) (i := 5 * t) (j := 2) (v := 2) X hX hbl hL I.1 (lv_at hl 3 rfl) (lv_at hl 0 rfl) (by decide) (by decide) (by omega) d_L_law_559 d_L_law_560 d_L_law_561 d_L_law_562 d_L_law_563 ?_
  refine lld (b := b) (L := L) (xs := xs) (i := 5 * t) (j := 3) (v := 3) X hX hbl hL I.1 (lv_at hl 3 rfl) (lv_at hl 0 rfl) (by decide) (by decide) (by omega) d_L_law_564 d_L_law_565 d_L_law_566 d_L_law_567 d_L_law_568 ?_
  refine lC_i (S := Unit) (KK := fun _ => K) X I hl.1 (c_C_typed l D (AC s AM) cA x hs K (xs (5 * t + 1)) (xs (5 * t + 2)) (xs (5 * t + 3)) _ (sim_typed hSim (xs (5 * t + 1)) (xs (5 * t + 2)) (xs (5 * t + 3)))) rfl ki_C_typed wd_356 wd_357 wd_358 ⟨rfl, rfl, (Nat.le_of_ble_eq_true rfl), (Nat.le_of_ble_eq_true rfl)⟩ rfl rfl (Nat.le_of_ble_eq_true rfl) d_L_law_569 (show cells + 0 ≤ 600000 ∧ slots + 0 ≤ 7302250 by omega) (fun r _ H1 locs1 hq I1 => ?_)
  refine lv_aload_n X.1 X.2.1 d_L_law_572 rfl (lv_at hl 1 rfl) ?_
  refine lld (b := b) (L := L) (xs := xs) (i := 5 * t) (j := 1) (v := 1) X hX hbl hL I1.1 (lv_at hl 3 rfl) (lv_at hl 0 rfl) (by decide) (by decide) (by omega) d_L_law_573 d_L_law_574 d_L_law_575 d_L_law_576 d_L_law_577 ?_
  refine lld (b := b) (L := L) (xs := xs) (i := 5 * t) (j := 2) (v := 2) X hX hbl hL I1.1 (lv_at hl 3 rfl) (lv_at hl 0 rfl) (by decide) (by decide) (by omega) d_L_law_578 d_L_law_579 d_L_law_580 d_L_law_581 d_L_law_582 ?_
  refine lld (b := b) (L := L) (xs := xs) (i := 5 * t) (j := 3) (v := 3) X hX hbl hL I1.1 (lv_at hl 3 rfl) (lv_at hl 0 rfl) (by decide) (by decide) (by omega) d_L_law_583 d_L_law_584 d_L_law_585 d_L_law_586 d_L_law_587 ?_
  refine lM_i (S := Unit) (MM := fun _ => M) X I1 hl.1 (fun A => c_M_typed l D A AM CM M (xs (5 * t + 1)) (xs (5 * t + 2)) (xs (5 * t + 3)) _ hq) rfl ki_M_typed wd_555 wd_556 wd_557 ⟨rfl, rfl, (Nat.le_of_ble_eq_true rfl), (Nat.le_of_ble_eq_true rfl)⟩ rfl rfl (Nat.le_of_ble_eq_true rfl) d_L_law_588 (show cells + 0 + 0 ≤ 600000 ∧ slots + 0 + 0 ≤ 7302250 by omega) (fun r2 _ H2 locs2 hq2 I2 => ?_)
  exact lv_icmp_eq (tgt := 596) X.1 X.2.1 d_L_law_591 (by decide) (fun _ => kk H2 locs2 K M _ _ I2 (hSim.up (Nat.le_succ t)) (show cells + 0 + 0 ≤ cells + 1 by omega) (show slots + 0 + 0 ≤ slots + 7 by omega)) (fun h => absurd hq2 h)
