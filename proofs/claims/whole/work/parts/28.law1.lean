/-! the law: what stands at its entry, and its calls -/
def LC (D : va_G) (cA : ClassId) (CM : Nat → ClassId) (p : Program) (s : State) (m : MethodId) (args : Array Value) (c : Code) : Prop :=
  p.tables.exec = Jvm.exec ∧ c.code = b_L_law ∧ c.maxLocals = 4 ∧ s.vm.findClass "MemberInspectionLaw" = some m.cls ∧ (∀ w ∈ gd_tbl, w.before args s = true) ∧ va_K D kcl (tysC cA) s ∧ va_K D kcl (tysM CM) s ∧ NF s ∧ va_AO "MemberInspection$Held" s ∧ (∀ A : Nat → Prop, (∀ q : Nat, q < s.heap.size → ¬ A q) → SF A s s.heap)
def AL (s : State) (q : Nat) : Prop := s.heap.size ≤ q
def AC (s : State) (AM : Nat → Nat) (q : Nat) : Prop := s.heap.size ≤ q ∧ ∀ k : Nat, k < 10 → q ≠ AM k
def AO (AM : Nat → Nat) (q : Nat) : Prop := ∃ k : Nat, k < 10 ∧ q = AM k
def LI (D : va_G) (cA : ClassId) (CM : Nat → ClassId) (s : State) (x hs : Nat) (AM : Nat → Nat) (H : Heap) (locs : List Loc) (K : KT) (M : MT) : Prop :=
  va_S (AL s) s.heap H locs ∧ CW D (AC s AM) x hs cA K H ∧ MW D (AO AM) AM CM M H ∧ (∀ k : Nat, k < 10 → s.heap.size ≤ AM k ∧ AM k < H.size)
theorem mw_at (AM : Nat → Nat) (CM : Nat → ClassId) (M : MT) {k : Nat} {q : Nat × va_E} (h : (mw AM CM M)[k]? = some q) : k < 10 ∧ q.1 = AM k := by
  have hk : k < 10 := (List.getElem?_eq_some_iff.mp h).1
  refine ⟨hk, ?_⟩
  rcases (show k = 0 ∨ k = 1 ∨ k = 2 ∨ k = 3 ∨ k = 4 ∨ k = 5 ∨ k = 6 ∨ k = 7 ∨ k = 8 ∨ k = 9 by omega) with rfl | rfl | rfl | rfl | rfl | rfl | rfl | rfl | rfl | rfl <;> (cases h; rfl)
theorem mw_in (AM : Nat → Nat) (CM : Nat → ClassId) (M : MT) {k : Nat} (hk : k < 10) : ∃ q : Nat × va_E, (mw AM CM M)[k]? = some q ∧ q.1 = AM k := by
  rcases (show k = 0 ∨ k = 1 ∨ k = 2 ∨ k = 3 ∨ k = 4 ∨ k = 5 ∨ k = 6 ∨ k = 7 ∨ k = 8 ∨ k = 9 by omega) with rfl | rfl | rfl | rfl | rfl | rfl | rfl | rfl | rfl | rfl <;> exact ⟨_, rfl, rfl⟩
theorem mw_AO {A : Nat → Prop} {AM : Nat → Nat} {CM : Nat → ClassId} {M : MT} (h : va_D A (mw AM CM M)) : va_D (AO AM) (mw AM CM M) := ⟨h.1, fun k q hq => ⟨k, mw_at AM CM M hq⟩⟩
section LAW
variable {p : Program} {l : Launch} {e : Env} {R : Room} {s : State} {m : MethodId} {args : Array Value} {below : List Frame} {meth : Method} {c : Code} {H : Heap} {locs : List Loc} {cells slots : Nat} {Q : State → Prop}
variable {pc : Nat} {ls : Array Slot} {rest st0 : List Value} {D : va_G} {A : Nat → Prop} {tys : List (ClassId × FieldType)} {cA : ClassId} {CM : Nat → ClassId} {x hs : Nat} {AM : Nat → Nat} {K : KT} {M : MT}
variable {y : MethodName} {bytes : ByteArray} {maxL mc ms n index : Nat} {ret : Option FieldType} {rm : Room} {Qc : Array Value → State → Outcome → State → Prop} {As : List Value} {B : Heap → Prop}
theorem lpre (X : LC D cA CM p s m args c) (hK : va_K D kcl tys s) (hS : va_S (AL s) s.heap H locs) (hA : ∀ q, A q → s.heap.size ≤ q) (hA2 : ∀ q, H.size ≤ q → A q) (hB : B H) (U : State) (hU : U.heap = H) (hW : s.WarmedH U.vm) : kf D tys A U ∧ B U.heap := by
  subst hU
  obtain ⟨-, -, -, -, -, -, -, hN, -, hSF⟩ := X
  have h1 : SF A s s.heap := hSF A (fun q hq h => absurd (hA q h) (by omega))
  exact ⟨⟨va_K.moved hW.alike hK, hN.warm hW, (h1.kept (fun a ha _ => hS.2.1 a ha (fun h => absurd (show s.heap.size ≤ a from h) (by omega)))).moved hW.alike, hA2⟩, hB⟩
theorem lrV {b : Nat} (X : LC D cA CM p s m args c) (hK : va_K D kcl tys s) (hsz : ls.size = 4) (hS : va_S (AL s) s.heap H locs) (hA : ∀ q, A q → s.heap.size ≤ q) (hA2 : ∀ q, H.size ≤ q → A q) (hB : B H) (hM : Met l y (kw y bytes maxL ret) rm (kP D tys A (.ref b :: As) B) Qc mc ms A) (hi : KI y bytes maxL ret n) (hl : Cond.methodLink "MemberInspectionLaw" index y ∈ gd_tbl) (hin : Cond.instanceMethod y ∈ gd_tbl) (hse : Cond.selects y.cls y y ∈ gd_tbl) (hrec : ∃ cell : Cell, H[b]? = some cell ∧ cell.vm.isStatics = false ∧ s.vm.findClass y.cls = some cell.cls) (hr : KR rm R maxL mc ms) (hn : As.length = n) (h0 : st0 = As.reverse ++ .ref b :: rest) (hw : (rest.map fun v => v.category).sum ≤ 8) (hdg : decode b_L_law pc = .ok (.invokevirtual index, 3)) (hf : cells + mc ≤ R.cells ∧ slots + ms ≤ R.slots) :
    va_Run p l e R s m args below meth c H locs cells slots mc ms (F0 m pc ls st0) rest (Qc (Value.ref b :: As).toArray) A :=
  va_runV (C := y.cls) ⟨X.1, X.2.1, X.2.2.1, X.2.2.2.1, X.2.2.2.2.1⟩ hM (cwV n X.2.2.2.2.1 (gd_cons hl (gd_cons hin (gd_cons hse (gd_cons hi.2.1 (kgood hi))))) rfl hr.1 hr.2.1 ⟨rfl, hi.2.2⟩ hr.2.2) ⟨kblind, hrec, fun U hU hW => ⟨rfl, lpre X hK hS hA hA2 hB U hU hW⟩⟩ rfl hn hsz h0 (lv_room hw) hdg hf
theorem LI.hAC (I : LI D cA CM s x hs AM H locs K M) : ∀ q, H.size ≤ q → AC s AM q := fun q hq => ⟨Nat.le_trans I.1.1 hq, fun k hk e => by
  have := (I.2.2.2 k hk).2
  omega⟩
theorem LI.cls (I : LI D cA CM s x hs AM H locs K M) {K' : KT} {H1 : Heap} {locs1 : List Loc} (hS : va_S (AL s) s.heap H1 locs1) (hC : CW D (AC s AM) x hs cA K' H1) (hz : H.size ≤ H1.size) (hk : ∀ q : Nat, q < H.size → ¬ AC s AM q → H1[q]? = H[q]?) : LI D cA CM s x hs AM H1 locs1 K' M := by
  obtain ⟨-, -, ⟨hP, hD⟩, hAM⟩ := I
  refine ⟨hS, hC, ⟨hP.kept (fun k q hq => ?_), hD⟩, fun k hk1 => ⟨(hAM k hk1).1, by have := (hAM k hk1).2; omega⟩⟩
  obtain ⟨k10, e⟩ := mw_at AM CM M hq
  rw [e]
  exact hk _ (hAM k k10).2 (fun h => h.2 k k10 rfl)
theorem LI.mdl (I : LI D cA CM s x hs AM H locs K M) {M' : MT} {H1 : Heap} {locs1 : List Loc} (hS : va_S (AL s) s.heap H1 locs1) (hM : MW D (fun q => AO AM q ∨ H.size ≤ q) AM CM M' H1) (hz : H.size ≤ H1.size) (hk : ∀ q : Nat, q < H.size → ¬ (AO AM q ∨ H.size ≤ q) → H1[q]? = H[q]?) : LI D cA CM s x hs AM H1 locs1 K M' := by
  obtain ⟨-, ⟨hP, hD⟩, -, hAM⟩ := I
  refine ⟨hS, ⟨hP.kept (fun k q hq => ?_), hD⟩, ⟨hM.1, mw_AO hM.2⟩, fun k hk1 => ⟨(hAM k hk1).1, by have := (hAM k hk1).2; omega⟩⟩
  have hlt := (hP k q hq).lt
  have hac := hD.2 k q hq
  refine hk q.1 hlt (fun h => ?_)
  rcases h with ⟨j, hj, e⟩ | h
  · exact hac.2 j hj e
  · omega
theorem LI.mA (I : LI D cA CM s x hs AM H locs K M) : MW D (fun q => AO AM q ∨ H.size ≤ q) AM CM M H := ⟨I.2.2.1.1, I.2.2.1.2.1, fun k q hq => Or.inl ⟨k, mw_at AM CM M hq⟩⟩
theorem LI.mB (I : LI D cA CM s x hs AM H locs K M) : ∀ q, (AO AM q ∨ H.size ≤ q) → s.heap.size ≤ q := fun q h => by
  rcases h with ⟨k, hk, e⟩ | h
  · rw [e]
    exact (I.2.2.2 k hk).1
  · exact Nat.le_trans I.1.1 h
variable {S : Type}
theorem lC_i {KK : S → KT} {post : Int32 → S → Prop} (X : LC D cA CM p s m args c) (I : LI D cA CM s x hs AM H locs K M) (hsz : ls.size = 4) (hM : Met l y (kw y bytes maxL ret) rm (kP D (tysC cA) (AC s AM) (.ref x :: As) (CW D (AC s AM) x hs cA K)) (va_Qi post (fun u t => CW D (AC s AM) x hs cA (KK u) t.heap) (AC s AM)) mc ms (AC s AM)) (hy : y.cls = "MemberInspection") (hi : KI y bytes maxL ret n) (hl : Cond.methodLink "MemberInspectionLaw" index y ∈ gd_tbl) (hin : Cond.instanceMethod y ∈ gd_tbl) (hse : Cond.selects y.cls y y ∈ gd_tbl) (hr : KR rm R maxL mc ms) (hn : As.length = n) (h0 : st0 = As.reverse ++ .ref x :: rest) (hw : (rest.map fun v => v.category).sum ≤ 8) (hdg : decode b_L_law pc = .ok (.invokevirtual index, 3)) (hf : cells + mc ≤ R.cells ∧ slots + ms ≤ R.slots)
    (kk : ∀ (r : Int32) (u : S) (H1 : Heap) (locs1 : List Loc), post r u → LI D cA CM s x hs AM H1 locs1 (KK u) M → W p l e R s m args below meth c H1 locs1 (cells + mc) (slots + ms) Q (F0 m (pc + 3) ls (.int r :: rest))) : W p l e R s m args below meth c H locs cells slots Q (F0 m pc ls st0) :=
  va_calli (lrV X X.2.2.2.2.2.1 hsz I.1 (fun q h => h.1) I.hAC I.2.1 hM hi hl hin hse (by rw [hy]; exact va_recv (q0 := 0) (ci := 5) (q := (N_C, F_C, 3)) X.2.2.2.2.2.1 I.2.1.1 rfl rfl) hr hn h0 hw hdg hf) I.1 (fun q _ h => h.1) (fun q h => h.1) (fun r u t H1 locs1 ht _ hp hb hz hk hS1 => kk r u H1 locs1 hp (I.cls hS1 (ht ▸ hb) hz hk))
theorem lC_l {KK : S → KT} {post : Int64 → S → Prop} (X : LC D cA CM p s m args c) (I : LI D cA CM s x hs AM H locs K M) (hsz : ls.size = 4) (hM : Met l y (kw y bytes maxL ret) rm (kP D (tysC cA) (AC s AM) (.ref x :: As) (CW D (AC s AM) x hs cA K)) (va_Ql post (fun u t => CW D (AC s AM) x hs cA (KK u) t.heap) (AC s AM)) mc ms (AC s AM)) (hy : y.cls = "MemberInspection") (hi : KI y bytes maxL ret n) (hl : Cond.methodLink "MemberInspectionLaw" index y ∈ gd_tbl) (hin : Cond.instanceMethod y ∈ gd_tbl) (hse : Cond.selects y.cls y y ∈ gd_tbl) (hr : KR rm R maxL mc ms) (hn : As.length = n) (h0 : st0 = As.reverse ++ .ref x :: rest) (hw : (rest.map fun v => v.category).sum ≤ 8) (hdg : decode b_L_law pc = .ok (.invokevirtual index, 3)) (hf : cells + mc ≤ R.cells ∧ slots + ms ≤ R.slots)
    (kk : ∀ (r : Int64) (u : S) (H1 : Heap) (locs1 : List Loc), post r u → LI D cA CM s x hs AM H1 locs1 (KK u) M → W p l e R s m args below meth c H1 locs1 (cells + mc) (slots + ms) Q (F0 m (pc + 3) ls (.long r :: rest))) : W p l e R s m args below meth c H locs cells slots Q (F0 m pc ls st0) :=
  va_calll (lrV X X.2.2.2.2.2.1 hsz I.1 (fun q h => h.1) I.hAC I.2.1 hM hi hl hin hse (by rw [hy]; exact va_recv (q0 := 0) (ci := 5) (q := (N_C, F_C, 3)) X.2.2.2.2.2.1 I.2.1.1 rfl rfl) hr hn h0 hw hdg hf) I.1 (fun q _ h => h.1) (fun q h => h.1) (fun r u t H1 locs1 ht _ hp hb hz hk hS1 => kk r u H1 locs1 hp (I.cls hS1 (ht ▸ hb) hz hk))
theorem lM_i {MM : S → MT} {post : Int32 → S → Prop} (X : LC D cA CM p s m args c) (I : LI D cA CM s x hs AM H locs K M) (hsz : ls.size = 4) (hM : ∀ A : Nat → Prop, Met l y (kw y bytes maxL ret) rm (kP D (tysM CM) A (.ref (AM 0) :: As) (MW D A AM CM M)) (va_Qi post (fun u t => MW D A AM CM (MM u) t.heap) A) mc ms A) (hy : y.cls = "MemberInspectionModel") (hi : KI y bytes maxL ret n) (hl : Cond.methodLink "MemberInspectionLaw" index y ∈ gd_tbl) (hin : Cond.instanceMethod y ∈ gd_tbl) (hse : Cond.selects y.cls y y ∈ gd_tbl) (hr : KR rm R maxL mc ms) (hn : As.length = n) (h0 : st0 = As.reverse ++ .ref (AM 0) :: rest) (hw : (rest.map fun v => v.category).sum ≤ 8) (hdg : decode b_L_law pc = .ok (.invokevirtual index, 3)) (hf : cells + mc ≤ R.cells ∧ slots + ms ≤ R.slots)
    (kk : ∀ (r : Int32) (u : S) (H1 : Heap) (locs1 : List Loc), post r u → LI D cA CM s x hs AM H1 locs1 K (MM u) → W p l e R s m args below meth c H1 locs1 (cells + mc) (slots + ms) Q (F0 m (pc + 3) ls (.int r :: rest))) : W p l e R s m args below meth c H locs cells slots Q (F0 m pc ls st0) :=
  va_calli (lrV X X.2.2.2.2.2.2.1 hsz I.1 I.mB (fun q h => Or.inr h) I.mA (hM _) hi hl hin hse (by rw [hy]; exact va_recv (q0 := 0) (ci := 6) (q := (N_M, F_M, 14)) X.2.2.2.2.2.2.1 I.2.2.1.1 rfl rfl) hr hn h0 hw hdg hf) I.1 (fun q _ h => I.mB q h) (fun q h => I.mB q h) (fun r u t H1 locs1 ht _ hp hb hz hk hS1 => kk r u H1 locs1 hp (I.mdl hS1 (ht ▸ hb) hz hk))
theorem lM_l {MM : S → MT} {post : Int64 → S → Prop} (X : LC D cA CM p s m args c) (I : LI D cA CM s x hs AM H locs K M) (hsz : ls.size = 4) (hM : ∀ A : Nat → Prop, Met l y (kw y bytes maxL ret) rm (kP D (tysM CM) A (.ref (AM 0) :: As) (MW D A AM CM M)) (va_Ql post (fun u t => MW D A AM CM (MM u) t.heap) A) mc ms A) (hy : y.cls = "MemberInspectionModel") (hi : KI y bytes maxL ret n) (hl : Cond.methodLink "MemberInspectionLaw" index y ∈ gd_tbl) (hin : Cond.instanceMethod y ∈ gd_tbl) (hse : Cond.selects y.cls y y ∈ gd_tbl) (hr : KR rm R maxL mc ms) (hn : As.length = n) (h0 : st0 = As.reverse ++ .ref (AM 0) :: rest) (hw : (rest.map fun v => v.category).sum ≤ 8) (hdg : decode b_L_law pc = .ok (.invokevirtual index, 3)) (hf : cells + mc ≤ R.cells ∧ slots + ms ≤ R.slots)
    (kk : ∀ (r : Int64) (u : S) (H1 : Heap) (locs1 : List Loc), post r u → LI D cA CM s x hs AM H1 locs1 K (MM u) → W p l e R s m args below meth c H1 locs1 (cells + mc) (slots + ms) Q (F0 m (pc + 3) ls (.long r :: rest))) : W p l e R s m args below meth c H locs cells slots Q (F0 m pc ls st0) :=
  va_calll (lrV X X.2.2.2.2.2.2.1 hsz I.1 I.mB (fun q h => Or.inr h) I.mA (hM _) hi hl hin hse (by rw [hy]; exact va_recv (q0 := 0) (ci := 6) (q := (N_M, F_M, 14)) X.2.2.2.2.2.2.1 I.2.2.1.1 rfl rfl) hr hn h0 hw hdg hf) I.1 (fun q _ h => I.mB q h) (fun q h => I.mB q h) (fun r u t H1 locs1 ht _ hp hb hz hk hS1 => kk r u H1 locs1 hp (I.mdl hS1 (ht ▸ hb) hz hk))
/-- an entry of the script -/
theorem lld {b L i j : Nat} {J : Int} {v : Int32} {xs : Nat → Int32} (X : LC D cA CM p s m args c) (hX : va_X b L xs s s.heap) (hbl : b < s.heap.size) (hL : L ≤ 2560) (hS : va_S (AL s) s.heap H locs) (h0 : ls[0]? = some (.val (.ref b))) (h3 : ls[3]? = some (.val (.int (nI i)))) (hv : Int32.ofInt J = v) (hj : v = nI j) (hij : i + j < L) (d0 : decode b_L_law pc = .ok (.aload_n 0, 1)) (d1 : decode b_L_law (pc + 1) = .ok (.iload_n 3, 1)) (d2 : decode b_L_law (pc + 2) = .ok (.iconst J, 1)) (d3 : decode b_L_law (pc + 3) = .ok (.iadd, 1)) (d4 : decode b_L_law (pc + 4) = .ok (.iaload, 1))
    (kk : W p l e R s m args below meth c H locs cells slots Q (F0 m (pc + 5) ls (.int (xs (i + j)) :: rest))) : W p l e R s m args below meth c H locs cells slots Q (F0 m pc ls rest) := by
  refine lv_aload_n X.1 X.2.1 d0 rfl h0 ?_
  refine lv_iload_n X.1 X.2.1 d1 rfl h3 ?_
  refine lv_iconst X.1 X.2.1 d2 hv ?_
  refine lv_iadd X.1 X.2.1 d3 ?_
  have e1 : nI i + v = nI (i + j) := by rw [hj]; exact nI_add i j
  rw [e1]
  refine va_sld (b := b) (L := L) (xs := xs) X.1 X.2.1 hX hbl (fun h => absurd (show s.heap.size ≤ b from h) (by omega)) hS (vp_in_nI hij (by omega)) d4 ?_
  rw [nI_clamp (show i + j < 2 ^ 31 by omega)]
  exact kk
end LAW
