/-! calls over worlds in blocks; throws -/
section CALLS3
variable {p : Program} {l : Launch} {e : Env} {R : Room} {s : State} {m : MethodId} {args : Array Value} {below : List Frame} {meth : Method} {c : Code} {H : Heap} {locs : List Loc} {cells slots : Nat} {Q : State → Prop} {pc : Nat} {ls : Array Slot} {cc : ByteArray} {nL : Nat} {Ts : List Cond} {own C : String} {G : va_G} {tys : List (ClassId × FieldType)} {A : Nat → Prop} {bs c0 c1 bs2 : List va_W}
theorem bcall_iV {index : Nat} {y : MethodName} {bytes : ByteArray} {maxL n : Nat} {ret : Option FieldType} {wsy : List Cond} {rm : Room} {st As rest : List Value} {b : Nat} {w0 w1 : va_W} {r : Int32} (S : CallFix p m c cc nL s args Ts own)
    (hM : CI l G tys y wsy rm (.ref b :: As) w0 r w1) (cw : CallW R s args own C index y bytes maxL ret wsy rm 0 0 n) (hP : va_P G vwCl bs.flatten H) (hD : va_D A bs.flatten) (hS : va_S A s.heap H locs) (hA : ∀ q : Nat, s.heap.size ≤ q → A q) (hK : cK G tys s)
    (ci : Nat) {q : vw_C} {fs : List Value} (hc : vwCl[ci]? = some q) (hq : q.1 = C) (he : w0[0]? = some (b, .inr (ci, fs))) (isC : List Nat) (hC : isC.map (fun i => bs[i]?) = c0.map some) (hw : c0.flatten = w0) (hnd : va_nd isC = true) (hw1 : c1.flatten = w1) (hlen : isC.length = c1.length) (h2 : bx_put bs isC c1 = bs2) (hf1 : bs2.map (fun b => b.map (fun q => q.1)) = bs.map (fun b => b.map (fun q => q.1)))
    (hst : st = As.reverse ++ .ref b :: rest) (hn : As.length = n) (hsize : ls.size = nL) (hW : (rest.map fun v => v.category).sum ≤ 8) (hdg : decode cc pc = .ok (.invokevirtual index, 3)) (hf : cells ≤ R.cells ∧ slots ≤ R.slots)
    (kk : ∀ (H1 : Heap) (locs1 : List Loc), va_P G vwCl bs2.flatten H1 → va_D A bs2.flatten → va_S A s.heap H1 locs1 → W p l e R s m args below meth c H1 locs1 cells slots Q (F0 m (pc + 3) ls (.int r :: rest))) : W p l e R s m args below meth c H locs cells slots Q (F0 m pc ls st) := by
  obtain ⟨hPc, hDc⟩ := bx_sub hP hD isC hC hw hnd
  have hFc : ∀ q, va_A w0 H.size q → A q := by
    rintro q (⟨k, e, hk⟩ | hz)
    · exact hDc.2 k _ hk
    · exact hA q (Nat.le_trans hS.1 hz)
  subst hq
  refine va_calli (va_runV (As := As) (rest := rest) S (hM H.size) cw ⟨cPre_calling, va_recv hK.1 hPc (ci := ci) (q0 := 0) hc he, fun U hU hW => ⟨rfl, by rw [hU], by rw [hU]; exact hPc, cK.moved hW hK, hDc.weaken (fun _ _ _ _ => trivial)⟩⟩ rfl hn hsize hst (lv_room hW) hdg hf) hS (fun q _ h => hFc q h) hFc (fun r1 u t H1 locs ht hvm hw9 hB hz1 hk1 hS => ?_)
  obtain ⟨hP1, hD1⟩ := hB
  rw [ht] at hP1
  obtain ⟨hP2, hD2⟩ := bx_repl hP hD isC hC hw hk1 hP1 hw1 hlen h2 hf1
  subst hw9
  exact kk H1 locs hP2 hD2 hS
theorem bcall_lV {index : Nat} {y : MethodName} {bytes : ByteArray} {maxL n : Nat} {ret : Option FieldType} {wsy : List Cond} {rm : Room} {st As rest : List Value} {b : Nat} {w0 w1 : va_W} {r : Int64} (S : CallFix p m c cc nL s args Ts own)
    (hM : CL l G tys y wsy rm (.ref b :: As) w0 r w1) (cw : CallW R s args own C index y bytes maxL ret wsy rm 0 0 n) (hP : va_P G vwCl bs.flatten H) (hD : va_D A bs.flatten) (hS : va_S A s.heap H locs) (hA : ∀ q : Nat, s.heap.size ≤ q → A q) (hK : cK G tys s)
    (ci : Nat) {q : vw_C} {fs : List Value} (hc : vwCl[ci]? = some q) (hq : q.1 = C) (he : w0[0]? = some (b, .inr (ci, fs))) (isC : List Nat) (hC : isC.map (fun i => bs[i]?) = c0.map some) (hw : c0.flatten = w0) (hnd : va_nd isC = true) (hw1 : c1.flatten = w1) (hlen : isC.length = c1.length) (h2 : bx_put bs isC c1 = bs2) (hf1 : bs2.map (fun b => b.map (fun q => q.1)) = bs.map (fun b => b.map (fun q => q.1)))
    (hst : st = As.reverse ++ .ref b :: rest) (hn : As.length = n) (hsize : ls.size = nL) (hW : (rest.map fun v => v.category).sum ≤ 8) (hdg : decode cc pc = .ok (.invokevirtual index, 3)) (hf : cells ≤ R.cells ∧ slots ≤ R.slots)
    (kk : ∀ (H1 : Heap) (locs1 : List Loc), va_P G vwCl bs2.flatten H1 → va_D A bs2.flatten → va_S A s.heap H1 locs1 → W p l e R s m args below meth c H1 locs1 cells slots Q (F0 m (pc + 3) ls (.long r :: rest))) : W p l e R s m args below meth c H locs cells slots Q (F0 m pc ls st) := by
  obtain ⟨hPc, hDc⟩ := bx_sub hP hD isC hC hw hnd
  have hFc : ∀ q, va_A w0 H.size q → A q := by
    rintro q (⟨k, e, hk⟩ | hz)
    · exact hDc.2 k _ hk
    · exact hA q (Nat.le_trans hS.1 hz)
  subst hq
  refine va_calll (va_runV (As := As) (rest := rest) S (hM H.size) cw ⟨cPre_calling, va_recv hK.1 hPc (ci := ci) (q0 := 0) hc he, fun U hU hW => ⟨rfl, by rw [hU], by rw [hU]; exact hPc, cK.moved hW hK, hDc.weaken (fun _ _ _ _ => trivial)⟩⟩ rfl hn hsize hst (lv_room hW) hdg hf) hS (fun q _ h => hFc q h) hFc (fun r1 u t H1 locs ht hvm hw9 hB hz1 hk1 hS => ?_)
  obtain ⟨hP1, hD1⟩ := hB
  rw [ht] at hP1
  obtain ⟨hP2, hD2⟩ := bx_repl hP hD isC hC hw hk1 hP1 hw1 hlen h2 hf1
  subst hw9
  exact kk H1 locs hP2 hD2 hS
theorem bcall_vV {index : Nat} {y : MethodName} {bytes : ByteArray} {maxL n : Nat} {ret : Option FieldType} {wsy : List Cond} {rm : Room} {st As rest : List Value} {b : Nat} {w0 w1 : va_W}  (S : CallFix p m c cc nL s args Ts own)
    (hM : CV l G tys y wsy rm (.ref b :: As) w0 w1) (cw : CallW R s args own C index y bytes maxL ret wsy rm 0 0 n) (hP : va_P G vwCl bs.flatten H) (hD : va_D A bs.flatten) (hS : va_S A s.heap H locs) (hA : ∀ q : Nat, s.heap.size ≤ q → A q) (hK : cK G tys s)
    (ci : Nat) {q : vw_C} {fs : List Value} (hc : vwCl[ci]? = some q) (hq : q.1 = C) (he : w0[0]? = some (b, .inr (ci, fs))) (isC : List Nat) (hC : isC.map (fun i => bs[i]?) = c0.map some) (hw : c0.flatten = w0) (hnd : va_nd isC = true) (hw1 : c1.flatten = w1) (hlen : isC.length = c1.length) (h2 : bx_put bs isC c1 = bs2) (hf1 : bs2.map (fun b => b.map (fun q => q.1)) = bs.map (fun b => b.map (fun q => q.1)))
    (hst : st = As.reverse ++ .ref b :: rest) (hn : As.length = n) (hsize : ls.size = nL) (hW : (rest.map fun v => v.category).sum ≤ 8) (hdg : decode cc pc = .ok (.invokevirtual index, 3)) (hf : cells ≤ R.cells ∧ slots ≤ R.slots)
    (kk : ∀ (H1 : Heap) (locs1 : List Loc), va_P G vwCl bs2.flatten H1 → va_D A bs2.flatten → va_S A s.heap H1 locs1 → W p l e R s m args below meth c H1 locs1 cells slots Q (F0 m (pc + 3) ls rest)) : W p l e R s m args below meth c H locs cells slots Q (F0 m pc ls st) := by
  obtain ⟨hPc, hDc⟩ := bx_sub hP hD isC hC hw hnd
  have hFc : ∀ q, va_A w0 H.size q → A q := by
    rintro q (⟨k, e, hk⟩ | hz)
    · exact hDc.2 k _ hk
    · exact hA q (Nat.le_trans hS.1 hz)
  subst hq
  refine va_callv (va_runV (As := As) (rest := rest) S (hM H.size) cw ⟨cPre_calling, va_recv hK.1 hPc (ci := ci) (q0 := 0) hc he, fun U hU hW => ⟨rfl, by rw [hU], by rw [hU]; exact hPc, cK.moved hW hK, hDc.weaken (fun _ _ _ _ => trivial)⟩⟩ rfl hn hsize hst (lv_room hW) hdg hf) hS (fun q _ h => hFc q h) hFc (fun u t H1 locs ht hvm hw9 hB hz1 hk1 hS => ?_)
  obtain ⟨hP1, hD1⟩ := hB
  rw [ht] at hP1
  obtain ⟨hP2, hD2⟩ := bx_repl hP hD isC hC hw hk1 hP1 hw1 hlen h2 hf1
  exact kk H1 locs hP2 hD2 hS
theorem bcall_rV {index : Nat} {y : MethodName} {bytes : ByteArray} {maxL n : Nat} {ret : Option FieldType} {wsy : List Cond} {rm : Room} {st As rest : List Value} {b : Nat} {w0 w1 : va_W} {r : Nat} (S : CallFix p m c cc nL s args Ts own)
    (hM : CR l G tys y wsy rm (.ref b :: As) w0 r w1) (cw : CallW R s args own C index y bytes maxL ret wsy rm 0 0 n) (hP : va_P G vwCl bs.flatten H) (hD : va_D A bs.flatten) (hS : va_S A s.heap H locs) (hA : ∀ q : Nat, s.heap.size ≤ q → A q) (hK : cK G tys s)
    (ci : Nat) {q : vw_C} {fs : List Value} (hc : vwCl[ci]? = some q) (hq : q.1 = C) (he : w0[0]? = some (b, .inr (ci, fs))) (isC : List Nat) (hC : isC.map (fun i => bs[i]?) = c0.map some) (hw : c0.flatten = w0) (hnd : va_nd isC = true) (hw1 : c1.flatten = w1) (hlen : isC.length = c1.length) (h2 : bx_put bs isC c1 = bs2) (hf1 : bs2.map (fun b => b.map (fun q => q.1)) = bs.map (fun b => b.map (fun q => q.1)))
    (hst : st = As.reverse ++ .ref b :: rest) (hn : As.length = n) (hsize : ls.size = nL) (hW : (rest.map fun v => v.category).sum ≤ 8) (hdg : decode cc pc = .ok (.invokevirtual index, 3)) (hf : cells ≤ R.cells ∧ slots ≤ R.slots)
    (kk : ∀ (H1 : Heap) (locs1 : List Loc), va_P G vwCl bs2.flatten H1 → va_D A bs2.flatten → va_S A s.heap H1 locs1 → W p l e R s m args below meth c H1 locs1 cells slots Q (F0 m (pc + 3) ls (.ref r :: rest))) : W p l e R s m args below meth c H locs cells slots Q (F0 m pc ls st) := by
  obtain ⟨hPc, hDc⟩ := bx_sub hP hD isC hC hw hnd
  have hFc : ∀ q, va_A w0 H.size q → A q := by
    rintro q (⟨k, e, hk⟩ | hz)
    · exact hDc.2 k _ hk
    · exact hA q (Nat.le_trans hS.1 hz)
  subst hq
  refine va_callr (va_runV (As := As) (rest := rest) S (hM H.size) cw ⟨cPre_calling, va_recv hK.1 hPc (ci := ci) (q0 := 0) hc he, fun U hU hW => ⟨rfl, by rw [hU], by rw [hU]; exact hPc, cK.moved hW hK, hDc.weaken (fun _ _ _ _ => trivial)⟩⟩ rfl hn hsize hst (lv_room hW) hdg hf) hS (fun q _ h => hFc q h) hFc (fun u ra t H1 locs ht hvm hw9 hB hz1 hk1 hS => ?_)
  obtain ⟨rfl, hP1, hD1⟩ := hB
  rw [ht] at hP1
  obtain ⟨hP2, hD2⟩ := bx_repl hP hD isC hC hw hk1 hP1 hw1 hlen h2 hf1
  exact kk H1 locs hP2 hD2 hS
theorem bcall_iS {index : Nat} {y : MethodName} {bytes : ByteArray} {maxL n : Nat} {ret : Option FieldType} {wsy : List Cond} {rm : Room} {st As rest : List Value} {w0 w1 : va_W} {r : Int32} (S : CallFix p m c cc nL s args Ts own)
    (hM : CI l G tys y wsy rm As w0 r w1) (cw : CallB R s args own index y bytes maxL ret wsy rm 0 0 n ∧ (Cond.static y).before args s = true) (hP : va_P G vwCl bs.flatten H) (hD : va_D A bs.flatten) (hS : va_S A s.heap H locs) (hA : ∀ q : Nat, s.heap.size ≤ q → A q) (hK : cK G tys s)
    (isC : List Nat) (hC : isC.map (fun i => bs[i]?) = c0.map some) (hw : c0.flatten = w0) (hnd : va_nd isC = true) (hw1 : c1.flatten = w1) (hlen : isC.length = c1.length) (h2 : bx_put bs isC c1 = bs2) (hf1 : bs2.map (fun b => b.map (fun q => q.1)) = bs.map (fun b => b.map (fun q => q.1)))
    (hst : st = As.reverse ++ rest) (hn : As.length = n) (hsize : ls.size = nL) (hW : (rest.map fun v => v.category).sum ≤ 8) (hdg : decode cc pc = .ok (.invokestatic index, 3)) (hf : cells ≤ R.cells ∧ slots ≤ R.slots)
    (kk : ∀ (H1 : Heap) (locs1 : List Loc), va_P G vwCl bs2.flatten H1 → va_D A bs2.flatten → va_S A s.heap H1 locs1 → W p l e R s m args below meth c H1 locs1 cells slots Q (F0 m (pc + 3) ls (.int r :: rest))) : W p l e R s m args below meth c H locs cells slots Q (F0 m pc ls st) := by
  obtain ⟨hPc, hDc⟩ := bx_sub hP hD isC hC hw hnd
  have hFc : ∀ q, va_A w0 H.size q → A q := by
    rintro q (⟨k, e, hk⟩ | hz)
    · exact hDc.2 k _ hk
    · exact hA q (Nat.le_trans hS.1 hz)
  refine va_calli (va_runS (As := As) (rest := rest) S (hM H.size) cw ⟨cPre_calling, fun U hU hW => ⟨rfl, by rw [hU], by rw [hU]; exact hPc, cK.moved hW hK, hDc.weaken (fun _ _ _ _ => trivial)⟩⟩ rfl hn hsize hst (lv_room hW) hdg hf) hS (fun q _ h => hFc q h) hFc (fun r1 u t H1 locs ht hvm hw9 hB hz1 hk1 hS => ?_)
  obtain ⟨hP1, hD1⟩ := hB
  rw [ht] at hP1
  obtain ⟨hP2, hD2⟩ := bx_repl hP hD isC hC hw hk1 hP1 hw1 hlen h2 hf1
  subst hw9
  exact kk H1 locs hP2 hD2 hS
theorem bcall_vS {index : Nat} {y : MethodName} {bytes : ByteArray} {maxL n : Nat} {ret : Option FieldType} {wsy : List Cond} {rm : Room} {st As rest : List Value} {w0 w1 : va_W}  (S : CallFix p m c cc nL s args Ts own)
    (hM : CV l G tys y wsy rm As w0 w1) (cw : CallB R s args own index y bytes maxL ret wsy rm 0 0 n ∧ (Cond.static y).before args s = true) (hP : va_P G vwCl bs.flatten H) (hD : va_D A bs.flatten) (hS : va_S A s.heap H locs) (hA : ∀ q : Nat, s.heap.size ≤ q → A q) (hK : cK G tys s)
    (isC : List Nat) (hC : isC.map (fun i => bs[i]?) = c0.map some) (hw : c0.flatten = w0) (hnd : va_nd isC = true) (hw1 : c1.flatten = w1) (hlen : isC.length = c1.length) (h2 : bx_put bs isC c1 = bs2) (hf1 : bs2.map (fun b => b.map (fun q => q.1)) = bs.map (fun b => b.map (fun q => q.1)))
    (hst : st = As.reverse ++ rest) (hn : As.length = n) (hsize : ls.size = nL) (hW : (rest.map fun v => v.category).sum ≤ 8) (hdg : decode cc pc = .ok (.invokestatic index, 3)) (hf : cells ≤ R.cells ∧ slots ≤ R.slots)
    (kk : ∀ (H1 : Heap) (locs1 : List Loc), va_P G vwCl bs2.flatten H1 → va_D A bs2.flatten → va_S A s.heap H1 locs1 → W p l e R s m args below meth c H1 locs1 cells slots Q (F0 m (pc + 3) ls rest)) : W p l e R s m args below meth c H locs cells slots Q (F0 m pc ls st) := by
  obtain ⟨hPc, hDc⟩ := bx_sub hP hD isC hC hw hnd
  have hFc : ∀ q, va_A w0 H.size q → A q := by
    rintro q (⟨k, e, hk⟩ | hz)
    · exact hDc.2 k _ hk
    · exact hA q (Nat.le_trans hS.1 hz)
  refine va_callv (va_runS (As := As) (rest := rest) S (hM H.size) cw ⟨cPre_calling, fun U hU hW => ⟨rfl, by rw [hU], by rw [hU]; exact hPc, cK.moved hW hK, hDc.weaken (fun _ _ _ _ => trivial)⟩⟩ rfl hn hsize hst (lv_room hW) hdg hf) hS (fun q _ h => hFc q h) hFc (fun u t H1 locs ht hvm hw9 hB hz1 hk1 hS => ?_)
  obtain ⟨hP1, hD1⟩ := hB
  rw [ht] at hP1
  obtain ⟨hP2, hD2⟩ := bx_repl hP hD isC hC hw hk1 hP1 hw1 hlen h2 hf1
  exact kk H1 locs hP2 hD2 hS
end CALLS3
/-- what a throw needs, of the machine's own: casts, texts, two static fields -/
def xSt (U : State) : Prop := (va_Nw (.castable "java/lang/IllegalArgumentException" "java/lang/IllegalArgumentException") U ∧ va_Nw (.castable "java/lang/IllegalStateException" "java/lang/IllegalStateException") U ∧ va_Nw (.castable "java/lang/IndexOutOfBoundsException" "java/lang/IndexOutOfBoundsException") U ∧ va_Nw (.declares (Bundle.initS "java/lang/RuntimeException")) U ∧ va_Nw (.declares (Bundle.initS "java/lang/Exception")) U ∧ va_Nw (.declares (Bundle.initS Bundle.tN)) U) ∧ ((∃ a, vk_R RX5 39 "speed or life is out of range" a U) ∧ (∃ a, vk_R RX5 50 "there is no room for one more fighter" a U) ∧ (∃ a, vk_R RX5 93 "the list has no such place" a U) ∧ (∃ a, vk_R RX5 129 "no act of this kind" a U) ∧ (∃ a, vk_R RX5 148 "no such act on the stack" a U) ∧ (∃ a, vk_R RX5 222 "no such fighter" a U) ∧ (∃ a, vk_R RX5 224 "no such effect" a U) ∧ (∃ a, vk_R RX5 226 "an argument is out of range" a U) ∧ (∃ a, vk_R RX5 228 "not possible now" a U))
def xZ (A : Nat → Prop) (U : State) (H : Heap) : Prop := vx_Zq Bundle.tN "UNASSIGNED_STACK" Bundle.steD A U H ∧ vx_Zq Bundle.tN "SUPPRESSED_SENTINEL" Bundle.listD A U H
theorem xR_warm {own tx : String} {k : Nat} {s U : State} (hW : s.WarmedH U.vm) (h : ∃ a, vk_R own k tx a s) : ∃ a, vk_R own k tx a U := h.elim fun a h => ⟨a, vk_R.warm hW h⟩
theorem xR_same {own tx : String} {k : Nat} {u U : State} (hv : U.vm = u.vm) (h : ∃ a, vk_R own k tx a u) : ∃ a, vk_R own k tx a U := h.elim fun a h => ⟨a, vk_R.same hv h⟩
theorem xSt.moved {s U : State} (hW : s.WarmedH U.vm) (h : xSt s) : xSt U := by
  obtain ⟨⟨a1, a2, a3, a4, a5, a6⟩, b0, b1, b2, b3, b4, b5, b6, b7, b8⟩ := h
  exact ⟨⟨va_Nw.warmC hW a1, va_Nw.warmC hW a2, va_Nw.warmC hW a3, va_Nw.warmD hW a4, va_Nw.warmD hW a5, va_Nw.warmD hW a6⟩, xR_warm hW b0, xR_warm hW b1, xR_warm hW b2, xR_warm hW b3, xR_warm hW b4, xR_warm hW b5, xR_warm hW b6, xR_warm hW b7, xR_warm hW b8⟩
theorem xSt.same {u U : State} (hv : U.vm = u.vm) (h : xSt u) : xSt U := by
  obtain ⟨⟨a1, a2, a3, a4, a5, a6⟩, b0, b1, b2, b3, b4, b5, b6, b7, b8⟩ := h
  exact ⟨⟨va_Nw.same rfl hv.symm a1, va_Nw.same rfl hv.symm a2, va_Nw.same rfl hv.symm a3, va_Nw.same rfl hv.symm a4, va_Nw.same rfl hv.symm a5, va_Nw.same rfl hv.symm a6⟩, xR_same hv b0, xR_same hv b1, xR_same hv b2, xR_same hv b3, xR_same hv b4, xR_same hv b5, xR_same hv b6, xR_same hv b7, xR_same hv b8⟩
def xPre (G : va_G) (tys : List (ClassId × FieldType)) (w : va_W) (sz : Nat) : State → Prop := fun U => cPre G tys w sz U ∧ xSt U ∧ xZ (va_A w sz) U U.heap
theorem xPre_calling {av : List Value} {G : va_G} {tys : List (ClassId × FieldType)} {w : va_W} {sz : Nat} : FrameBlind (va_Pc av (xPre G tys w sz)) :=
  fun a U g mk q => by
    obtain ⟨q0, ⟨q1, qP, qK, qD⟩, qX, qZ1, qZ2⟩ := q
    exact ⟨q0, ⟨q1, qP, ⟨va_K.moved (u := U) (U := U.calling g mk a) (Vm.Alike.refl U.vm) qK.1, va_Nw.same rfl (u := U) (U := U.calling g mk a) rfl qK.2⟩, qD⟩, xSt.same (u := U) (U := U.calling g mk a) rfl qX, vx_Zq.moved (u := U) (U := U.calling g mk a) (Vm.Alike.refl U.vm) qZ1, vx_Zq.moved (u := U) (U := U.calling g mk a) (Vm.Alike.refl U.vm) qZ2⟩
def xQ {T : Type} (G : va_G) (w0 : va_W) (out : String ⊕ T) (A : Nat → Prop) : String → State → State → Prop := vx_X (fun (_ : Unit) => True) (fun E _ t => out = .inl E ∧ va_P G vwCl w0 t.heap ∧ va_D A w0) A
/-- a method that answers an int, or throws and leaves the world as it is -/
abbrev XI {T : Type} (l : Launch) (G : va_G) (tys : List (ClassId × FieldType)) (y : MethodName) (ws : List Cond) (rm : Room) (av : List Value) (w0 : va_W) (out : String ⊕ T) (rv : T → Int32) (w1 : T → va_W) (mc ms : Nat) : Prop :=
  ∀ sz : Nat, vx_Met l y ws rm (va_Pc av (xPre G tys w0 sz)) (va_Qi (fun r' (u : T) => out = .inr u ∧ r' = rv u) (fun u => cB G (w1 u) (va_A w0 sz) ()) (va_A w0 sz)) (xQ G w0 out (va_A w0 sz)) mc ms (va_A w0 sz)
abbrev XV {T : Type} (l : Launch) (G : va_G) (tys : List (ClassId × FieldType)) (y : MethodName) (ws : List Cond) (rm : Room) (av : List Value) (w0 : va_W) (out : String ⊕ T) (w1 : T → va_W) (mc ms : Nat) : Prop :=
  ∀ sz : Nat, vx_Met l y ws rm (va_Pc av (xPre G tys w0 sz)) (va_Qv (fun (u : T) => out = .inr u) (fun u => cB G (w1 u) (va_A w0 sz) ()) (va_A w0 sz)) (xQ G w0 out (va_A w0 sz)) mc ms (va_A w0 sz)
theorem o_e {α β : Type} {E : String} {f : α → Option (String ⊕ β)} {r : String ⊕ β} (h : (Sum.inl E : String ⊕ α).elim (fun E => some (.inl E)) f = some r) : r = .inl E := o_s h
theorem o_r {α β : Type} {v : α} {f : α → Option (String ⊕ β)} {r : String ⊕ β} (h : (Sum.inr v : String ⊕ α).elim (fun E => some (.inl E)) f = some r) : f v = some r := h
section CALLS4
variable {p : Program} {l : Launch} {e : Env} {R : Room} {s : State} {m : MethodId} {args : Array Value} {below : List Frame} {meth : Method} {c : Code} {H : Heap} {locs : List Loc} {cells slots : Nat} {Q : State → Prop} {pc : Nat} {ls : Array Slot} {cc : ByteArray} {nL : Nat} {Ts : List Cond} {own C : String} {G : va_G} {tys : List (ClassId × FieldType)} {A : Nat → Prop} {bs c0 c1 bs2 : List va_W}
theorem x_keep {H1 : Heap} {w : va_W} (hP : va_P G vwCl w H) (hq : ∀ q : Nat, q < H.size → H1[q]? = H[q]?) : va_P G vwCl w H1 := va_P.kept hP (fun _ q hk => hq q.1 (vx_lt hP hk))
theorem x_throw {T : Type} {out : String ⊕ T} {E text : String} {names : List String} {ik is ic mc ms : Nat} {Qc : Array Value → State → Outcome → State → Prop} {w0 : va_W} {rest : List Value} (hx : p.tables.exec = Jvm.exec) (hb : c.code = cc) (hl : l.stackTraces = false)
    (hown : s.vm.findClass own = some m.cls) (hcls : Bundle.fit E = true) (hnames : ∀ n ∈ names, Bundle.fit n = true)
    (hk : (Cond.classLink own ik E).before args s = true) (hini : (Cond.initialized E).before args s = true) (hstr : ∃ sa, vk_R own is text sa s) (hat : ∀ w ∈ vx_atS own ic E names, w.before args s = true)
    (hgood : ∀ w ∈ Cond.classLink own ik E :: Cond.initialized E :: vx_atS own ic E names, vx_ot w = true) (hZ : xZ A s s.heap) (hP : va_P G vwCl w0 H) (hD : va_D A w0) (hS : va_S A s.heap H locs) (hsize : ls.size = c.maxLocals)
    (d0 : decode cc pc = .ok (.new ik, 3)) (d3 : decode cc (pc + 3) = .ok (.dup, 1)) (d4 : decode cc (pc + 4) = .ok (.ldc is, 2)) (d6 : decode cc (pc + 6) = .ok (.invokespecial ic, 3)) (d9 : decode cc (pc + 9) = .ok (.athrow, 1))
    (hnx : ∀ x ∈ c.exceptionTable.toList, False) (hRf : names.length + 3 < R.frames) (hRl : (rest.map fun v => v.category).sum + (13 * (names.length + 1) + 43) ≤ R.locals) (hRc : cells + 1 ≤ R.cells) (hRs : slots + 6 ≤ R.slots) (hlocks : meth.locks = false)
    (hout : out = .inl E) (hc : cells + 1 ≤ mc) (hs : slots + 6 ≤ ms) :
    W p l e R s m args below meth c H locs cells slots (vx_MQ below Qc (xQ G w0 out A) args s mc ms A) (F0 m pc ls rest) := by
  obtain ⟨sa, hstr⟩ := hstr
  refine vx_throwS hx hb hl hown hcls hnames hk hini hstr hat hgood hZ.1 hZ.2 hS hsize d0 d3 d4 d6 d9 (fun x h => (hnx x h).elim) hRf hRl hRc hRs hlocks (fun t hal hsz hq => ?_) hS.2.2 hc hs
  exact ⟨(), trivial, ⟨hout, x_keep hP hq, hD⟩, Nat.le_trans hS.1 hsz, fun q h1 h2 => by rw [hq q (Nat.lt_of_lt_of_le h1 hS.1)]; exact hS.2.1 q h1 h2⟩
theorem x_pass {T : Type} {out : String ⊕ T} {E : String} {ce : Cell} {q9 : Addr} {mc ms : Nat} {Qc : Array Value → State → Outcome → State → Prop} {w0 : va_W} {rest : List Value} (hP : va_P G vwCl w0 H) (hD : va_D A w0) (hS : va_S A s.heap H locs) (hnx : ∀ x ∈ c.exceptionTable.toList, False) (hlocks : meth.locks = false)
    (hcell : H[q9]? = some ce) (hv : ce.vm = .none) (hcl : s.vm.findClass E = some ce.cls) (hout : out = .inl E) (hc : cells ≤ mc) (hs : slots ≤ ms) :
    vx_W p l e R s m args below meth c H locs cells slots (vx_MQ below Qc (xQ G w0 out A) args s mc ms A) (F0 m pc ls rest) q9 :=
  vx_out (fun x h => (hnx x h).elim) hlocks hcell hv hcl (fun t ht hal => ⟨(), trivial, ⟨hout, by rw [ht]; exact hP, hD⟩, hS.F ht⟩) hS.2.2 hc hs
theorem xend_i {T : Type} {out : String ⊕ T} {v : Int32} {u : T} {rv : T → Int32} {w1 : T → va_W} {w0 : va_W} {mc ms : Nat} (hx : p.tables.exec = Jvm.exec) (hb : c.code = cc) (hr : meth.sig.returnType = some .int) (ho : out = .inr u) (hv : v = rv u) (hP : va_P G vwCl (w1 u) H) (hD : va_D A (w1 u)) (hS : va_S A s.heap H locs) (hdg : decode cc pc = .ok (.ireturn, 1)) (hlocks : meth.locks = false) (hc : cells ≤ mc) (hs : slots ≤ ms) :
    W p l e R s m args below meth c H locs cells slots (vx_MQ below (va_Qi (fun r' (u : T) => out = .inr u ∧ r' = rv u) (fun u => cB G (w1 u) A ()) A) (xQ G w0 out A) args s mc ms A) (F0 m pc ls [.int v]) :=
  vx_ret (W.widen hc hs (W.iret hx hb hr (fun t ht hW => ⟨⟨v, u, rfl, ⟨ho, hv⟩, by rw [ht]; exact hP, hD⟩, hS.F ht⟩) hS.2.2 hdg hlocks))
theorem xend_z {T : Type} {out : String ⊕ T} {v : Int32} {u : T} {rv : T → Int32} {w1 : T → va_W} {w0 : va_W} {mc ms : Nat} (hx : p.tables.exec = Jvm.exec) (hb : c.code = cc) (hr : meth.sig.returnType = some .boolean) (ho : out = .inr u) (hv : v = rv u) (hn : narrow .boolean (.int v) = .int v) (hP : va_P G vwCl (w1 u) H) (hD : va_D A (w1 u)) (hS : va_S A s.heap H locs) (hdg : decode cc pc = .ok (.ireturn, 1)) (hlocks : meth.locks = false) (hc : cells ≤ mc) (hs : slots ≤ ms) :
    W p l e R s m args below meth c H locs cells slots (vx_MQ below (va_Qi (fun r' (u : T) => out = .inr u ∧ r' = rv u) (fun u => cB G (w1 u) A ()) A) (xQ G w0 out A) args s mc ms A) (F0 m pc ls [.int v]) :=
  vx_ret (W.widen hc hs (W.zret hx hb hr hn (fun t ht hW => ⟨⟨v, u, rfl, ⟨ho, hv⟩, by rw [ht]; exact hP, hD⟩, hS.F ht⟩) hS.2.2 hdg hlocks))
theorem xend_v {T : Type} {out : String ⊕ T} {u : T} {w1 : T → va_W} {w0 : va_W} {mc ms : Nat} (hx : p.tables.exec = Jvm.exec) (hb : c.code = cc) (hr : meth.sig.returnType = none) (ho : out = .inr u) (hP : va_P G vwCl (w1 u) H) (hD : va_D A (w1 u)) (hS : va_S A s.heap H locs) (hdg : decode cc pc = .ok (.return_, 1)) (hlocks : meth.locks = false) (hc : cells ≤ mc) (hs : slots ≤ ms) :
    W p l e R s m args below meth c H locs cells slots (vx_MQ below (va_Qv (fun (u : T) => out = .inr u) (fun u => cB G (w1 u) A ()) A) (xQ G w0 out A) args s mc ms A) (F0 m pc ls []) :=
  vx_ret (W.widen hc hs (W.vret hx hb hr (fun t ht hW => ⟨⟨u, rfl, ho, by rw [ht]; exact hP, hD⟩, hS.F ht⟩) hS.2.2 hdg hlocks))
theorem xcall_vV {index : Nat} {y : MethodName} {bytes : ByteArray} {maxL n mc0 ms0 : Nat} {ret : Option FieldType} {wsy : List Cond} {rm : Room} {st As rest : List Value} {b : Nat} {w0 : va_W} {out : String ⊕ Unit} (S : CallFix p m c cc nL s args Ts own)
    (hM : XV l G tys y wsy rm (.ref b :: As) w0 out (fun _ => w0) mc0 ms0) (cw : CallW R s args own C index y bytes maxL ret wsy rm mc0 ms0 n) (hP : va_P G vwCl bs.flatten H) (hD : va_D A bs.flatten) (hS : va_S A s.heap H locs) (hA : ∀ q : Nat, s.heap.size ≤ q → A q) (hK : cK G tys s) (hX : xSt s) (hZ : xZ A s s.heap)
    (ci : Nat) {q : vw_C} {fs : List Value} (hc : vwCl[ci]? = some q) (hq : q.1 = C) (he : w0[0]? = some (b, .inr (ci, fs))) (isC : List Nat) (hC : isC.map (fun i => bs[i]?) = c0.map some) (hw : c0.flatten = w0) (hnd : va_nd isC = true) (hlen : isC.length = c0.length) (h2 : bx_put bs isC c0 = bs)
    (hst : st = As.reverse ++ .ref b :: rest) (hn : As.length = n) (hsize : ls.size = nL) (hW : (rest.map fun v => v.category).sum ≤ 8) (hdg : decode cc pc = .ok (.invokevirtual index, 3)) (hf : cells + mc0 ≤ R.cells ∧ slots + ms0 ≤ R.slots)
    (kx : ∀ (E : String) (H1 : Heap) (locs1 : List Loc) (ce : Cell) (q9 : Addr), out = .inl E → va_P G vwCl bs.flatten H1 → va_D A bs.flatten → va_S A s.heap H1 locs1 → H1[q9]? = some ce → ce.vm = .none → s.vm.findClass E = some ce.cls → vx_W p l e R s m args below meth c H1 locs1 (cells + mc0) (slots + ms0) Q (F0 m pc ls rest) q9)
    (kk : ∀ (u : Unit) (H1 : Heap) (locs1 : List Loc), out = .inr u → va_P G vwCl bs.flatten H1 → va_D A bs.flatten → va_S A s.heap H1 locs1 → W p l e R s m args below meth c H1 locs1 (cells + mc0) (slots + ms0) Q (F0 m (pc + 3) ls rest)) : W p l e R s m args below meth c H locs cells slots Q (F0 m pc ls st) := by
  obtain ⟨hPc, hDc⟩ := bx_sub hP hD isC hC hw hnd
  have hFc : ∀ q, va_A w0 H.size q → A q := by
    rintro q (⟨k, e, hk⟩ | hz)
    · exact hDc.2 k _ hk
    · exact hA q (Nat.le_trans hS.1 hz)
  subst hq
  refine vx_callv (vx_runV (As := As) (rest := rest) S (hM H.size) cw ⟨xPre_calling, va_recv hK.1 hPc (ci := ci) (q0 := 0) hc he, fun U hU hW => ⟨rfl, ⟨by rw [hU], by rw [hU]; exact hPc, cK.moved hW hK, hDc.weaken (fun _ _ _ _ => trivial)⟩, xSt.moved hW hX, by rw [hU]; exact vx_Zq.moved hW.alike ((hZ.1.kept hS.2.1).narrow hFc), by rw [hU]; exact vx_Zq.moved hW.alike ((hZ.2.kept hS.2.1).narrow hFc)⟩⟩ rfl hn hsize hst (lv_room hW) hdg hf) hS (fun q _ h => hFc q h) hFc (fun q _ h => hFc q h) (fun E ce q9 u t H1 locs1 ht hvm hpx hB hz1 hk1 hS1 hcell hv hcl => ?_) (fun u t H1 locs1 ht hvm hw9 hB hz1 hk1 hS1 => ?_)
  · obtain ⟨ho, hP1, hD1⟩ := hB
    rw [ht] at hP1
    obtain ⟨hP2, hD2⟩ := bx_repl hP hD isC hC hw hk1 hP1 hw hlen h2 rfl
    exact kx E H1 locs1 ce q9 ho hP2 hD2 hS1 hcell hv hcl
  · obtain ⟨hP1, hD1⟩ := hB
    rw [ht] at hP1
    obtain ⟨hP2, hD2⟩ := bx_repl hP hD isC hC hw hk1 hP1 hw hlen h2 rfl
    exact kk u H1 locs1 hw9 hP2 hD2 hS1
theorem xcall_vS {index : Nat} {y : MethodName} {bytes : ByteArray} {maxL n mc0 ms0 : Nat} {ret : Option FieldType} {wsy : List Cond} {rm : Room} {st As rest : List Value} {w0 : va_W} {out : String ⊕ Unit} (S : CallFix p m c cc nL s args Ts own)
    (hM : XV l G tys y wsy rm As w0 out (fun _ => w0) mc0 ms0) (cw : CallB R s args own index y bytes maxL ret wsy rm mc0 ms0 n ∧ (Cond.static y).before args s = true) (hP : va_P G vwCl bs.flatten H) (hD : va_D A bs.flatten) (hS : va_S A s.heap H locs) (hA : ∀ q : Nat, s.heap.size ≤ q → A q) (hK : cK G tys s) (hX : xSt s) (hZ : xZ A s s.heap)
    (isC : List Nat) (hC : isC.map (fun i => bs[i]?) = c0.map some) (hw : c0.flatten = w0) (hnd : va_nd isC = true) (hlen : isC.length = c0.length) (h2 : bx_put bs isC c0 = bs)
    (hst : st = As.reverse ++ rest) (hn : As.length = n) (hsize : ls.size = nL) (hW : (rest.map fun v => v.category).sum ≤ 8) (hdg : decode cc pc = .ok (.invokestatic index, 3)) (hf : cells + mc0 ≤ R.cells ∧ slots + ms0 ≤ R.slots)
    (kx : ∀ (E : String) (H1 : Heap) (locs1 : List Loc) (ce : Cell) (q9 : Addr), out = .inl E → va_P G vwCl bs.flatten H1 → va_D A bs.flatten → va_S A s.heap H1 locs1 → H1[q9]? = some ce → ce.vm = .none → s.vm.findClass E = some ce.cls → vx_W p l e R s m args below meth c H1 locs1 (cells + mc0) (slots + ms0) Q (F0 m pc ls rest) q9)
    (kk : ∀ (u : Unit) (H1 : Heap) (locs1 : List Loc), out = .inr u → va_P G vwCl bs.flatten H1 → va_D A bs.flatten → va_S A s.heap H1 locs1 → W p l e R s m args below meth c H1 locs1 (cells + mc0) (slots + ms0) Q (F0 m (pc + 3) ls rest)) : W p l e R s m args below meth c H locs cells slots Q (F0 m pc ls st) := by
  obtain ⟨hPc, hDc⟩ := bx_sub hP hD isC hC hw hnd
  have hFc : ∀ q, va_A w0 H.size q → A q := by
    rintro q (⟨k, e, hk⟩ | hz)
    · exact hDc.2 k _ hk
    · exact hA q (Nat.le_trans hS.1 hz)
  refine vx_callv (vx_runS (As := As) (rest := rest) S (hM H.size) cw ⟨xPre_calling, fun U hU hW => ⟨rfl, ⟨by rw [hU], by rw [hU]; exact hPc, cK.moved hW hK, hDc.weaken (fun _ _ _ _ => trivial)⟩, xSt.moved hW hX, by rw [hU]; exact vx_Zq.moved hW.alike ((hZ.1.kept hS.2.1).narrow hFc), by rw [hU]; exact vx_Zq.moved hW.alike ((hZ.2.kept hS.2.1).narrow hFc)⟩⟩ rfl hn hsize hst (lv_room hW) hdg hf) hS (fun q _ h => hFc q h) hFc (fun q _ h => hFc q h) (fun E ce q9 u t H1 locs1 ht hvm hpx hB hz1 hk1 hS1 hcell hv hcl => ?_) (fun u t H1 locs1 ht hvm hw9 hB hz1 hk1 hS1 => ?_)
  · obtain ⟨ho, hP1, hD1⟩ := hB
    rw [ht] at hP1
    obtain ⟨hP2, hD2⟩ := bx_repl hP hD isC hC hw hk1 hP1 hw hlen h2 rfl
    exact kx E H1 locs1 ce q9 ho hP2 hD2 hS1 hcell hv hcl
  · obtain ⟨hP1, hD1⟩ := hB
    rw [ht] at hP1
    obtain ⟨hP2, hD2⟩ := bx_repl hP hD isC hC hw hk1 hP1 hw hlen h2 rfl
    exact kk u H1 locs1 hw9 hP2 hD2 hS1
end CALLS4
