/-! calls over worlds in blocks; throws -/
section CALLS3
variable {p : Program} {l : Launch} {e : Env} {R : Room} {s : State} {m : MethodId} {args : Array Value} {below : List Frame} {meth : Method} {c : Code} {H : Heap} {locs : List Loc} {cells slots : Nat} {Q : State → Prop} {pc : Nat} {ls : Array Slot} {cc : ByteArray} {nL : Nat} {Ts : List Cond} {own C : String} {G : va_G} {tys : List (ClassId × FieldType)} {A : Nat → Prop} {bs c0 c1 bs2 : List va_W}
theorem bcall_iV {index : Nat} {y : MethodName} {bytes : ByteArray} {maxL n : Nat} {ret : Option FieldType} {wsy : List Cond} {rm : Room} {st As rest : List Value} {b : Nat} {w0 w1 : va_W} {r : Int32} (S : CallFix p m c cc nL s args Ts own)
    (hM : CI l G tys y wsy rm (.ref b :: As) w0 r w1) (cw : CallW R s args own C index y bytes maxL ret wsy rm 0 0 n) (hP : va_P G vwCl bs.flatten H) (hD : va_D A bs.flatten) (hS : va_S A s.heap H locs) (hA : ∀ q : Nat, s.heap.size ≤ q → A q) (hK : cK G tys s)
    (ci : Nat) {q : vw_C} {fs : List Value} (hc : vwCl[ci]? = some q) (hq : q.1 = C) (he : w0[0]? = some (b, .inr (ci, fs))) (isC : List Nat) (hC : isC.map (fun i => bs[i]?) = c0.map some) (hw : c0.flatten = w0) (hnd : va_nd isC = true) (hw1 : c1.flatten = w1) (hlen : isC.length = c1.length) (h2 : bx_put bs isC c1 = bs2) (hf1 : bs2.map (fun b => b.map (fun q => q.1)) = bs.map (fun b => b.map (fun q => q.1)))
    (hst : st = As.reverse ++ .ref b :: rest) (hn : As.length = n) (hsize : ls.size = nL) (hW : (rest.map fun v => v.category).sum ≤ 8) (hdg : decode cc pc = .ok (.invokevirtual index, 3)) (hf : cells ≤ R.cells ∧ slots ≤ R.slots)
    (kk : ∀ (H1 : Heap) (locs1 : List Loc), va_P G vwCl bs2.flatten H1 → va_D A bs2.flatten → va_S A s.heap H1 locs1 → W p l e R s m args below meth c H1 locs1 cells slots Q (F0 m (pc + 3) ls (.int r :: rest))) : W p l e R s m args below meth c H locs cells slots Q (F0 m pc ls st) := by
  obtain ⟨hPc, hDc⟩ := bx_sub hP hD isC hC hw hnd
  have hFc : ∀ q, va_A w0 H.size q → A q := by
    rintro q (⟨k, e, hk⟩ | hz)
    · exact hDc.2 k _ hk
    · exact hA q (Nat.le_trans hS.1 hz)
  subst hq
  refine va_calli (va_runV (As := As) (rest := rest) S (hM H.size) cw ⟨cPre_calling, va_recv hK.1 hPc (ci := ci) (q0 := 0) hc he, fun U hU hW => ⟨rfl, by rw [hU], by rw [hU]; exact hPc, cK.moved hW hK, hDc.weaken (fun _ _ _ _ => trivial)⟩⟩ rfl hn hsize hst (lv_room hW) hdg hf) hS (fun q _ h => hFc q h) hFc (fun r1 u t H1 locs ht hvm hw9 hB hz1 hk1 hS => ?_)
  obtain ⟨hP1, hD1⟩ := hB
  rw [ht] at hP1
  obtain ⟨hP2, hD2⟩ := bx_repl hP hD isC hC hw hk1 hP1 hw1 hlen h2 hf1
  subst hw9
  exact kk H1 locs hP2 hD2 hS
theorem bcall_lV {index : Nat} {y : MethodName} {bytes : ByteArray} {maxL n : Nat} {ret : Option FieldType} {wsy : List Cond} {rm : Room} {st As rest : List Value} {b : Nat} {w0 w1 : va_W} {r : Int64} (S : CallFix p m c cc nL s args Ts own)
    (hM : CL l G tys y wsy rm (.ref b :: As) w0 r w1) (cw : CallW R s args own C index y bytes maxL ret wsy rm 0 0 n) (hP : va_P G vwCl bs.flatten H) (hD : va_D A bs.flatten) (hS : va_S A s.heap H locs) (hA : ∀ q : Nat, s.heap.size ≤ q → A q) (hK : cK G tys s)
    (ci : Nat) {q : vw_C} {fs : List Value} (hc : vwCl[ci]? = some q) (hq : q.1 = C) (he : w0[0]? = some (b, .inr (ci, fs))) (isC : List Nat) (hC : isC.map (fun i => bs[i]?) = c0.map some) (hw : c0.flatten = w0) (hnd : va_nd isC = true) (hw1 : c1.flatten = w1) (hlen : isC.length = c1.length) (h2 : bx_put bs isC c1 = bs2) (hf1 : bs2.map (fun b => b.map (fun q => q.1)) = bs.map (fun b => b.map (fun q => q.1)))
    (hst : st = As.reverse ++ .ref b :: rest) (hn : As.length = n) (hsize : ls.size = nL) (hW : (rest.map fun v => v.category).sum ≤ 8) (hdg : decode cc pc = .ok (.invokevirtual index, 3)) (hf : cells ≤ R.cells ∧ slots ≤ R.slots)
    (kk : ∀ (H1 : Heap) (locs1 : List Loc), va_P G vwCl bs2.flatten H1 → va_D A bs2.flatten → va_S A s.heap H1 locs1 → W p l e R s m args below meth c H1 locs1 cells slots Q (F0 m (pc + 3) ls (.long r :: rest))) : W p l e R s m args below meth c H locs cells slots Q (F0 m pc ls st) := by
  obtain ⟨hPc, hDc⟩ := bx_sub hP hD isC hC hw hnd
  have hFc : ∀ q, va_A w0 H.size q → A q := by
    rintro q (⟨k, e, hk⟩ | hz)
    · exact hDc.2 k _ hk
    · exact hA q (Nat.le_trans hS.1 hz)
  subst hq
  refine va_calll (va_runV (As := As) (rest := rest) S (hM H.size) cw ⟨cPre_calling, va_recv hK.1 hPc (ci := ci) (q0 := 0) hc he, fun U hU hW => ⟨rfl, by rw [hU], by rw [hU]; exact hPc, cK.moved hW hK, hDc.weaken (fun _ _ _ _ => trivial)⟩⟩ rfl hn hsize hst (lv_room hW) hdg hf) hS (fun q _ h => hFc q h) hFc (fun r1 u t H1 locs ht hvm hw9 hB hz1 hk1 hS => ?_)
  obtain ⟨hP1, hD1⟩ := hB
  rw [ht] at hP1
  obtain ⟨hP2, hD2⟩ := bx_repl hP hD isC hC hw hk1 hP1 hw1 hlen h2 hf1
  subst hw9
  exact kk H1 locs hP2 hD2 hS
theorem bcall_vV {index : Nat} {y : MethodName} {bytes : ByteArray} {maxL n : Nat} {ret : Option FieldType} {wsy : List Cond} {rm : Room} {st As rest : List Value} {b : Nat} {w0 w1 : va_W}  (S : CallFix p m c cc nL s args Ts own)
    (hM : CV l G tys y wsy rm (.ref b :: As) w0 w1) (cw : CallW R s args own C index y bytes maxL ret wsy rm 0 0 n) (hP : va_P G vwCl bs.flatten H) (hD : va_D A bs.flatten) (hS : va_S A s.heap H locs) (hA : ∀ q : Nat, s.heap.size ≤ q → A q) (hK : cK G tys s)
    (ci : Nat) {q : vw_C} {fs : List Value} (hc : vwCl[ci]? = some q) (hq : q.1 = C) (he : w0[0]? = some (b, .inr (ci, fs))) (isC : List Nat) (hC : isC.map (fun i => bs[i]?) = c0.map some) (hw : c0.flatten = w0) (hnd : va_nd isC = true) (hw1 : c1.flatten = w1) (hlen : isC.length = c1.length) (h2 : bx_put bs isC c1 = bs2) (hf1 : bs2.map (fun b => b.map (fun q => q.1)) = bs.map (fun b => b.map (fun q => q.1)))
    (hst : st = As.reverse ++ .ref b :: rest) (hn : As.length = n) (hsize : ls.size = nL) (hW : (rest.map fun v => v.category).sum ≤ 8) (hdg : decode cc pc = .ok (.invokevirtual index, 3)) (hf : cells ≤ R.cells ∧ slots ≤ R.slots)
    (kk : ∀ (H1 : Heap) (locs1 : List Loc), va_P G vwCl bs2.flatten H1 → va_D A bs2.flatten → va_S A s.heap H1 locs1 → W p l e R s m args below meth c H1 locs1 cells slots Q (F0 m (pc + 3) ls rest)) : W p l e R s m args below meth c H locs cells slots Q (F0 m pc ls st) := by
  obtain ⟨hPc, hDc⟩ := bx_sub hP hD isC hC hw hnd
  have hFc : ∀ q, va_A w0 H.size q → A q := by
    rintro q (⟨k, e, hk⟩ | hz)
    · exact hDc.2 k _ hk
    · exact hA q (Nat.le_trans hS.1 hz)
  subst hq
  refine va_callv (va_runV (As := As) (rest := rest) S (hM H.size) cw ⟨cPre_calling, va_recv hK.1 hPc (ci := ci) (q0 := 0) hc he, fun U hU hW => ⟨rfl, by rw [hU], by rw [hU]; exact hPc, cK.moved hW hK, hDc.weaken (fun _ _ _ _ => trivial)⟩⟩ rfl hn hsize hst (lv_room hW) hdg hf) hS (fun q _ h => hFc q h) hFc (fun u t H1 locs ht hvm hw9 hB hz1 hk1 hS => ?_)
  obtain ⟨hP1, hD1⟩ := hB
  rw [ht] at hP1
  obtain ⟨hP2, hD2⟩ := bx_repl hP hD isC hC hw hk1 hP1 hw1 hlen h2 hf1
  exact kk H1 locs hP2 hD2 hS
theorem bcall_rV {index : Nat} {y : MethodName} {bytes : ByteArray} {maxL n : Nat} {ret : Option FieldType} {wsy : List Cond} {rm : Room} {st As rest : List Value} {b : Nat} {w0 w1 : va_W} {r : Nat} (S : CallFix p m c cc nL s args Ts own)
    (hM : CR l G tys y wsy rm (.ref b :: As) w0 r w1) (cw : CallW R s args own C index y bytes maxL ret wsy rm 0 0 n) (hP : va_P G vwCl bs.flatten H) (hD : va_D A bs.flatten) (hS : va_S A s.heap H locs) (hA : ∀ q : Nat, s.heap.size ≤ q → A q) (hK : cK G tys s)
    (ci : Nat) {q : vw_C} {fs : List Value} (hc : vwCl[ci]? = some q) (hq : q.1 = C) (he : w0[0]? = some (b, .inr (ci, fs))) (isC : List Nat) (hC : isC.map (fun i => bs[i]?) = c0.map some) (hw : c0.flatten = w0) (hnd : va_nd isC = true) (hw1 : c1.flatten = w1) (hlen : isC.length = c1.length) (h2 : bx_put bs isC c1 = bs2) (hf1 : bs2.map (fun b => b.map (fun q => q.1)) = bs.map (fun b => b.map (fun q => q.1)))
    (hst : st = As.reverse ++ .ref b :: rest) (hn : As.length = n) (hsize : ls.size = nL) (hW : (rest.map fun v => v.category).sum ≤ 8) (hdg : decode cc pc = .ok (.invokevirtual index, 3)) (hf : cells ≤ R.cells ∧ slots ≤ R.slots)
    (kk : ∀ (H1 : Heap) (locs1 : List Loc), va_P G vwCl bs2.flatten H1 → va_D A bs2.flatten → va_S A s.heap H1 locs1 → W p l e R s m args below meth c H1 locs1 cells slots Q (F0 m (pc + 3) ls (.ref r :: rest))) : W p l e R s m args below meth c H locs cells slots Q (F0 m pc ls st) := by
  obtain ⟨hPc, hDc⟩ := bx_sub hP hD isC hC hw hnd
  have hFc : ∀ q, va_A w0 H.size q → A q := by
    rintro q (⟨k, e, hk⟩ | hz)
    · exact hDc.2 k _ hk
    · exact hA q (Nat.le_trans hS.1 hz)
  subst hq
  refine va_callr (va_runV (As := As) (rest := rest) S (hM H.size) cw ⟨cPre_calling, va_recv hK.1 hPc (ci := ci) (q0 := 0) hc he, fun U hU hW => ⟨rfl, by rw [hU], by rw [hU]; exact hPc, cK.moved hW hK, hDc.weaken (fun _ _ _ _ => trivial)⟩⟩ rfl hn hsize hst (lv_room hW) hdg hf) hS (fun q _ h => hFc q h) hFc (fun u ra t H1 locs ht hvm hw9 hB hz1 hk1 hS => ?_)
  obtain ⟨rfl, hP1, hD1⟩ := hB
  rw [ht] at hP1
  obtain ⟨hP2, hD2⟩ := bx_repl hP hD isC hC hw hk1 hP1 hw1 hlen h2 hf1
  exact kk H1 locs hP2 hD2 hS
theorem bcall_iS {index : Nat} {y : MethodName} {bytes : ByteArray} {maxL n : Nat} {ret : Option FieldType} {wsy : List Cond} {rm : Room} {st As rest : List Value} {w0 w1 : va_W} {r : Int32} (S : CallFix p m c cc nL s args Ts own)
    (hM : CI l G tys y wsy rm As w0 r w1) (cw : CallB R s args own index y bytes maxL ret wsy rm 0 0 n ∧ (Cond.static y).before args s = true) (hP : va_P G vwCl bs.flatten H) (hD : va_D A bs.flatten) (hS : va_S A s.heap H locs) (hA : ∀ q : Nat, s.heap.size ≤ q → A q) (hK : cK G tys s)
    (isC : List Nat) (hC : isC.map (fun i => bs[i]?) = c0.map some) (hw : c0.flatten = w0) (hnd : va_nd isC = true) (hw1 : c1.flatten = w1) (hlen : isC.length = c1.length) (h2 : bx_put bs isC c1 = bs2) (hf1 : bs2.map (fun b => b.map (fun q => q.1)) = bs.map (fun b => b.map (fun q => q.1)))
    (hst : st = As.reverse ++ rest) (hn : As.length = n) (hsize : ls.size = nL) (hW : (rest.map fun v => v.category).sum ≤ 8) (hdg : decode cc pc = .ok (.invokestatic index, 3)) (hf : cells ≤ R.cells ∧ slots ≤ R.slots)
    (kk : ∀ (H1 : Heap) (locs1 : List Loc), va_P G vwCl bs2.flatten H1 → va_D A bs2.flatten → va_S A s.heap H1 locs1 → W p l e R s m args below meth c H1 locs1 cells slots Q (F0 m (pc + 3) ls (.int r :: rest))) : W p l e R s m args below meth c H locs cells slots Q (F0 m pc ls st) := by
  obtain ⟨hPc, hDc⟩ := bx_sub hP hD isC hC hw hnd
  have hFc : ∀ q, va_A w0 H.size q → A q := by
    rintro q (⟨k, e, hk⟩ | hz)
    · exact hDc.2 k _ hk
    · exact hA q (Nat.le_trans hS.1 hz)
  refine va_calli (va_runS (As := As) (rest := rest) S (hM H.size) cw ⟨cPre_calling, fun U hU hW => ⟨rfl, by rw [hU], by rw [hU]; exact hPc, cK.moved hW hK, hDc.weaken (fun _ _ _ _ => trivial)⟩⟩ rfl hn hsize hst (lv_room hW) hdg hf) hS (fun q _ h => hFc q h) hFc (fun r1 u t H1 locs ht hvm hw9 hB hz1 hk1 hS => ?_)
  obtain ⟨hP1, hD1⟩ := hB
  rw [ht] at hP1
  obtain ⟨hP2, hD2⟩ := bx_repl hP hD isC hC hw hk1 hP1 hw1 hlen h2 hf1
  subst hw9
  exact kk H1 locs hP2 hD2 hS
theorem bcall_vS {index : Nat} {y : MethodName} {bytes : ByteArray} {maxL n : Nat} {ret : Option FieldType} {wsy : List Cond} {rm : Room} {st As rest : List Value} {w0 w1 : va_W}  (S : CallFix p m c cc nL s args Ts own)
    (hM : CV l G tys y wsy rm As w0 w1) (cw : CallB R s args own index y bytes maxL ret wsy rm 0 0 n ∧ (Cond.static y).before args s = true) (hP : va_P G vwCl bs.flatten H) (hD : va_D A bs.flatten) (hS : va_S A s.heap H locs) (hA : ∀ q : Nat, s.heap.size ≤ q → A q) (hK : cK G tys s)
    (isC : List Nat) (hC : isC.map (fun i => bs[i]?) = c0.map some) (hw : c0.flatten = w0) (hnd : va_nd isC = true) (hw1 : c1.flatten = w1) (hlen : isC.length = c1.length) (h2 : bx_put bs isC c1 = bs2) (hf1 : bs2.map (fun b => b.map (fun q => q.1)) = bs.map (fun b => b.map (fun q => q.1)))
    (hst : st = As.reverse ++ rest) (hn : As.length = n) (hsize : ls.size = nL) (hW : (rest.map fun v => v.category).sum ≤ 8) (hdg : decode cc pc = .ok (.invokestatic index, 3)) (hf : cells ≤ R.cells ∧ slots ≤ R.slots)
    (kk : ∀ (H1 : Heap) (locs1 : List Loc), va_P G vwCl bs2.flatten H1 → va_D A bs2.flatten → va_S A s.heap H1 locs1 → W p l e R s m args below meth c H1 locs1 cells slots Q (F0 m (pc + 3) ls rest)) : W p l e R s m args below meth c H locs cells slots Q (F0 m pc ls st) := by
  obtain ⟨hPc, hDc⟩ := bx_sub hP hD isC hC hw hnd
  have hFc : ∀ q, va_A w0 H.size q → A q := by
    rintro q (⟨k, e, hk⟩ | hz)
    · exact hDc.2 k _ hk
    · exact hA q (Nat.le_trans hS.1 hz)
  refine va_callv (va_runS (As := As) (rest := rest) S (hM H.size) cw ⟨cPre_calling, fun U hU hW => ⟨rfl, by rw [hU], by rw [hU]; exact hPc, cK.moved hW hK, hDc.weaken (fun _ _ _ _ => trivial)⟩⟩ rfl hn hsize hst (lv_room hW) hdg hf) hS (fun q _ h => hFc q h) hFc (fun u t H1 locs ht hvm hw9 hB hz1 hk1 hS => ?_)
  obtain ⟨hP1, hD1⟩ := hB
  rw [ht] at hP1
  obtain ⟨hP2, hD2⟩ := bx_repl hP hD isC hC hw hk1 hP1 hw1 hlen h2 hf1
  exact kk H1 locs hP2 hD2 hS
end CALLS3
