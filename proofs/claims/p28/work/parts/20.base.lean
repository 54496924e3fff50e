/-! my words: what is walked is tied to a function of the words of the state -/
theorem vx_lt {D : va_G} {cl : List vw_C} {ws : va_W} {H1 : Heap} (h : va_P D cl ws H1) {k : Nat} {q : Nat × va_E} (hk : ws[k]? = some q) : q.1 < H1.size := (h k q hk).lt
theorem o_el {α β γ : Type} {v : α} {f : α → Option γ} {g : β → Option γ} {r : γ} (h : (Sum.inl v : α ⊕ β).elim f g = some r) : f v = some r := h
theorem o_t {α : Type} {c : Prop} {D : Decidable c} {a b : Option α} {r : α} (h : (if c then a else b) = some r) (hc : c) : a = some r := by rwa [if_pos hc] at h
theorem o_f {α : Type} {c : Prop} {D : Decidable c} {a b : Option α} {r : α} (h : (if c then a else b) = some r) (hc : ¬ c) : b = some r := by rwa [if_neg hc] at h
theorem o_g {α : Type} {c : Prop} {D : Decidable c} {a : Option α} {r : α} (h : (if c then a else none) = some r) : c ∧ a = some r := by
  by_cases hc : c
  · rw [if_pos hc] at h; exact ⟨hc, h⟩
  · rw [if_neg hc] at h; cases h
theorem o_b {α β : Type} {a : Option α} {f : α → Option β} {r : β} (h : a.bind f = some r) : ∃ x, a = some x ∧ f x = some r := by
  cases a with
  | none => cases h
  | some x => exact ⟨x, rfl, h⟩
theorem o_s {α : Type} {a r : α} (h : some a = some r) : r = a := (Option.some.inj h).symm
theorem o_n {α : Type} {P : Prop} {r : α} (h : (none : Option α) = some r) : P := by cases h
theorem ne_ti {x n : Int32} {z : Int} (h : ¬ x = n) (hz : n.toInt = z) : x.toInt ≠ z := fun e => h (Int32.toInt_inj.mp (e.trans hz.symm))
theorem bI_n (b : Bool) : narrow .boolean (.int (bI b)) = .int (bI b) := by cases b <;> rfl
theorem bI_f (b : Bool) : fits .boolean (.int (bI b)) = true := by cases b <;> rfl
def cNest : Cond := .methodLinkNest RX3 109 yX5_within RX5
def cK (G : va_G) (tys : List (ClassId × FieldType)) (U : State) : Prop := va_K G vwCl tys U ∧ va_Nw cNest U
theorem cK.moved {G : va_G} {tys : List (ClassId × FieldType)} {s U : State} (hW : s.WarmedH U.vm) (h : cK G tys s) : cK G tys U := ⟨va_K.moved hW.alike h.1, va_Nw.warmM hW h.2⟩
def cPre (G : va_G) (tys : List (ClassId × FieldType)) (w : va_W) (sz : Nat) : State → Prop := fun U => U.heap.size = sz ∧ va_P G vwCl w U.heap ∧ cK G tys U ∧ va_D (fun _ => True) w
def cB (G : va_G) (w1 : va_W) (A : Nat → Prop) : Unit → State → Prop := fun _ t => va_P G vwCl w1 t.heap ∧ va_D A w1
/-- a method with an int for an answer: from the world w0 to the world w1, at the same places -/
abbrev CI (l : Launch) (G : va_G) (tys : List (ClassId × FieldType)) (y : MethodName) (ws : List Cond) (rm : Room) (av : List Value) (w0 : va_W) (r : Int32) (w1 : va_W) : Prop :=
  ∀ sz : Nat, Met l y ws rm (va_Pc av (cPre G tys w0 sz)) (va_Qi (fun r' (_ : Unit) => r' = r) (cB G w1 (va_A w0 sz)) (va_A w0 sz)) 0 0 (va_A w0 sz)
abbrev CV (l : Launch) (G : va_G) (tys : List (ClassId × FieldType)) (y : MethodName) (ws : List Cond) (rm : Room) (av : List Value) (w0 : va_W) (w1 : va_W) : Prop :=
  ∀ sz : Nat, Met l y ws rm (va_Pc av (cPre G tys w0 sz)) (va_Qv (fun (_ : Unit) => True) (cB G w1 (va_A w0 sz)) (va_A w0 sz)) 0 0 (va_A w0 sz)
abbrev CL (l : Launch) (G : va_G) (tys : List (ClassId × FieldType)) (y : MethodName) (ws : List Cond) (rm : Room) (av : List Value) (w0 : va_W) (r : Int64) (w1 : va_W) : Prop :=
  ∀ sz : Nat, Met l y ws rm (va_Pc av (cPre G tys w0 sz)) (va_Ql (fun r' (_ : Unit) => r' = r) (cB G w1 (va_A w0 sz)) (va_A w0 sz)) 0 0 (va_A w0 sz)
theorem cPre_calling {av : List Value} {G : va_G} {tys : List (ClassId × FieldType)} {w : va_W} {sz : Nat} : FrameBlind (va_Pc av (cPre G tys w sz)) :=
  fun a U g mk q => by obtain ⟨q0, q1, qP, qK, qD⟩ := q; exact ⟨q0, q1, qP, ⟨va_K.moved (u := U) (U := U.calling g mk a) (Vm.Alike.refl U.vm) qK.1, va_Nw.same rfl (u := U) (U := U.calling g mk a) rfl qK.2⟩, qD⟩
/-- words put at places -/
def wx_put : va_W → List Nat → va_W → va_W
  | ws, i :: is, e :: es => wx_put (ws.set i e) is es
  | ws, [], _ => ws
  | ws, _ :: _, [] => ws
theorem wx_put_get : ∀ (is : List Nat) (es : va_W) (ws : va_W) (k : Nat) (q : Nat × va_E), is.length = es.length → (wx_put ws is es)[k]? = some q → (k ∉ is ∧ ws[k]? = some q) ∨ ∃ j : Nat, es[j]? = some q
  | [], es, ws, k, q, _, h => Or.inl ⟨by simp, by simpa [wx_put] using h⟩
  | i :: is, [], ws, k, q, hl, h => by simp at hl
  | i :: is, e :: es, ws, k, q, hl, h => by
    rcases wx_put_get is es (ws.set i e) k q (by simpa using hl) (by simpa [wx_put] using h) with ⟨h1, h2⟩ | ⟨j, hj⟩
    · by_cases hki : i = k
      · subst hki
        rw [List.getElem?_set_self'] at h2
        cases hw : ws[i]? with
        | none => rw [hw] at h2; simp at h2
        | some z => rw [hw] at h2; simp at h2; exact Or.inr ⟨0, by simpa using h2⟩
      · rw [List.getElem?_set_ne hki] at h2
        exact Or.inl ⟨by simp only [List.mem_cons, not_or]; exact ⟨fun h => hki h.symm, h1⟩, h2⟩
    · exact Or.inr ⟨j + 1, by simpa using hj⟩
theorem wx_repl {A0 : Nat → Prop} {G : va_G} {cl : List vw_C} {ws w0 w1 ws2 : va_W} {H H1 : Heap} (hP : va_P G cl ws H) (hD : va_D A0 ws) (isC : List Nat) (hC : isC.map (fun i => ws[i]?) = w0.map some)
    (hk : ∀ q : Nat, q < H.size → ¬ va_A w0 H.size q → H1[q]? = H[q]?) (hP1 : va_P G cl w1 H1) (hlen : isC.length = w1.length) (h2 : wx_put ws isC w1 = ws2) (hf : ws2.map (fun q => q.1) = ws.map (fun q => q.1)) : va_P G cl ws2 H1 ∧ va_D A0 ws2 := by
  subst h2
  have key : ∀ (k : Nat) (q : Nat × va_E), (wx_put ws isC w1)[k]? = some q → ∃ q' : Nat × va_E, ws[k]? = some q' ∧ q'.1 = q.1 := by
    intro k q hq
    have e : ((wx_put ws isC w1).map (fun q => q.1))[k]? = some q.1 := by rw [List.getElem?_map, hq]; rfl
    rw [hf, List.getElem?_map] at e
    cases hw : ws[k]? with
    | none => rw [hw] at e; cases e
    | some z => rw [hw] at e; exact ⟨z, rfl, Option.some.inj e⟩
  constructor
  · intro k q hq
    rcases wx_put_get isC w1 ws k q hlen hq with ⟨h1, h3⟩ | ⟨j, hj⟩
    · refine (hP k q h3).kept (hk q.1 (vx_lt hP h3) ?_)
      rintro (⟨j, e, hj⟩ | hz)
      · have e1 : (isC.map (fun i => ws[i]?))[j]? = some (some (q.1, e)) := by rw [hC, List.getElem?_map, hj]; rfl
        rw [List.getElem?_map] at e1
        cases hi : isC[j]? with
        | none => rw [hi] at e1; cases e1
        | some i =>
          rw [hi] at e1
          have e2 : ws[i]? = some (q.1, e) := Option.some.inj e1
          have e3 : i = k := hD.1 i k _ _ e2 h3 rfl
          subst e3
          exact h1 (List.mem_of_getElem? hi)
      · exact absurd (vx_lt hP h3) (Nat.not_lt.mpr hz)
    · exact hP1 j q hj
  · constructor
    · intro i j p q hi hj e
      obtain ⟨p', hp1, hp2⟩ := key i p hi
      obtain ⟨q', hq1, hq2⟩ := key j q hj
      exact hD.1 i j p' q' hp1 hq1 (by rw [hp2, hq2, e])
    · intro k q hq
      obtain ⟨q', hq1, hq2⟩ := key k q hq
      rw [← hq2]
      exact hD.2 k q' hq1
section CALLS
variable {p : Program} {l : Launch} {e : Env} {R : Room} {s : State} {m : MethodId} {args : Array Value} {below : List Frame} {meth : Method} {c : Code} {H : Heap} {locs : List Loc} {cells slots : Nat} {Q : State → Prop} {pc : Nat} {ls : Array Slot} {cc : ByteArray} {nL : Nat} {Ts : List Cond} {own C : String} {G : va_G} {tys : List (ClassId × FieldType)} {A : Nat → Prop} {ws : va_W}
theorem call_iV {index : Nat} {y : MethodName} {bytes : ByteArray} {maxL n : Nat} {ret : Option FieldType} {wsy : List Cond} {rm : Room} {st As rest : List Value} {b : Nat} {w0 w1 ws2 : va_W} {r : Int32} (S : CallFix p m c cc nL s args Ts own)
    (hM : CI l G tys y wsy rm (.ref b :: As) w0 r w1) (cw : CallW R s args own C index y bytes maxL ret wsy rm 0 0 n) (hP : va_P G vwCl ws H) (hD : va_D A ws) (hS : va_S A s.heap H locs) (hA : ∀ q : Nat, s.heap.size ≤ q → A q) (hK : cK G tys s)
    (ci : Nat) {q : vw_C} {fs : List Value} (hc : vwCl[ci]? = some q) (hq : q.1 = C) (he : w0[0]? = some (b, .inr (ci, fs))) (isC : List Nat) (hC : isC.map (fun i => ws[i]?) = w0.map some) (hC2 : isC.filterMap (fun i => ws[i]?) = w0) (hnd : va_nd isC = true) (hlen : isC.length = w1.length) (h2 : wx_put ws isC w1 = ws2) (hf1 : ws2.map (fun q => q.1) = ws.map (fun q => q.1))
    (hst : st = As.reverse ++ .ref b :: rest) (hn : As.length = n) (hsize : ls.size = nL) (hW : (rest.map fun v => v.category).sum ≤ 8) (hdg : decode cc pc = .ok (.invokevirtual index, 3)) (hf : cells ≤ R.cells ∧ slots ≤ R.slots)
    (kk : ∀ (H1 : Heap) (locs1 : List Loc), va_P G vwCl ws2 H1 → va_D A ws2 → va_S A s.heap H1 locs1 → W p l e R s m args below meth c H1 locs1 cells slots Q (F0 m (pc + 3) ls (.int r :: rest))) : W p l e R s m args below meth c H locs cells slots Q (F0 m pc ls st) := by
  have hPc := hP.sub (ws' := w0) isC hC2
  have hDc := hD.sub (ws' := w0) isC hnd hC
  have hFc := va_free (wc := w0) hD hS hA isC hC
  subst hq
  refine va_calli (va_runV (As := As) (rest := rest) S (hM H.size) cw ⟨cPre_calling, va_recv hK.1 hPc (ci := ci) (q0 := 0) hc he, fun U hU hW => ⟨rfl, by rw [hU], by rw [hU]; exact hPc, cK.moved hW hK, hDc.weaken (fun _ _ _ _ => trivial)⟩⟩ rfl hn hsize hst (lv_room hW) hdg hf) hS (fun q _ h => hFc q h) hFc (fun r1 u t H1 locs ht hvm hw hB hz1 hk1 hS => ?_)
  obtain ⟨hP1, hD1⟩ := hB
  rw [ht] at hP1
  obtain ⟨hP2, hD2⟩ := wx_repl hP hD isC hC hk1 hP1 hlen h2 hf1
  subst hw
  exact kk H1 locs hP2 hD2 hS
theorem call_lV {index : Nat} {y : MethodName} {bytes : ByteArray} {maxL n : Nat} {ret : Option FieldType} {wsy : List Cond} {rm : Room} {st As rest : List Value} {b : Nat} {w0 w1 ws2 : va_W} {r : Int64} (S : CallFix p m c cc nL s args Ts own)
    (hM : CL l G tys y wsy rm (.ref b :: As) w0 r w1) (cw : CallW R s args own C index y bytes maxL ret wsy rm 0 0 n) (hP : va_P G vwCl ws H) (hD : va_D A ws) (hS : va_S A s.heap H locs) (hA : ∀ q : Nat, s.heap.size ≤ q → A q) (hK : cK G tys s)
    (ci : Nat) {q : vw_C} {fs : List Value} (hc : vwCl[ci]? = some q) (hq : q.1 = C) (he : w0[0]? = some (b, .inr (ci, fs))) (isC : List Nat) (hC : isC.map (fun i => ws[i]?) = w0.map some) (hC2 : isC.filterMap (fun i => ws[i]?) = w0) (hnd : va_nd isC = true) (hlen : isC.length = w1.length) (h2 : wx_put ws isC w1 = ws2) (hf1 : ws2.map (fun q => q.1) = ws.map (fun q => q.1))
    (hst : st = As.reverse ++ .ref b :: rest) (hn : As.length = n) (hsize : ls.size = nL) (hW : (rest.map fun v => v.category).sum ≤ 8) (hdg : decode cc pc = .ok (.invokevirtual index, 3)) (hf : cells ≤ R.cells ∧ slots ≤ R.slots)
    (kk : ∀ (H1 : Heap) (locs1 : List Loc), va_P G vwCl ws2 H1 → va_D A ws2 → va_S A s.heap H1 locs1 → W p l e R s m args below meth c H1 locs1 cells slots Q (F0 m (pc + 3) ls (.long r :: rest))) : W p l e R s m args below meth c H locs cells slots Q (F0 m pc ls st) := by
  have hPc := hP.sub (ws' := w0) isC hC2
  have hDc := hD.sub (ws' := w0) isC hnd hC
  have hFc := va_free (wc := w0) hD hS hA isC hC
  subst hq
  refine va_calll (va_runV (As := As) (rest := rest) S (hM H.size) cw ⟨cPre_calling, va_recv hK.1 hPc (ci := ci) (q0 := 0) hc he, fun U hU hW => ⟨rfl, by rw [hU], by rw [hU]; exact hPc, cK.moved hW hK, hDc.weaken (fun _ _ _ _ => trivial)⟩⟩ rfl hn hsize hst (lv_room hW) hdg hf) hS (fun q _ h => hFc q h) hFc (fun r1 u t H1 locs ht hvm hw hB hz1 hk1 hS => ?_)
  obtain ⟨hP1, hD1⟩ := hB
  rw [ht] at hP1
  obtain ⟨hP2, hD2⟩ := wx_repl hP hD isC hC hk1 hP1 hlen h2 hf1
  subst hw
  exact kk H1 locs hP2 hD2 hS
theorem call_vV {index : Nat} {y : MethodName} {bytes : ByteArray} {maxL n : Nat} {ret : Option FieldType} {wsy : List Cond} {rm : Room} {st As rest : List Value} {b : Nat} {w0 w1 ws2 : va_W} (S : CallFix p m c cc nL s args Ts own)
    (hM : CV l G tys y wsy rm (.ref b :: As) w0 w1) (cw : CallW R s args own C index y bytes maxL ret wsy rm 0 0 n) (hP : va_P G vwCl ws H) (hD : va_D A ws) (hS : va_S A s.heap H locs) (hA : ∀ q : Nat, s.heap.size ≤ q → A q) (hK : cK G tys s)
    (ci : Nat) {q : vw_C} {fs : List Value} (hc : vwCl[ci]? = some q) (hq : q.1 = C) (he : w0[0]? = some (b, .inr (ci, fs))) (isC : List Nat) (hC : isC.map (fun i => ws[i]?) = w0.map some) (hC2 : isC.filterMap (fun i => ws[i]?) = w0) (hnd : va_nd isC = true) (hlen : isC.length = w1.length) (h2 : wx_put ws isC w1 = ws2) (hf1 : ws2.map (fun q => q.1) = ws.map (fun q => q.1))
    (hst : st = As.reverse ++ .ref b :: rest) (hn : As.length = n) (hsize : ls.size = nL) (hW : (rest.map fun v => v.category).sum ≤ 8) (hdg : decode cc pc = .ok (.invokevirtual index, 3)) (hf : cells ≤ R.cells ∧ slots ≤ R.slots)
    (kk : ∀ (H1 : Heap) (locs1 : List Loc), va_P G vwCl ws2 H1 → va_D A ws2 → va_S A s.heap H1 locs1 → W p l e R s m args below meth c H1 locs1 cells slots Q (F0 m (pc + 3) ls rest)) : W p l e R s m args below meth c H locs cells slots Q (F0 m pc ls st) := by
  have hPc := hP.sub (ws' := w0) isC hC2
  have hDc := hD.sub (ws' := w0) isC hnd hC
  have hFc := va_free (wc := w0) hD hS hA isC hC
  subst hq
  refine va_callv (va_runV (As := As) (rest := rest) S (hM H.size) cw ⟨cPre_calling, va_recv hK.1 hPc (ci := ci) (q0 := 0) hc he, fun U hU hW => ⟨rfl, by rw [hU], by rw [hU]; exact hPc, cK.moved hW hK, hDc.weaken (fun _ _ _ _ => trivial)⟩⟩ rfl hn hsize hst (lv_room hW) hdg hf) hS (fun q _ h => hFc q h) hFc (fun u t H1 locs ht hvm hw hB hz1 hk1 hS => ?_)
  obtain ⟨hP1, hD1⟩ := hB
  rw [ht] at hP1
  obtain ⟨hP2, hD2⟩ := wx_repl hP hD isC hC hk1 hP1 hlen h2 hf1
  exact kk H1 locs hP2 hD2 hS
theorem call_iSN {host : String} {index : Nat} {y : MethodName} {bytes : ByteArray} {maxL n : Nat} {ret : Option FieldType} {wsy : List Cond} {rm : Room} {st As rest : List Value} {w0 w1 ws2 : va_W} {r : Int32} (S : CallFix p m c cc nL s args Ts own)
    (hM : CI l G tys y wsy rm As w0 r w1) (cw : va_CN R s args own index y host bytes maxL ret wsy rm 0 0 n ∧ (Cond.static y).before args s = true ∧ True) (hP : va_P G vwCl ws H) (hD : va_D A ws) (hS : va_S A s.heap H locs) (hA : ∀ q : Nat, s.heap.size ≤ q → A q) (hK : cK G tys s)
    (isC : List Nat) (hC : isC.map (fun i => ws[i]?) = w0.map some) (hC2 : isC.filterMap (fun i => ws[i]?) = w0) (hnd : va_nd isC = true) (hlen : isC.length = w1.length) (h2 : wx_put ws isC w1 = ws2) (hf1 : ws2.map (fun q => q.1) = ws.map (fun q => q.1))
    (hst : st = As.reverse ++ rest) (hn : As.length = n) (hsize : ls.size = nL) (hW : (rest.map fun v => v.category).sum ≤ 8) (hdg : decode cc pc = .ok (.invokestatic index, 3)) (hf : cells ≤ R.cells ∧ slots ≤ R.slots)
    (kk : ∀ (H1 : Heap) (locs1 : List Loc), va_P G vwCl ws2 H1 → va_D A ws2 → va_S A s.heap H1 locs1 → W p l e R s m args below meth c H1 locs1 cells slots Q (F0 m (pc + 3) ls (.int r :: rest))) : W p l e R s m args below meth c H locs cells slots Q (F0 m pc ls st) := by
  have hPc := hP.sub (ws' := w0) isC hC2
  have hDc := hD.sub (ws' := w0) isC hnd hC
  have hFc := va_free (wc := w0) hD hS hA isC hC
  refine va_calli (va_runSN (As := As) (rest := rest) S (hM H.size) cw ⟨cPre_calling, fun U hU hW => ⟨rfl, by rw [hU], by rw [hU]; exact hPc, cK.moved hW hK, hDc.weaken (fun _ _ _ _ => trivial)⟩⟩ rfl hn hsize hst (lv_room hW) hdg hf) hS (fun q _ h => hFc q h) hFc (fun r1 u t H1 locs ht hvm hw hB hz1 hk1 hS => ?_)
  obtain ⟨hP1, hD1⟩ := hB
  rw [ht] at hP1
  obtain ⟨hP2, hD2⟩ := wx_repl hP hD isC hC hk1 hP1 hlen h2 hf1
  subst hw
  exact kk H1 locs hP2 hD2 hS
theorem call_iS {index : Nat} {y : MethodName} {bytes : ByteArray} {maxL n : Nat} {ret : Option FieldType} {wsy : List Cond} {rm : Room} {st As rest : List Value} {w0 w1 ws2 : va_W} {r : Int32} (S : CallFix p m c cc nL s args Ts own)
    (hM : CI l G tys y wsy rm As w0 r w1) (cw : CallB R s args own index y bytes maxL ret wsy rm 0 0 n ∧ (Cond.static y).before args s = true) (hP : va_P G vwCl ws H) (hD : va_D A ws) (hS : va_S A s.heap H locs) (hA : ∀ q : Nat, s.heap.size ≤ q → A q) (hK : cK G tys s)
    (isC : List Nat) (hC : isC.map (fun i => ws[i]?) = w0.map some) (hC2 : isC.filterMap (fun i => ws[i]?) = w0) (hnd : va_nd isC = true) (hlen : isC.length = w1.length) (h2 : wx_put ws isC w1 = ws2) (hf1 : ws2.map (fun q => q.1) = ws.map (fun q => q.1))
    (hst : st = As.reverse ++ rest) (hn : As.length = n) (hsize : ls.size = nL) (hW : (rest.map fun v => v.category).sum ≤ 8) (hdg : decode cc pc = .ok (.invokestatic index, 3)) (hf : cells ≤ R.cells ∧ slots ≤ R.slots)
    (kk : ∀ (H1 : Heap) (locs1 : List Loc), va_P G vwCl ws2 H1 → va_D A ws2 → va_S A s.heap H1 locs1 → W p l e R s m args below meth c H1 locs1 cells slots Q (F0 m (pc + 3) ls (.int r :: rest))) : W p l e R s m args below meth c H locs cells slots Q (F0 m pc ls st) := by
  have hPc := hP.sub (ws' := w0) isC hC2
  have hDc := hD.sub (ws' := w0) isC hnd hC
  have hFc := va_free (wc := w0) hD hS hA isC hC
  refine va_calli (va_runS (As := As) (rest := rest) S (hM H.size) cw ⟨cPre_calling, fun U hU hW => ⟨rfl, by rw [hU], by rw [hU]; exact hPc, cK.moved hW hK, hDc.weaken (fun _ _ _ _ => trivial)⟩⟩ rfl hn hsize hst (lv_room hW) hdg hf) hS (fun q _ h => hFc q h) hFc (fun r1 u t H1 locs ht hvm hw hB hz1 hk1 hS => ?_)
  obtain ⟨hP1, hD1⟩ := hB
  rw [ht] at hP1
  obtain ⟨hP2, hD2⟩ := wx_repl hP hD isC hC hk1 hP1 hlen h2 hf1
  subst hw
  exact kk H1 locs hP2 hD2 hS
theorem call_vS {index : Nat} {y : MethodName} {bytes : ByteArray} {maxL n : Nat} {ret : Option FieldType} {wsy : List Cond} {rm : Room} {st As rest : List Value} {w0 w1 ws2 : va_W} (S : CallFix p m c cc nL s args Ts own)
    (hM : CV l G tys y wsy rm As w0 w1) (cw : CallB R s args own index y bytes maxL ret wsy rm 0 0 n ∧ (Cond.static y).before args s = true) (hP : va_P G vwCl ws H) (hD : va_D A ws) (hS : va_S A s.heap H locs) (hA : ∀ q : Nat, s.heap.size ≤ q → A q) (hK : cK G tys s)
    (isC : List Nat) (hC : isC.map (fun i => ws[i]?) = w0.map some) (hC2 : isC.filterMap (fun i => ws[i]?) = w0) (hnd : va_nd isC = true) (hlen : isC.length = w1.length) (h2 : wx_put ws isC w1 = ws2) (hf1 : ws2.map (fun q => q.1) = ws.map (fun q => q.1))
    (hst : st = As.reverse ++ rest) (hn : As.length = n) (hsize : ls.size = nL) (hW : (rest.map fun v => v.category).sum ≤ 8) (hdg : decode cc pc = .ok (.invokestatic index, 3)) (hf : cells ≤ R.cells ∧ slots ≤ R.slots)
    (kk : ∀ (H1 : Heap) (locs1 : List Loc), va_P G vwCl ws2 H1 → va_D A ws2 → va_S A s.heap H1 locs1 → W p l e R s m args below meth c H1 locs1 cells slots Q (F0 m (pc + 3) ls rest)) : W p l e R s m args below meth c H locs cells slots Q (F0 m pc ls st) := by
  have hPc := hP.sub (ws' := w0) isC hC2
  have hDc := hD.sub (ws' := w0) isC hnd hC
  have hFc := va_free (wc := w0) hD hS hA isC hC
  refine va_callv (va_runS (As := As) (rest := rest) S (hM H.size) cw ⟨cPre_calling, fun U hU hW => ⟨rfl, by rw [hU], by rw [hU]; exact hPc, cK.moved hW hK, hDc.weaken (fun _ _ _ _ => trivial)⟩⟩ rfl hn hsize hst (lv_room hW) hdg hf) hS (fun q _ h => hFc q h) hFc (fun u t H1 locs ht hvm hw hB hz1 hk1 hS => ?_)
  obtain ⟨hP1, hD1⟩ := hB
  rw [ht] at hP1
  obtain ⟨hP2, hD2⟩ := wx_repl hP hD isC hC hk1 hP1 hlen h2 hf1
  exact kk H1 locs hP2 hD2 hS
theorem W_genQ {g : JFrame} (h : ∀ Q' : State → Prop, Q' = Q → W p l e R s m args below meth c H locs cells slots Q' g) : W p l e R s m args below meth c H locs cells slots Q g := h Q rfl
theorem end_i {v out : Int32} {w1 : va_W} (hx : p.tables.exec = Jvm.exec) (hb : c.code = cc) (hr : meth.sig.returnType = some .int) (hv : v = out) (hP : va_P G vwCl w1 H) (hD : va_D A w1) (hS : va_S A s.heap H locs) (hdg : decode cc pc = .ok (.ireturn, 1)) (hlocks : meth.locks = false) :
    W p l e R s m args below meth c H locs 0 0 (MQ below (va_Qi (fun r' (_ : Unit) => r' = out) (cB G w1 A) A) args s 0 0 A) (F0 m pc ls [.int v]) :=
  W.iret hx hb hr (fun t ht hW => ⟨⟨v, (), rfl, hv, by rw [ht]; exact hP, hD⟩, hS.F ht⟩) hS.2.2 hdg hlocks
theorem end_z {v out : Int32} {w1 : va_W} (hx : p.tables.exec = Jvm.exec) (hb : c.code = cc) (hr : meth.sig.returnType = some .boolean) (hv : v = out) (hn : narrow .boolean (.int v) = .int v) (hP : va_P G vwCl w1 H) (hD : va_D A w1) (hS : va_S A s.heap H locs) (hdg : decode cc pc = .ok (.ireturn, 1)) (hlocks : meth.locks = false) :
    W p l e R s m args below meth c H locs 0 0 (MQ below (va_Qi (fun r' (_ : Unit) => r' = out) (cB G w1 A) A) args s 0 0 A) (F0 m pc ls [.int v]) :=
  W.zret hx hb hr hn (fun t ht hW => ⟨⟨v, (), rfl, hv, by rw [ht]; exact hP, hD⟩, hS.F ht⟩) hS.2.2 hdg hlocks
theorem end_l {v out : Int64} {w1 : va_W} (hx : p.tables.exec = Jvm.exec) (hb : c.code = cc) (hr : meth.sig.returnType = some .long) (hv : v = out) (hP : va_P G vwCl w1 H) (hD : va_D A w1) (hS : va_S A s.heap H locs) (hdg : decode cc pc = .ok (.lreturn, 1)) (hlocks : meth.locks = false) :
    W p l e R s m args below meth c H locs 0 0 (MQ below (va_Ql (fun r' (_ : Unit) => r' = out) (cB G w1 A) A) args s 0 0 A) (F0 m pc ls [.long v]) :=
  W.lret hx hb hr (fun t ht hW => ⟨⟨v, (), rfl, hv, by rw [ht]; exact hP, hD⟩, hS.F ht⟩) hS.2.2 hdg hlocks
theorem end_v {w1 : va_W} (hx : p.tables.exec = Jvm.exec) (hb : c.code = cc) (hr : meth.sig.returnType = none) (hP : va_P G vwCl w1 H) (hD : va_D A w1) (hS : va_S A s.heap H locs) (hdg : decode cc pc = .ok (.return_, 1)) (hlocks : meth.locks = false) :
    W p l e R s m args below meth c H locs 0 0 (MQ below (va_Qv (fun (_ : Unit) => True) (cB G w1 A) A) args s 0 0 A) (F0 m pc ls []) :=
  W.vret hx hb hr (fun t ht hW => ⟨⟨(), rfl, trivial, by rw [ht]; exact hP, hD⟩, hS.F ht⟩) hS.2.2 hdg hlocks
end CALLS
abbrev tyz (cI cG : ClassId) : List (ClassId × FieldType) := [(cI, .int), (cG, .object RX1)]
