/-! the law's wrappers: what they catch -/
def xN (U : State) : Prop := va_Nc "java/lang/IllegalArgumentException" "java/lang/IllegalStateException" U ∧ va_Nc "java/lang/IllegalArgumentException" "java/lang/IndexOutOfBoundsException" U ∧ va_Nc "java/lang/IllegalStateException" "java/lang/IllegalArgumentException" U ∧ va_Nc "java/lang/IllegalStateException" "java/lang/IndexOutOfBoundsException" U ∧ va_Nc "java/lang/IndexOutOfBoundsException" "java/lang/IllegalArgumentException" U ∧ va_Nc "java/lang/IndexOutOfBoundsException" "java/lang/IllegalStateException" U
theorem xN.moved {s U : State} (hv : s.vm.Alike U.vm) (h : xN s) : xN U := by
  obtain ⟨a1, a2, a3, a4, a5, a6⟩ := h
  exact ⟨va_Nc.moved hv a1, va_Nc.moved hv a2, va_Nc.moved hv a3, va_Nc.moved hv a4, va_Nc.moved hv a5, va_Nc.moved hv a6⟩
def yPre (G : va_G) (tys : List (ClassId × FieldType)) (w : va_W) (sz : Nat) : State → Prop := fun U => cPre G tys w sz U ∧ xSt U ∧ xZ (va_A w sz) U U.heap ∧ xN U
theorem yPre_calling {av : List Value} {G : va_G} {tys : List (ClassId × FieldType)} {w : va_W} {sz : Nat} : FrameBlind (va_Pc av (yPre G tys w sz)) :=
  fun a U g mk q => by
    obtain ⟨q0, ⟨q1, qP, qK, qD⟩, qX, ⟨qZ1, qZ2⟩, qN⟩ := q
    exact ⟨q0, ⟨q1, qP, ⟨va_K.moved (u := U) (U := U.calling g mk a) (Vm.Alike.refl U.vm) qK.1, va_Nw.same rfl (u := U) (U := U.calling g mk a) rfl qK.2⟩, qD⟩, xSt.same (u := U) (U := U.calling g mk a) rfl qX, ⟨vx_Zq.moved (u := U) (U := U.calling g mk a) (Vm.Alike.refl U.vm) qZ1, vx_Zq.moved (u := U) (U := U.calling g mk a) (Vm.Alike.refl U.vm) qZ2⟩, xN.moved (s := U) (U := U.calling g mk a) (Vm.Alike.refl U.vm) qN⟩
abbrev tyl (cI cG cL : ClassId) : List (ClassId × FieldType) := [(cI, .int), (cG, .object RX1), (cL, .long)]
theorem tyl_z {G : va_G} {cI cG cL : ClassId} {s : State} (h : cK G (tyl cI cG cL) s) : cK G (tyz cI cG) s := ⟨h.1.sub [0, 1] rfl, h.2⟩
theorem met_of_vx {l : Launch} {y : MethodName} {ws : List Cond} {rm : Room} {Pc : Array Value → State → Prop} {Qc : Array Value → State → Outcome → State → Prop} {mc ms : Nat} {free : Addr → Prop} (h : vx_Met l y ws rm Pc Qc (fun _ _ _ => False) mc ms free) : Met l y ws rm Pc Qc mc ms free := by
  intro p e ha hc hk s m args below hf happ hP ht
  obtain ⟨k, o, h1, h2, h3, hQ⟩ := h p e ha hc hk s m args below hf happ hP ht
  rcases hQ with hQ | ⟨q, -, E, ce, L, hx, -⟩
  · exact ⟨k, o, h1, h2, h3, hQ⟩
  · exact hx.elim
abbrev LI (l : Launch) (G : va_G) (tys : List (ClassId × FieldType)) (y : MethodName) (ws : List Cond) (rm : Room) (av : List Value) (w0 : va_W) (r : Int32) (w1 : va_W) (mc ms : Nat) : Prop :=
  ∀ sz : Nat, Met l y ws rm (va_Pc av (yPre G tys w0 sz)) (va_Qi (fun r' (_ : Unit) => r' = r) (cB G w1 (va_A w0 sz)) (va_A w0 sz)) mc ms (va_A w0 sz)
section CALLS7
variable {p : Program} {l : Launch} {e : Env} {R : Room} {s : State} {m : MethodId} {args : Array Value} {below : List Frame} {meth : Method} {c : Code} {H : Heap} {locs : List Loc} {cells slots : Nat} {Q : State → Prop} {pc : Nat} {ls : Array Slot} {cc : ByteArray} {nL : Nat} {Ts : List Cond} {own C : String} {G : va_G} {tys : List (ClassId × FieldType)} {A : Nat → Prop} {bs c0 : List va_W}
theorem lend_i {v r : Int32} {w1 : va_W} {XC : String → State → State → Prop} {mc ms : Nat} (hx : p.tables.exec = Jvm.exec) (hb : c.code = cc) (hr : meth.sig.returnType = some .int) (hv : v = r) (hP : va_P G vwCl w1 H) (hD : va_D A w1) (hS : va_S A s.heap H locs) (hdg : decode cc pc = .ok (.ireturn, 1)) (hlocks : meth.locks = false) (hc : cells ≤ mc) (hs : slots ≤ ms) :
    W p l e R s m args below meth c H locs cells slots (vx_MQ below (va_Qi (fun r' (_ : Unit) => r' = r) (cB G w1 A) A) XC args s mc ms A) (F0 m pc ls [.int v]) :=
  vx_ret (W.widen hc hs (W.iret hx hb hr (fun t ht hW => ⟨⟨v, (), rfl, hv, by rw [ht]; exact hP, hD⟩, hS.F ht⟩) hS.2.2 hdg hlocks))
theorem xcall_iV {T : Type} {index : Nat} {y : MethodName} {bytes : ByteArray} {maxL n mc0 ms0 : Nat} {ret : Option FieldType} {wsy : List Cond} {rm : Room} {st As rest : List Value} {b : Nat} {w0 : va_W} {out : String ⊕ T} {rv : T → Int32} {w1 : T → va_W} (S : CallFix p m c cc nL s args Ts own)
    (hM : XI l G tys y wsy rm (.ref b :: As) w0 out rv w1 mc0 ms0) (cw : CallW R s args own C index y bytes maxL ret wsy rm mc0 ms0 n) (hP : va_P G vwCl bs.flatten H) (hD : va_D A bs.flatten) (hS : va_S A s.heap H locs) (hA : ∀ q : Nat, s.heap.size ≤ q → A q) (hK : cK G tys s) (hX : xSt s) (hZ : xZ A s s.heap)
    (ci : Nat) {q : vw_C} {fs : List Value} (hc : vwCl[ci]? = some q) (hq : q.1 = C) (he : w0[0]? = some (b, .inr (ci, fs))) (isC : List Nat) (hC : isC.map (fun i => bs[i]?) = c0.map some) (hw : c0.flatten = w0) (hnd : va_nd isC = true) (hlen : isC.length = c0.length) (h2 : bx_put bs isC c0 = bs)
    (c1 bs2 : T → List va_W) (hw1 : ∀ u, (c1 u).flatten = w1 u) (hlen1 : ∀ u, isC.length = (c1 u).length) (h21 : ∀ u, bx_put bs isC (c1 u) = bs2 u) (hf1 : ∀ u, (bs2 u).map (fun b => b.map (fun q => q.1)) = bs.map (fun b => b.map (fun q => q.1)))
    (hst : st = As.reverse ++ .ref b :: rest) (hn : As.length = n) (hsize : ls.size = nL) (hW : (rest.map fun v => v.category).sum ≤ 8) (hdg : decode cc pc = .ok (.invokevirtual index, 3)) (hf : cells + mc0 ≤ R.cells ∧ slots + ms0 ≤ R.slots)
    (kx : ∀ (E : String) (H1 : Heap) (locs1 : List Loc) (ce : Cell) (q9 : Addr), out = .inl E → va_P G vwCl bs.flatten H1 → va_D A bs.flatten → va_S A s.heap H1 locs1 → H1[q9]? = some ce → ce.vm = .none → s.vm.findClass E = some ce.cls → vx_W p l e R s m args below meth c H1 locs1 (cells + mc0) (slots + ms0) Q (F0 m pc ls rest) q9)
    (kk : ∀ (u : T) (H1 : Heap) (locs1 : List Loc), out = .inr u → va_P G vwCl (bs2 u).flatten H1 → va_D A (bs2 u).flatten → va_S A s.heap H1 locs1 → W p l e R s m args below meth c H1 locs1 (cells + mc0) (slots + ms0) Q (F0 m (pc + 3) ls (.int (rv u) :: rest))) : W p l e R s m args below meth c H locs cells slots Q (F0 m pc ls st) := by
  obtain ⟨hPc, hDc⟩ := bx_sub hP hD isC hC hw hnd
  have hFc : ∀ q, va_A w0 H.size q → A q := by
    rintro q (⟨k, e, hk⟩ | hz)
    · exact hDc.2 k _ hk
    · exact hA q (Nat.le_trans hS.1 hz)
  subst hq
  refine vx_calli (vx_runV (As := As) (rest := rest) S (hM H.size) cw ⟨xPre_calling, va_recv hK.1 hPc (ci := ci) (q0 := 0) hc he, fun U hU hW => ⟨rfl, ⟨by rw [hU], by rw [hU]; exact hPc, cK.moved hW hK, hDc.weaken (fun _ _ _ _ => trivial)⟩, xSt.moved hW hX, by rw [hU]; exact vx_Zq.moved hW.alike ((hZ.1.kept hS.2.1).narrow hFc), by rw [hU]; exact vx_Zq.moved hW.alike ((hZ.2.kept hS.2.1).narrow hFc)⟩⟩ rfl hn hsize hst (lv_room hW) hdg hf) hS (fun q _ h => hFc q h) hFc (fun q _ h => hFc q h) (fun E ce q9 u t H1 locs1 ht hvm hpx hB hz1 hk1 hS1 hcell hv hcl => ?_) (fun r u t H1 locs1 ht hvm hw9 hB hz1 hk1 hS1 => ?_)
  · obtain ⟨ho, hP1, hD1⟩ := hB
    rw [ht] at hP1
    obtain ⟨hP2, hD2⟩ := bx_repl hP hD isC hC hw hk1 hP1 hw hlen h2 rfl
    exact kx E H1 locs1 ce q9 ho hP2 hD2 hS1 hcell hv hcl
  · obtain ⟨hP1, hD1⟩ := hB
    rw [ht] at hP1
    obtain ⟨ho, rfl⟩ := hw9
    obtain ⟨hP2, hD2⟩ := bx_repl hP hD isC hC hw hk1 hP1 (hw1 u) (hlen1 u) (h21 u) (hf1 u)
    exact kk u H1 locs1 ho hP2 hD2 hS1
/-- calling a wrapper -/
theorem lcall {index : Nat} {y : MethodName} {bytes : ByteArray} {maxL n mc0 ms0 : Nat} {ret : Option FieldType} {hh : List (Nat × Nat × Nat × Nat)} {wsy : List Cond} {rm : Room} {st As rest : List Value} {w0 w1 : va_W} {r : Int32} {c1 bs2 : List va_W} (S : CallFix p m c cc nL s args Ts own)
    (hM : LI l G tys y wsy rm As w0 r w1 mc0 ms0) (cw : vx_CSW R s args own index y bytes maxL ret hh wsy rm mc0 ms0 n) (hP : va_P G vwCl bs.flatten H) (hD : va_D A bs.flatten) (hS : va_S A s.heap H locs) (hA : ∀ q : Nat, s.heap.size ≤ q → A q) (hK : cK G tys s) (hX : xSt s) (hZ : xZ A s s.heap) (hN : xN s)
    (isC : List Nat) (hC : isC.map (fun i => bs[i]?) = c0.map some) (hw : c0.flatten = w0) (hnd : va_nd isC = true) (hw1 : c1.flatten = w1) (hlen : isC.length = c1.length) (h2 : bx_put bs isC c1 = bs2) (hf1 : bs2.map (fun b => b.map (fun q => q.1)) = bs.map (fun b => b.map (fun q => q.1)))
    (hst : st = As.reverse ++ rest) (hn : As.length = n) (hsize : ls.size = nL) (hW : (rest.map fun v => v.category).sum ≤ 8) (hdg : decode cc pc = .ok (.invokestatic index, 3)) (hf : cells + mc0 ≤ R.cells ∧ slots + ms0 ≤ R.slots)
    (kk : ∀ (H1 : Heap) (locs1 : List Loc), va_P G vwCl bs2.flatten H1 → va_D A bs2.flatten → va_S A s.heap H1 locs1 → W p l e R s m args below meth c H1 locs1 (cells + mc0) (slots + ms0) Q (F0 m (pc + 3) ls (.int r :: rest))) : W p l e R s m args below meth c H locs cells slots Q (F0 m pc ls st) := by
  obtain ⟨hPc, hDc⟩ := bx_sub hP hD isC hC hw hnd
  have hFc : ∀ q, va_A w0 H.size q → A q := by
    rintro q (⟨k, e, hk⟩ | hz)
    · exact hDc.2 k _ hk
    · exact hA q (Nat.le_trans hS.1 hz)
  refine va_calli (vx_runSW (As := As) (rest := rest) S (hM H.size) cw ⟨yPre_calling, fun U hU hW => ⟨rfl, ⟨by rw [hU], by rw [hU]; exact hPc, cK.moved hW hK, hDc.weaken (fun _ _ _ _ => trivial)⟩, xSt.moved hW hX, ⟨by rw [hU]; exact vx_Zq.moved hW.alike ((hZ.1.kept hS.2.1).narrow hFc), by rw [hU]; exact vx_Zq.moved hW.alike ((hZ.2.kept hS.2.1).narrow hFc)⟩, xN.moved hW.alike hN⟩⟩ rfl hn hsize hst (lv_room hW) hdg hf) hS (fun q _ h => hFc q h) hFc (fun r1 u t H1 locs1 ht hvm hw9 hB hz1 hk1 hS1 => ?_)
  obtain ⟨hP1, hD1⟩ := hB
  rw [ht] at hP1
  obtain ⟨hP2, hD2⟩ := bx_repl hP hD isC hC hw hk1 hP1 hw1 hlen h2 hf1
  subst hw9
  exact kk H1 locs1 hP2 hD2 hS1
end CALLS7
theorem pre1 {P : ExceptionTableEntry → Prop} {x : ExceptionTableEntry} (hx : P x) : ∀ z ∈ [x], P z := fun z hz => by
  rw [List.mem_singleton] at hz; rw [hz]; exact hx
theorem pre2 {P : ExceptionTableEntry → Prop} {x y : ExceptionTableEntry} (hx : P x) (hy : P y) : ∀ z ∈ [x, y], P z := fun z hz => by
  rcases List.mem_cons.mp hz with rfl | hz
  · exact hx
  · rw [List.mem_singleton] at hz; rw [hz]; exact hy
