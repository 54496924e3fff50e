/-! constructors -/
theorem arr_eq {cG : ClassId} {n : Nat} {f g : Nat → Option Nat} (h : ∀ j, j < n → f j = g j) : vp_cell cG (n, .inr (.inr (.inr (.inr f)))) = vp_cell cG (n, .inr (.inr (.inr (.inr g)))) := by
  show arrV cG n (fun j => va_rf (f j)) = arrV cG n (fun j => va_rf (g j))
  unfold arrV
  congr 2
  funext j
  show va_rf (f j.1) = va_rf (g j.1)
  rw [h j.1 j.2]
def nPre (G : va_G) (tys : List (ClassId × FieldType)) (w : va_W) (sz : Nat) : State → Prop := fun U => cPre G tys w sz U ∧ va_AO RX1 U
theorem nPre_calling {av : List Value} {G : va_G} {tys : List (ClassId × FieldType)} {w : va_W} {sz : Nat} : FrameBlind (va_Pc av (nPre G tys w sz)) :=
  fun a U g mk q => by obtain ⟨q0, ⟨q1, qP, qK, qD⟩, qA⟩ := q; exact ⟨q0, ⟨q1, qP, ⟨va_K.moved (u := U) (U := U.calling g mk a) (Vm.Alike.refl U.vm) qK.1, va_Nw.same rfl (u := U) (U := U.calling g mk a) rfl qK.2⟩, qD⟩, va_AO.moved (u := U) (U := U.calling g mk a) (Vm.Alike.refl U.vm) qA⟩
/-- a constructor: from the bare object to the world W u, at the places u -/
abbrev CNw (l : Launch) (G : va_G) (tys : List (ClassId × FieldType)) (y : MethodName) (ws : List Cond) (rm : Room) (av : List Value) (h0 : Nat) (e0 : va_E) (W1 : (Nat → Nat) → va_W) (mc ms : Nat) : Prop :=
  ∀ sz : Nat, Met l y ws rm (va_Pc av (nPre G tys [(h0, e0)] sz)) (va_Qv (fun u : Nat → Nat => u 0 = h0) (fun u => cB G (W1 u) (va_A [(h0, e0)] sz) ()) (va_A [(h0, e0)] sz)) mc ms (va_A [(h0, e0)] sz)
section CALLS5
variable {p : Program} {l : Launch} {e : Env} {R : Room} {s : State} {m : MethodId} {args : Array Value} {below : List Frame} {meth : Method} {c : Code} {H : Heap} {locs : List Loc} {cells slots : Nat} {Q : State → Prop} {pc : Nat} {ls : Array Slot} {cc : ByteArray} {nL : Nat} {Ts : List Cond} {own C : String} {G : va_G} {tys : List (ClassId × FieldType)} {A : Nat → Prop} {ws : va_W}
theorem new_int {cI cG : ClassId} {n : Int32} {N : Nat} {rest : List Value} (hx : p.tables.exec = Jvm.exec) (hb : c.code = cc) (harr : (Cond.arrayClass (newarray.typeOf .int)).before args s = true) (hK : va_K G vwCl (tyz cI cG) s) (hP : va_P G vwCl ws H) (hD : va_D A ws) (hS : va_S A s.heap H locs) (hA : ∀ q, s.heap.size ≤ q → A q)
    (hn : ¬ n < 0) (hN : n.toNatClampNeg = N) (hbytes : N * componentBytes .int ≤ 536870912) (hcells : cells + 1 ≤ R.cells) (hslots : slots + N ≤ R.slots) (hdg : decode cc pc = .ok (.newarray .int, 2))
    (kk : ∀ (q : Nat) (H1 : Heap), va_P G vwCl (ws ++ [(q, .inl (cI, N, .inl (fun _ => 0)))]) H1 → va_D A (ws ++ [(q, .inl (cI, N, .inl (fun _ => 0)))]) → va_S A s.heap H1 locs →
      W p l e R s m args below meth c H1 locs (cells + 1) (slots + N) Q (F0 m (pc + 2) ls (.ref q :: rest))) : W p l e R s m args below meth c H locs cells slots Q (F0 m pc ls (.int n :: rest)) := by
  refine va_newa (atype := .int) (ty := .int) (a0 := (N, .inl (fun _ => 0))) hx hb harr rfl hK hP hD hS hA (fun cA => rfl) hn hN hbytes hcells hslots hdg (fun q cA H1 hK1 hP hD hS => ?_)
  have h1 : va_RA s cI .int := (hK.2 0 (cI, .int) rfl).2
  have h2 : va_RA s cA .int := (hK1.2 2 (cA, .int) rfl).2
  have e : cI = cA := Option.some.inj (Eq.trans (Eq.symm h1) h2)
  subst e
  exact kk q H1 hP hD hS
theorem new_q {cI cG : ClassId} {n : Int32} {N index : Nat} {rest : List Value} (hx : p.tables.exec = Jvm.exec) (hb : c.code = cc) (hown : s.vm.findClass own = some m.cls) (hclink : (Cond.classLink own index RX1).before args s = true) (hover : va_AO RX1 s) (hK : va_K G vwCl (tyz cI cG) s) (hP : va_P G vwCl ws H) (hD : va_D A ws) (hS : va_S A s.heap H locs) (hA : ∀ q, s.heap.size ≤ q → A q)
    (hn : ¬ n < 0) (hN : n.toNatClampNeg = N) (hbytes : N * 4 ≤ 536870912) (hcells : cells + 1 ≤ R.cells) (hslots : slots + N ≤ R.slots) (hdg : decode cc pc = .ok (.anewarray index, 3))
    (kk : ∀ (q : Nat) (H1 : Heap), va_P G vwCl (ws ++ [(q, .inl (cG, N, .inr (.inr (.inr (.inr (fun _ => none))))))]) H1 → va_D A (ws ++ [(q, .inl (cG, N, .inr (.inr (.inr (.inr (fun _ => none))))))]) → va_S A s.heap H1 locs →
      W p l e R s m args below meth c H1 locs (cells + 1) (slots + N) Q (F0 m (pc + 3) ls (.ref q :: rest))) : W p l e R s m args below meth c H locs cells slots Q (F0 m pc ls (.int n :: rest)) := by
  refine va_newq hx hb hown hclink hover hK hP hD hS hA hn hN hbytes hcells hslots hdg (fun q cA H1 hK1 hP hD hS => ?_)
  obtain ⟨k1, c1, -, -, -, h1⟩ := (hK.2 1 (cG, .object RX1) rfl).2
  obtain ⟨k2, c2, -, -, -, h2⟩ := (hK1.2 2 (cA, .object RX1) rfl).2
  have e : cG = cA := Option.some.inj (h1.symm.trans h2)
  subst e
  exact kk q H1 hP hD hS
theorem ncall {index : Nat} {y : MethodName} {bytes : ByteArray} {maxL n mc0 ms0 : Nat} {wsy : List Cond} {rm : Room} {st As rest : List Value} {b : Nat} {e0 : va_E} {wr : va_W} {W1 : (Nat → Nat) → va_W} (S : CallFix p m c cc nL s args Ts own)
    (hM : CNw l G tys y wsy rm (.ref b :: As) b e0 W1 mc0 ms0) (cw : CallB R s args own index y bytes maxL none wsy rm mc0 ms0 n ∧ y.name = "<init>" ∧ (Cond.instanceMethod y).before args s = true) (hP : va_P G vwCl ws H) (hD : va_D A ws) (hS : va_S A s.heap H locs) (hA : ∀ q : Nat, s.heap.size ≤ q → A q) (hK : cK G tys s) (hAO : va_AO RX1 s)
    (k : Nat) (isR : List Nat) (hC : [k].map (fun i => ws[i]?) = [(b, e0)].map some) (hR : isR.map (fun i => ws[i]?) = wr.map some) (hnd : va_nd isR = true) (hdis : ∀ i ∈ isR, i ∉ [k])
    (hst : st = As.reverse ++ .ref b :: rest) (hn : As.length = n) (hsize : ls.size = nL) (hW : (rest.map fun v => v.category).sum ≤ 8) (hdg : decode cc pc = .ok (.invokespecial index, 3)) (hf : cells + mc0 ≤ R.cells ∧ slots + ms0 ≤ R.slots)
    (kk : ∀ (u : Nat → Nat) (H1 : Heap) (locs1 : List Loc), u 0 = b → va_P G vwCl (wr ++ W1 u) H1 → va_D A (wr ++ W1 u) → va_S A s.heap H1 locs1 → W p l e R s m args below meth c H1 locs1 (cells + mc0) (slots + ms0) Q (F0 m (pc + 3) ls rest)) : W p l e R s m args below meth c H locs cells slots Q (F0 m pc ls st) := by
  have hPc : va_P G vwCl [(b, e0)] H := hP.sub [k] (by have := hC; simp only [List.map_cons, List.map_nil, List.cons.injEq] at this; simp [this.1])
  have hDc := hD.sub (ws' := [(b, e0)]) [k] rfl hC
  have hFc := va_free (wc := [(b, e0)]) hD hS hA [k] hC
  refine va_callv (va_runI (As := As) (rest := rest) S (hM H.size) cw ⟨nPre_calling, fun U hU hW => ⟨rfl, ⟨by rw [hU], by rw [hU]; exact hPc, cK.moved hW hK, hDc.weaken (fun _ _ _ _ => trivial)⟩, va_AO.moved hW.alike hAO⟩⟩ rfl hn hsize hst (lv_room hW) hdg hf) hS (fun q _ h => hFc q h) hFc (fun u t H1 locs ht hvm hw9 hB hz1 hk1 hS => ?_)
  obtain ⟨hP1, hD1⟩ := hB
  rw [ht] at hP1
  obtain ⟨hP, hD⟩ := va_join hP hD [k] isR hC hR hnd hdis hk1 hFc hP1 hD1
  exact kk u H1 locs hw9 hP hD hS
end CALLS5
