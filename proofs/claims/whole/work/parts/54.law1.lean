theorem wu_J0 : ∀ w ∈ wsJ00, w ∈ lw_tbl := (List.forall_mem_cons.mpr ⟨mT3 _ (List.mem_of_getElem? (i := 71) rfl), (List.forall_mem_cons.mpr ⟨mT3 _ (List.mem_of_getElem? (i := 73) rfl), (List.forall_mem_cons.mpr ⟨mT3 _ (List.mem_of_getElem? (i := 75) rfl), (List.forall_mem_cons.mpr ⟨mT3 _ (List.mem_of_getElem? (i := 77) rfl), (fun _ h => by cases h)⟩)⟩)⟩)⟩)
abbrev lwB (cI cG cL : ClassId) (a : Nat → Nat) (o : Nat) (b : Nat → Nat) (c : CS) (mo : MS) (ol : Nat → Int64) : List va_W :=
  [[((a 0), .inr (8, [.ref (a 1), .ref (a 11), .ref (a 21), .ref (a 63)]))],
   wG cI (a 1) (a 2) (a 3) (a 4) (a 5) (a 6) (a 7) (a 8) (a 9) (a 10) c.ft c.er c.eb c.li c.st c.rd c.tu c.la c.dl c.sh c.tb,
   wG cI (a 11) (a 12) (a 13) (a 14) (a 15) (a 16) (a 17) (a 18) (a 19) (a 20) c.zft c.zer c.zeb c.zli c.zst c.zrd c.ztu c.zla c.zdl c.zsh c.ztb,
   wH cI cG (fun i => a (21 + i)) c.yc c.yp c.yg,
   wS cI (a 63) (a 64) (a 65) (a 66) (a 67) c.tx c.cm,
   [(o, .inl (cL, 1, .inr (.inl ol)))],
   [((b 0), .inr (9, [.int mo.th, .ref (b 1), .ref (b 2), .ref (b 3), .int mo.sm, .ref (b 4), .int mo.ln, .int mo.nx, .int mo.cd, .int mo.dg, .int mo.pw, .long mo.hs])), ((b 1), .inl (cI, 378, .inl mo.sa)), ((b 2), .inl (cI, 378, .inl mo.asd)), ((b 3), .inl (cI, 1512, .inl mo.sv)), ((b 4), .inl (cI, 120, .inl mo.mt))]]
section LAWROWS
variable {p : Program} {l : Launch} {e : Env} {R : Room} {s : State} {m : MethodId} {args : Array Value} {below : List Frame} {meth : Method} {c : Code} {H : Heap} {locs : List Loc} {cells slots : Nat} {Q : State → Prop} {pc : Nat} {ls : Array Slot} {cc : ByteArray} {rest : List Value}
theorem lv_lcmpE (hexec : p.tables.exec = Jvm.exec) (hb : c.code = cc) {x y : Int64} (hxy : x = y) (hdg : decode cc pc = .ok (.lcmp, 1))
    (k : W p l e R s m args below meth c H locs cells slots Q (F0 m (pc + 1) ls (.int 0 :: rest))) : W p l e R s m args below meth c H locs cells slots Q (F0 m pc ls (.long y :: .long x :: rest)) := by
  subst hxy
  intro T hT X
  obtain ⟨t, a, b⟩ := k T hT X
  refine ⟨t, ?_, b⟩
  have hlt : ¬ (x > x) := fun h => absurd (Int64.lt_iff_toInt_lt.mp h) (Int.lt_irrefl _)
  jvm_step X.here [X.here.top, hexec, hb, hdg, hlt]
  exact a
end LAWROWS
section CALLSD
variable {p : Program} {l : Launch} {e : Env} {R : Room} {s : State} {m : MethodId} {args : Array Value} {below : List Frame} {meth : Method} {c : Code} {H : Heap} {locs : List Loc} {cells slots : Nat} {Q : State → Prop} {pc : Nat} {ls : Array Slot} {cc : ByteArray} {nL : Nat} {Ts : List Cond} {own C : String} {G : va_G} {tys : List (ClassId × FieldType)} {A : Nat → Prop} {bs c0 c1 bs2 : List va_W}
theorem bcall_dV {index : Nat} {y : MethodName} {bytes : ByteArray} {maxL n : Nat} {ret : Option FieldType} {wsy : List Cond} {rm : Room} {st As rest : List Value} {b : Nat} {w0 w1 : va_W} {r : UInt64} (S : CallFix p m c cc nL s args Ts own)
    (hM : CD l G tys y wsy rm (.ref b :: As) w0 r w1) (cw : CallW R s args own C index y bytes maxL ret wsy rm 0 0 n) (hP : va_P G vwCl bs.flatten H) (hD : va_D A bs.flatten) (hS : va_S A s.heap H locs) (hA : ∀ q : Nat, s.heap.size ≤ q → A q) (hK : cK G tys s)
    (ci : Nat) {q : vw_C} {fs : List Value} (hc : vwCl[ci]? = some q) (hq : q.1 = C) (he : w0[0]? = some (b, .inr (ci, fs))) (isC : List Nat) (hC : isC.map (fun i => bs[i]?) = c0.map some) (hw : c0.flatten = w0) (hnd : va_nd isC = true) (hw1 : c1.flatten = w1) (hlen : isC.length = c1.length) (h2 : bx_put bs isC c1 = bs2) (hf1 : bs2.map (fun b => b.map (fun q => q.1)) = bs.map (fun b => b.map (fun q => q.1)))
    (hst : st = As.reverse ++ .ref b :: rest) (hn : As.length = n) (hsize : ls.size = nL) (hW : (rest.map fun v => v.category).sum ≤ 8) (hdg : decode cc pc = .ok (.invokevirtual index, 3)) (hf : cells ≤ R.cells ∧ slots ≤ R.slots)
    (kk : ∀ (H1 : Heap) (locs1 : List Loc), va_P G vwCl bs2.flatten H1 → va_D A bs2.flatten → va_S A s.heap H1 locs1 → W p l e R s m args below meth c H1 locs1 cells slots Q (F0 m (pc + 3) ls (.double r :: rest))) : W p l e R s m args below meth c H locs cells slots Q (F0 m pc ls st) := by
  obtain ⟨hPc, hDc⟩ := bx_sub hP hD isC hC hw hnd
  have hFc : ∀ q, va_A w0 H.size q → A q := by
    rintro q (⟨k, e, hk⟩ | hz)
    · exact hDc.2 k _ hk
    · exact hA q (Nat.le_trans hS.1 hz)
  subst hq
  refine va_calld (va_runV (As := As) (rest := rest) S (hM H.size) cw ⟨cPre_calling, va_recv hK.1 hPc (ci := ci) (q0 := 0) hc he, fun U hU hW => ⟨rfl, by rw [hU], by rw [hU]; exact hPc, cK.moved hW hK, hDc.weaken (fun _ _ _ _ => trivial)⟩⟩ rfl hn hsize hst (lv_room hW) hdg hf) hS (fun q _ h => hFc q h) hFc (fun r1 u t H1 locs ht hvm hw9 hB hz1 hk1 hS => ?_)
  obtain ⟨hP1, hD1⟩ := hB
  rw [ht] at hP1
  obtain ⟨hP2, hD2⟩ := bx_repl hP hD isC hC hw hk1 hP1 hw1 hlen h2 hf1
  subst hw9
  exact kk H1 locs hP2 hD2 hS
end CALLSD
theorem icmp_self (z : Int) : compare z z = .eq := by
  show compareOfLessAndEq z z = .eq
  unfold compareOfLessAndEq
  rw [if_neg (Int.lt_irrefl z), if_pos rfl]
theorem dcmp_any (x : UInt64) : FP.dcmp x x = some .eq ∨ FP.dcmp x x = none := by
  show FP.Core.order (FP.Core.decode FP.Core.b64 x.toNat) (FP.Core.decode FP.Core.b64 x.toNat) = _ ∨ FP.Core.order (FP.Core.decode FP.Core.b64 x.toNat) (FP.Core.decode FP.Core.b64 x.toNat) = _
  cases FP.Core.decode FP.Core.b64 x.toNat with
  | nan => exact Or.inr rfl
  | inf s => exact Or.inl (congrArg some (icmp_self _))
  | fin s c q => exact Or.inl (congrArg some (icmp_self _))
