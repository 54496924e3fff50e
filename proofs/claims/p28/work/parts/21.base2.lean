/-- the four saved games' places -/
def adr4 (x0 x1 x2 x3 : Nat) (k : Nat) : Nat := match k with
  | 0 => x0
  | 1 => x1
  | 2 => x2
  | _ => x3
theorem k4 {k : Nat} (h : k < 4) : k = 0 ∨ k = 1 ∨ k = 2 ∨ k = 3 := by omega
abbrev hRefs (x0 x1 x2 x3 : Nat) (hp : Nat → Nat) : Nat → Option Nat := fun i => some (adr4 x0 x1 x2 x3 (hp i))
theorem hRefs_up {x0 x1 x2 x3 : Nat} {hp : Nat → Nat} {j k : Nat} : va_up (hRefs x0 x1 x2 x3 hp) j (some (adr4 x0 x1 x2 x3 k)) = hRefs x0 x1 x2 x3 (va_up hp j k) := by
  funext i
  unfold va_up
  by_cases h : i = j
  · simp [h, hRefs]
  · simp [h, hRefs]
/-- a method with a reference for an answer -/
abbrev CR (l : Launch) (G : va_G) (tys : List (ClassId × FieldType)) (y : MethodName) (ws : List Cond) (rm : Room) (av : List Value) (w0 : va_W) (r : Nat) (w1 : va_W) : Prop :=
  ∀ sz : Nat, Met l y ws rm (va_Pc av (cPre G tys w0 sz)) (va_Qr (fun (_ : Unit) => True) (fun u ra t => ra = r ∧ cB G w1 (va_A w0 sz) u t) (va_A w0 sz)) 0 0 (va_A w0 sz)
section CALLS2
variable {p : Program} {l : Launch} {e : Env} {R : Room} {s : State} {m : MethodId} {args : Array Value} {below : List Frame} {meth : Method} {c : Code} {H : Heap} {locs : List Loc} {cells slots : Nat} {Q : State → Prop} {pc : Nat} {ls : Array Slot} {cc : ByteArray} {nL : Nat} {Ts : List Cond} {own C : String} {G : va_G} {tys : List (ClassId × FieldType)} {A : Nat → Prop} {ws : va_W}
theorem call_rV {index : Nat} {y : MethodName} {bytes : ByteArray} {maxL n : Nat} {ret : Option FieldType} {wsy : List Cond} {rm : Room} {st As rest : List Value} {b : Nat} {w0 w1 ws2 : va_W} {r : Nat} (S : CallFix p m c cc nL s args Ts own)
    (hM : CR l G tys y wsy rm (.ref b :: As) w0 r w1) (cw : CallW R s args own C index y bytes maxL ret wsy rm 0 0 n) (hP : va_P G vwCl ws H) (hD : va_D A ws) (hS : va_S A s.heap H locs) (hA : ∀ q : Nat, s.heap.size ≤ q → A q) (hK : cK G tys s)
    (ci : Nat) {q : vw_C} {fs : List Value} (hc : vwCl[ci]? = some q) (hq : q.1 = C) (he : w0[0]? = some (b, .inr (ci, fs))) (isC : List Nat) (hC : isC.map (fun i => ws[i]?) = w0.map some) (hC2 : isC.filterMap (fun i => ws[i]?) = w0) (hnd : va_nd isC = true) (hlen : isC.length = w1.length) (h2 : wx_put ws isC w1 = ws2) (hf1 : ws2.map (fun q => q.1) = ws.map (fun q => q.1))
    (hst : st = As.reverse ++ .ref b :: rest) (hn : As.length = n) (hsize : ls.size = nL) (hW : (rest.map fun v => v.category).sum ≤ 8) (hdg : decode cc pc = .ok (.invokevirtual index, 3)) (hf : cells ≤ R.cells ∧ slots ≤ R.slots)
    (kk : ∀ (H1 : Heap) (locs1 : List Loc), va_P G vwCl ws2 H1 → va_D A ws2 → va_S A s.heap H1 locs1 → W p l e R s m args below meth c H1 locs1 cells slots Q (F0 m (pc + 3) ls (.ref r :: rest))) : W p l e R s m args below meth c H locs cells slots Q (F0 m pc ls st) := by
  have hPc := hP.sub (ws' := w0) isC hC2
  have hDc := hD.sub (ws' := w0) isC hnd hC
  have hFc := va_free (wc := w0) hD hS hA isC hC
  subst hq
  refine va_callr (va_runV (As := As) (rest := rest) S (hM H.size) cw ⟨cPre_calling, va_recv hK.1 hPc (ci := ci) (q0 := 0) hc he, fun U hU hW => ⟨rfl, by rw [hU], by rw [hU]; exact hPc, cK.moved hW hK, hDc.weaken (fun _ _ _ _ => trivial)⟩⟩ rfl hn hsize hst (lv_room hW) hdg hf) hS (fun q _ h => hFc q h) hFc (fun u ra t H1 locs ht hvm hw hB hz1 hk1 hS => ?_)
  obtain ⟨rfl, hP1, hD1⟩ := hB
  rw [ht] at hP1
  obtain ⟨hP2, hD2⟩ := wx_repl hP hD isC hC hk1 hP1 hlen h2 hf1
  exact kk H1 locs hP2 hD2 hS
theorem end_r {v r : Nat} {w1 : va_W} {n : String} (hx : p.tables.exec = Jvm.exec) (hb : c.code = cc) (hr : meth.sig.returnType = some (.object n)) (hv : v = r) (hP : va_P G vwCl w1 H) (hD : va_D A w1) (hS : va_S A s.heap H locs) (hdg : decode cc pc = .ok (.areturn, 1)) (hlocks : meth.locks = false) :
    W p l e R s m args below meth c H locs 0 0 (MQ below (va_Qr (fun (_ : Unit) => True) (fun u ra t => ra = r ∧ cB G w1 A u t) A) args s 0 0 A) (F0 m pc ls [.ref v]) :=
  W.aret hx hb hr (Or.inl ⟨n, rfl⟩) (Or.inr ⟨v, rfl⟩) (fun t ht hW => ⟨⟨(), v, rfl, trivial, hv, by rw [ht]; exact hP, hD⟩, hS.F ht⟩) hS.2.2 hdg hlocks
theorem h_ast {a x0 x1 x2 x3 k : Nat} {hp : Nat → Nat} {v0 v1 v2 v3 : List Value} {cG : ClassId} {i : Int32} {rest : List Value} (hx : p.tables.exec = Jvm.exec) (hb : c.code = cc) (hK : va_K G vwCl tys s) (hP : va_P G vwCl ws H) (hD : va_D A ws) (hS : va_S A s.heap H locs)
    (ha : ws[1]? = some (a, .inl (cG, 4, .inr (.inr (.inr (.inr (hRefs x0 x1 x2 x3 hp))))))) (ht : tys[1]? = some (cG, .object RX1)) (h0 : ws[2]? = some (x0, .inr (1, v0))) (h1 : ws[12]? = some (x1, .inr (1, v1))) (h2 : ws[22]? = some (x2, .inr (1, v2))) (h3 : ws[32]? = some (x3, .inr (1, v3))) (hk : k < 4) (hin : vp_in i 4) (hdg : decode cc pc = .ok (.aastore, 1))
    (kk : ∀ (H1 : Heap) (locs1 : List Loc), va_P G vwCl (ws.set 1 (a, .inl (cG, 4, .inr (.inr (.inr (.inr (hRefs x0 x1 x2 x3 (va_up hp i.toNatClampNeg k)))))))) H1 → va_D A (ws.set 1 (a, .inl (cG, 4, .inr (.inr (.inr (.inr (hRefs x0 x1 x2 x3 (va_up hp i.toNatClampNeg k)))))))) → va_S A s.heap H1 locs1 → W p l e R s m args below meth c H1 locs1 cells slots Q (F0 m (pc + 1) ls rest)) : W p l e R s m args below meth c H locs cells slots Q (F0 m pc ls (.ref (adr4 x0 x1 x2 x3 k) :: .int i :: .ref a :: rest)) := by
  rw [← hRefs_up] at kk
  obtain rfl | rfl | rfl | rfl := k4 hk
  · exact va_astq hx hb hK hP hD hS 1 1 2 1 ha ht h0 rfl hin hdg kk
  · exact va_astq hx hb hK hP hD hS 1 1 12 1 ha ht h1 rfl hin hdg kk
  · exact va_astq hx hb hK hP hD hS 1 1 22 1 ha ht h2 rfl hin hdg kk
  · exact va_astq hx hb hK hP hD hS 1 1 32 1 ha ht h3 rfl hin hdg kk
end CALLS2
