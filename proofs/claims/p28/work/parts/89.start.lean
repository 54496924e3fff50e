/-! the beginning of the law -/
theorem law_K {s : State} {b : Nat} (hts0 : ∀ w ∈ lw_tbl, w.before #[Value.ref b] s = true) : ∃ (G : va_G) (cI cG : ClassId), cK G (tyz cI cG) s := by
  obtain ⟨c0, i0, k0⟩ := u_known (C := RX0) (T := TX0) (N := 2) (n := 2) hts0 inu_X0 (hts0 (.instantiable RX0 2) (mT1 _ (List.mem_of_getElem? (i := 51) rfl)))
  obtain ⟨c1, i1, k1⟩ := u_known (C := RX1) (T := TX1) (N := 10) (n := 10) hts0 inu_X1 (hts0 (.instantiable RX1 10) (mT1 _ (List.mem_of_getElem? (i := 25) rfl)))
  obtain ⟨c2, i2, k2⟩ := u_known (C := RX2) (T := TX2) (N := 2) (n := 2) hts0 inu_X2 (hts0 (.instantiable RX2 2) (mT1 _ (List.mem_of_getElem? (i := 97) rfl)))
  obtain ⟨c3, i3, k3⟩ := u_known (C := RX3) (T := TX3) (N := 2) (n := 2) hts0 inu_X3 (hts0 (.instantiable RX3 2) (mT1 _ (List.mem_of_getElem? (i := 113) rfl)))
  obtain ⟨c4, i4, k4⟩ := u_known (C := RX4) (T := TX4) (N := 3) (n := 3) hts0 inu_X4 (hts0 (.instantiable RX4 3) (mT1 _ (List.mem_of_getElem? (i := 31) rfl)))
  obtain ⟨c5, i5, k5⟩ := u_known (C := RX5) (T := TX5) (N := 4) (n := 4) hts0 inu_X5 (hts0 (.instantiable RX5 4) (mT1 _ (List.mem_of_getElem? (i := 17) rfl)))
  obtain ⟨cI, kI, xI, fI1, fI2, fI3⟩ := Cond.arrayClass_spec (hts0 (.arrayClass .int) (mT1 _ (List.mem_of_getElem? (i := 49) rfl)))
  obtain ⟨xG, cG, kG, fG1, -, fG2, fG3, fG5⟩ := Cond.arrayOver_spec (hts0 (.arrayOver (.object RX1)) (mT1 _ (List.mem_of_getElem? (i := 103) rfl)))
  refine ⟨(fun k => if k = 0 then c0 else if k = 1 then c1 else if k = 2 then c2 else if k = 3 then c3 else if k = 4 then c4 else c5, fun k => if k = 0 then i0 else if k = 1 then i1 else if k = 2 then i2 else if k = 3 then i3 else if k = 4 then i4 else i5), cI, cG, ⟨fun k q hq => ?_, fun k q hq => ?_⟩, va_Nw.of rfl (hts0 cNest (mT3 _ (List.mem_of_getElem? (i := 98) rfl)))⟩
  · match k, hq with
    | 0, hq => obtain rfl := Option.some.inj hq; exact k0
    | 1, hq => obtain rfl := Option.some.inj hq; exact k1
    | 2, hq => obtain rfl := Option.some.inj hq; exact k2
    | 3, hq => obtain rfl := Option.some.inj hq; exact k3
    | 4, hq => obtain rfl := Option.some.inj hq; exact k4
    | 5, hq => obtain rfl := Option.some.inj hq; exact k5
    | k + 6, hq => exact absurd hq (by simp [vwCl])
  · match k, hq with
    | 0, hq => obtain rfl := Option.some.inj hq; exact ⟨fun n z => ⟨fun k h => (by cases h), kI, fI2, xI, fI3⟩, fI1⟩
    | 1, hq => obtain rfl := Option.some.inj hq; exact ⟨fun n z => ⟨fun k h => (by cases h), kG, fG2, xG, fG3⟩, kG, xG, fG2, fG3, fG1, fG5⟩
    | k + 2, hq => exact absurd hq (by simp [tyz])
set_option maxHeartbeats 8000000 in
set_option maxRecDepth 100000 in
theorem law_start {p : Program} {l : Launch} {e : Env} {s : State} {m : MethodId} {below : List Frame} {meth : Method} {c : Code} {Q : State → Prop} {b L : Nat} {xs : Nat → Int32} (hx : p.tables.exec = Jvm.exec) (hb : c.code = cL_law) (hml : c.maxLocals = 15) (hown : s.vm.findClass RL = some m.cls) (hts0 : ∀ w ∈ lw_tbl, w.before #[Value.ref b] s = true) (hXs : va_X b L xs s s.heap) (hbl : b < s.heap.size) (hL : L ≤ 260)
    (kend : ∀ (H1 : Heap) (locs1 : List Loc) (ls1 : Array Slot), va_S (fun q : Nat => s.heap.size ≤ q) s.heap H1 locs1 → W p l e room_1 s m #[Value.ref b] below meth c H1 locs1 600074 7301550 Q (F0 m 377 ls1 [.int 1])) :
    W p l e room_1 s m #[Value.ref b] below meth c s.heap [] 0 0 Q (entryFrame m ([Value.ref b] : List Value).toArray 15) := by
  obtain ⟨G, cI, cG, hK⟩ := law_K hts0
  have hts : ∀ w ∈ wsL_law, w.before #[Value.ref b] s = true := fun w h => hts0 w (inL_law w h)
  have hAO : va_AO RX1 s := va_AO.of (hts0 (.arrayOver (.object RX1)) (mT1 _ (List.mem_of_getElem? (i := 103) rfl)))
  obtain ⟨A, hA, hbA, hS, hD, kend⟩ : ∃ A : Nat → Prop, (∀ q : Nat, s.heap.size ≤ q → A q) ∧ ¬ A b ∧ va_S A s.heap s.heap [] ∧ va_D A [] ∧ (∀ (H1 : Heap) (locs1 : List Loc) (ls1 : Array Slot), va_S A s.heap H1 locs1 → W p l e room_1 s m #[Value.ref b] below meth c H1 locs1 600074 7301550 Q (F0 m 377 ls1 [.int 1])) := ⟨fun q : Nat => s.heap.size ≤ q, fun _ h => h, Nat.not_le.mpr hbl, va_S.rf, ⟨fun i j p q h => by simp at h, fun k q h => by simp at h⟩, kend⟩
  have hP : va_P G vwCl [] s.heap := fun k q h => by simp at h
  have hl := lv_entry ([.ref b]) (n := 15) (Nat.le_of_ble_eq_true rfl)
  rw [lg_entry_eq]
  generalize (lg_sl ([.ref b]) ++ List.replicate (15 - (lg_sl ([.ref b])).length) Slot.unset).toArray = ls at hl ⊢
  have hl : lv_has ls 15 [(0, .ref b)] := hl
  refine va_new (ci := 5) (fs := [.null, .null, .null, .null]) (C := RX5) (T := TX5) (N := 4) hx hb hts0 inu_X5 tyX5 tyX5_ok hown (hts0 (.classLink RL 9 RX5) (mT1 _ (List.mem_of_getElem? (i := 16) rfl))) (hts0 (.instantiable RX5 4) (mT1 _ (List.mem_of_getElem? (i := 17) rfl))) (hts0 (.initialized RX5) (mT1 _ (List.mem_of_getElem? (i := 1) rfl))) hK.1 hP hD hS hA rfl (by decide) (Nat.le_of_ble_eq_true rfl) (Nat.le_of_ble_eq_true rfl) dL_law_0 (fun q1 H hP hD hS => ?_)
  have hP : va_P G vwCl [(q1, .inr (5, [.null, .null, .null, .null]))] H := hP
  have hD : va_D A [(q1, .inr (5, [.null, .null, .null, .null]))] := hD
  refine lv_dup hx hb dL_law_3 rfl ?_
  refine ncall (As := []) (rest := [.ref q1]) (wr := []) ⟨hx, hb, hml, hown, hts0⟩ (cX5_init_ok l G cI cG q1) (cwI 0 hts0 (fun w h => ⟨inX5_init w h, goX5_init w h⟩) rfl rfl rfl (hts0 (.initialized RX5) (mT1 _ (List.mem_of_getElem? (i := 1) rfl))) (hts0 (.methodLink RL 73 yX5_init) (mT1 _ (List.mem_of_getElem? (i := 18) rfl))) (hts0 (.instanceMethod yX5_init) (mT1 _ (List.mem_of_getElem? (i := 19) rfl))) rfl hdX5_init ⟨(Nat.le_of_ble_eq_true rfl), (Nat.le_of_ble_eq_true rfl)⟩) hP hD hS hA hK hAO 0 [] rfl rfl rfl (by decide) rfl rfl hl.1 (Nat.le_of_ble_eq_true rfl) dL_law_4 ⟨(Nat.le_of_ble_eq_true rfl), (Nat.le_of_ble_eq_true rfl)⟩ (fun u H locs hu hP9 hD9 hS9 => ?_)
  subst hu
  have hP : va_P G vwCl (([[((u 0), .inr (5, [.ref (u 1), .ref (u 11), .ref (u 21), .ref (u 63)]))], wG cI (u 1) (u 2) (u 3) (u 4) (u 5) (u 6) (u 7) (u 8) (u 9) (u 10) ((4, 40, fun _ => 0, 0) : Tab) ((8, 240, fun _ => 0, 0) : Tab) 0 ((2, 20, fun _ => 0, 0) : Tab) ((7, 56, fun _ => 0, 0) : Tab) 0 (-1) (-1) false 10 0, wG cI (u 11) (u 12) (u 13) (u 14) (u 15) (u 16) (u 17) (u 18) (u 19) (u 20) ((4, 40, fun _ => 0, 0) : Tab) ((8, 240, fun _ => 0, 0) : Tab) 0 ((2, 20, fun _ => 0, 0) : Tab) ((7, 56, fun _ => 0, 0) : Tab) 0 (-1) (-1) false 10 0, wH cI cG (fun i => u (21 + i)) 0 (fun i => i) (fun _ => gInit), wS cI (u 63) (u 64) (u 65) (u 66) (u 67) ((1, 120, fun _ => 0, 0) : Tab) ((3, 180, fun _ => 0, 0) : Tab)] : List va_W).flatten) H := hP9
  have hD : va_D A (([[((u 0), .inr (5, [.ref (u 1), .ref (u 11), .ref (u 21), .ref (u 63)]))], wG cI (u 1) (u 2) (u 3) (u 4) (u 5) (u 6) (u 7) (u 8) (u 9) (u 10) ((4, 40, fun _ => 0, 0) : Tab) ((8, 240, fun _ => 0, 0) : Tab) 0 ((2, 20, fun _ => 0, 0) : Tab) ((7, 56, fun _ => 0, 0) : Tab) 0 (-1) (-1) false 10 0, wG cI (u 11) (u 12) (u 13) (u 14) (u 15) (u 16) (u 17) (u 18) (u 19) (u 20) ((4, 40, fun _ => 0, 0) : Tab) ((8, 240, fun _ => 0, 0) : Tab) 0 ((2, 20, fun _ => 0, 0) : Tab) ((7, 56, fun _ => 0, 0) : Tab) 0 (-1) (-1) false 10 0, wH cI cG (fun i => u (21 + i)) 0 (fun i => i) (fun _ => gInit), wS cI (u 63) (u 64) (u 65) (u 66) (u 67) ((1, 120, fun _ => 0, 0) : Tab) ((3, 180, fun _ => 0, 0) : Tab)] : List va_W).flatten) := hD9
  refine lv_astore_n (lv' := [(1, .ref (u 0)), (0, .ref b)]) hx hb dL_law_7 rfl hl (by decide) rfl (fun ls hl => ?_)
  exact law_body l G cI cG u hx hb hml hown hts hK hXs hbl hA hbA (fun H1 locs1 ls1 h1 => W.widen (by decide) (by decide) (kend H1 locs1 ls1 h1)) 5000 _ _ _ _ _ _ _ _ _ _ _ _ _ _ _ _ _ _ _ _ _ _ _ _ _ _ _ (law_true xs (by omega)) H locs ls hP hD hS9 hl
