theorem hdX4_init : yX4_init.cls ≠ "java/lang/invoke/MethodHandle" ∧ yX4_init.cls ≠ "java/lang/invoke/VarHandle" ∧ (parseMethodDescriptor yX4_init.desc).map (fun d => d.parameters.length) = some 2 := by decide +kernel
set_option maxHeartbeats 4000000 in
set_option maxRecDepth 100000 in
theorem cX4_init_ok (l : Launch) (G : va_G) (cI cG : ClassId) (h0 : Nat) (p1 p2 : Int32) (N : Nat) (hn0 : ¬ (if (0 : Int32) < p1 * p2 then p1 * p2 else 0) < 0) (hN : (if (0 : Int32) < p1 * p2 then p1 * p2 else 0).toNatClampNeg = N) (hNb : N * componentBytes .int ≤ 536870912) : CNw l G (tyz cI cG) yX4_init wsX4_init ({ frames := 1, cells := 1, slots := N, locals := 21 } : Room) [.ref h0, .int p1, .int p2] h0 (.inr (7, [.int 0, .null, .int 0])) (fun u => [(u 0, .inr (7, [.int p2, .ref (u 1), .int 0])), (u 1, .inl (cI, N, .inl (fun _ => 0)))]) 1 N := by
  intro sz
  refine Met.ofW (cc := cX4_init) (maxL := 3) (ret := none) (by decide) rfl ?_
  intro p e s m args below meth c s₁ B hml hv
  obtain ⟨rfl, ⟨hsz, hP, hK, hD0⟩, hAO⟩ := hv
  have hx := B.exec
  have hb := B.bytes
  have hr := B.returns
  have hts := atoms_spec (ws := wsX4_init) B.pre
  have hown : s.vm.findClass RX4 = some m.cls := findClass_of_methodNamed B.named
  have hlocks := B.notSynchronized
  have hin : meth.name = "<init>" := (name_of_methodNamed B.named B.method).1
  subst hsz
  have hD := hD0.self (sz := s.heap.size)
  generalize hAe : va_A [(h0, (.inr (7, [.int 0, .null, .int 0])))] s.heap.size = A at hD ⊢
  have hA : ∀ q : Nat, s.heap.size ≤ q → A q := fun q h => by rw [← hAe]; exact Or.inr h
  have hS : va_S A s.heap s.heap [] := va_S.rf
  have hP : va_P G vwCl [(h0, (.inr (7, [.int 0, .null, .int 0])))] s.heap := hP
  have hw0 := hts (.methodLink RX4 3 objectInit) (List.mem_of_getElem? (i := 1) rfl)
  have hw1 := hts (.instanceMethod objectInit) (List.mem_of_getElem? (i := 2) rfl)
  have hw2 := hts (.code objectInit ⟨#[0xb1]⟩ 1 none) (List.mem_of_getElem? (i := 3) rfl)
  have hw3 := hts (.fieldLink RX4 9 "SpeedTurns$Table" "columns" "I") (List.mem_of_getElem? (i := 4) rfl)
  have hin4 : ∀ w ∈ u_ws RX4 TX4 3, w ∈ wsX4_init := by decide +kernel
  have hw5 := hts (.methodLink RX4 15 Lib.Math.max.name) (List.mem_of_getElem? (i := 5) rfl)
  have hw6 := hts (.static Lib.Math.max.name) (List.mem_of_getElem? (i := 6) rfl)
  have hw7 := hts (.initialized "java/lang/Math") (List.mem_of_getElem? (i := 7) rfl)
  have hw8 := hts (.code Lib.Math.max.name Lib.Math.max.code 2 (some .int)) (List.mem_of_getElem? (i := 8) rfl)
  have hw9 := hts (.arrayClass .int) (List.mem_of_getElem? (i := 9) rfl)
  have hw10 := hts (.fieldLink RX4 21 "SpeedTurns$Table" "cells" "[I") (List.mem_of_getElem? (i := 10) rfl)
  have hw11 := hts (.fieldLink RX4 25 "SpeedTurns$Table" "rows" "I") (List.mem_of_getElem? (i := 11) rfl)
  show W p l e ({ frames := 1, cells := 1, slots := N, locals := 21 } : Room) s m _ below meth c s.heap [] 0 0 _ _
  have hl := lv_entry ([.ref h0, .int p1, .int p2]) (n := 3) (Nat.le_of_ble_eq_true rfl)
  rw [lg_entry_eq]
  generalize (lg_sl ([.ref h0, .int p1, .int p2]) ++ List.replicate (3 - (lg_sl ([.ref h0, .int p1, .int p2])).length) Slot.unset).toArray = ls at hl ⊢
  have hl : lv_has ls 3 [(0, .ref h0), (1, .int p1), (2, .int p2)] := hl
  refine lv_aload_n hx hb dX4_init_0 rfl (lv_at hl 0 rfl) ?_
  refine W.objInit hx hb hown hw0 hw1 hw2 rfl (by rw [hml]; exact hl.1) rfl dX4_init_1 (Nat.le_of_ble_eq_true rfl) (Nat.le_of_ble_eq_true rfl) ?_
  refine W.eq (g2 := F0 m 4 ls []) rfl ?_
  refine lv_aload_n hx hb dX4_init_4 rfl (lv_at hl 0 rfl) ?_
  refine lv_iload_n hx hb dX4_init_5 rfl (lv_at hl 2 rfl) ?_
  refine va_putF (D := G) (ci := 7) (v := .int p2) (ty := .int) (C := RX4) (T := TX4) (N := 3) hx hb hts hin4 tyX4 tyX4_ok nmX4 hown hK.1 hP hD hS 0 rfl rfl 0 (by decide) hw3 (fun _ h9 => h9) rfl hin rfl (by decide +kernel) rfl rfl (Nat.le_of_ble_eq_true rfl) dX4_init_6 (fun H locs hP hD hS => ?_)
  have hP : va_P G vwCl ([(h0, .inr (7, [.int p2, .null, .int 0]))]) H := hP
  have hD : va_D A ([(h0, .inr (7, [.int p2, .null, .int 0]))]) := hD
  refine lv_aload_n hx hb dX4_init_9 rfl (lv_at hl 0 rfl) ?_
  refine lv_iconst (v := 0) hx hb dX4_init_10 (by decide) ?_
  refine lv_iload_n hx hb dX4_init_11 rfl (lv_at hl 1 rfl) ?_
  refine lv_iload_n hx hb dX4_init_12 rfl (lv_at hl 2 rfl) ?_
  refine lv_imul hx hb dX4_init_13 ?_
  refine va_mmax hx hb (by rw [hml]; exact hl.1.symm) hown hw5 hw6 hw7 hw8 (Nat.le_of_ble_eq_true rfl) (Nat.le_of_ble_eq_true rfl) (Nat.zero_le _) (Nat.zero_le _) dX4_init_14 ?_
  refine new_int (N := N) hx hb hw9 hK.1 hP hD hS hA hn0 hN hNb (Nat.le_of_ble_eq_true rfl) (by show 0 + N ≤ N; omega) dX4_init_17 (fun q1 H hP hD hS => ?_)
  have hP : va_P G vwCl ([(h0, .inr (7, [.int p2, .null, .int 0])), (q1, .inl (cI, N, .inl (fun _ => 0)))]) H := hP
  have hD : va_D A ([(h0, .inr (7, [.int p2, .null, .int 0])), (q1, .inl (cI, N, .inl (fun _ => 0)))]) := hD
  refine va_putF (D := G) (ci := 7) (v := .ref q1) (ty := (.array .int)) (C := RX4) (T := TX4) (N := 3) hx hb hts hin4 tyX4 tyX4_ok nmX4 hown hK.1 hP hD hS 0 rfl rfl 1 (by decide) hw10 (fun _ h9 => h9) rfl hin rfl (by decide +kernel) rfl rfl (Nat.le_of_ble_eq_true rfl) dX4_init_19 (fun H locs hP hD hS => ?_)
  have hP : va_P G vwCl ([(h0, .inr (7, [.int p2, .ref q1, .int 0])), (q1, .inl (cI, N, .inl (fun _ => 0)))]) H := hP
  have hD : va_D A ([(h0, .inr (7, [.int p2, .ref q1, .int 0])), (q1, .inl (cI, N, .inl (fun _ => 0)))]) := hD
  refine lv_aload_n hx hb dX4_init_22 rfl (lv_at hl 0 rfl) ?_
  refine lv_iconst (v := 0) hx hb dX4_init_23 (by decide) ?_
  refine va_put (D := G) (ci := 7) (v := .int 0) (ty := .int) (C := RX4) (T := TX4) (N := 3) hx hb hts hin4 tyX4 tyX4_ok nmX4 hown hK.1 hP hD hS 0 rfl rfl 2 (by decide) hw11 (fun _ h9 => h9) rfl (by decide +kernel) rfl rfl (Nat.le_of_ble_eq_true rfl) dX4_init_24 (fun H locs hP hD hS => ?_)
  have hP : va_P G vwCl ([(h0, .inr (7, [.int p2, .ref q1, .int 0])), (q1, .inl (cI, N, .inl (fun _ => 0)))]) H := hP
  have hD : va_D A ([(h0, .inr (7, [.int p2, .ref q1, .int 0])), (q1, .inl (cI, N, .inl (fun _ => 0)))]) := hD
  refine W.widen (k := 1) (n := N) (Nat.le_of_ble_eq_true rfl) (by omega) ?_
  exact W.vret hx hb hr (fun t ht hW => ⟨⟨(fun i : Nat => if i = 0 then h0 else if i = 1 then q1 else 0), rfl, rfl, by rw [ht]; exact hP, hD⟩, hS.F ht⟩) hS.2.2 dX4_init_27
theorem hdX0_init : yX0_init.cls ≠ "java/lang/invoke/MethodHandle" ∧ yX0_init.cls ≠ "java/lang/invoke/VarHandle" ∧ (parseMethodDescriptor yX0_init.desc).map (fun d => d.parameters.length) = some 0 := by decide +kernel
set_option maxHeartbeats 4000000 in
set_option maxRecDepth 100000 in
theorem cX0_init_ok (l : Launch) (G : va_G) (cI cG : ClassId) (h0 : Nat) : CNw l G (tyz cI cG) yX0_init wsX0_init ({ frames := 2, cells := 2, slots := 243, locals := 43 } : Room) [.ref h0] h0 (.inr (3, [.null, .int 0])) (fun u => [((u 0), .inr (3, [.ref (u 1), .int 0])), ((u 1), .inr (7, [.int (((8, 240, fun _ => 0, 0) : Tab).1), .ref (u 2), .int (((8, 240, fun _ => 0, 0) : Tab).2.2.2)])), ((u 2), .inl (cI, (((8, 240, fun _ => 0, 0) : Tab).2.1), .inl (((8, 240, fun _ => 0, 0) : Tab).2.2.1)))]) 2 243 := by
  intro sz
  refine Met.ofW (cc := cX0_init) (maxL := 1) (ret := none) (by decide) rfl ?_
  intro p e s m args below meth c s₁ B hml hv
  obtain ⟨rfl, ⟨hsz, hP, hK, hD0⟩, hAO⟩ := hv
  have hx := B.exec
  have hb := B.bytes
  have hr := B.returns
  have hts := atoms_spec (ws := wsX0_init) B.pre
  have hown : s.vm.findClass RX0 = some m.cls := findClass_of_methodNamed B.named
  have hlocks := B.notSynchronized
  have hin : meth.name = "<init>" := (name_of_methodNamed B.named B.method).1
  subst hsz
  have hD := hD0.self (sz := s.heap.size)
  generalize hAe : va_A [(h0, (.inr (3, [.null, .int 0])))] s.heap.size = A at hD ⊢
  have hA : ∀ q : Nat, s.heap.size ≤ q → A q := fun q h => by rw [← hAe]; exact Or.inr h
  have hS : va_S A s.heap s.heap [] := va_S.rf
  have hP : va_P G vwCl [(h0, (.inr (3, [.null, .int 0])))] s.heap := hP
  have hw0 := hts (.methodLink RX0 3 objectInit) (List.mem_of_getElem? (i := 1) rfl)
  have hw1 := hts (.instanceMethod objectInit) (List.mem_of_getElem? (i := 2) rfl)
  have hw2 := hts (.code objectInit ⟨#[0xb1]⟩ 1 none) (List.mem_of_getElem? (i := 3) rfl)
  have hw3 := hts (.classLink RX0 9 RX4) (List.mem_of_getElem? (i := 4) rfl)
  have hw4 := hts (.instantiable RX4 3) (List.mem_of_getElem? (i := 5) rfl)
  have hw5 := hts (.initialized RX4) (List.mem_of_getElem? (i := 6) rfl)
  have hin4 : ∀ w ∈ u_ws RX4 TX4 3, w ∈ wsX0_init := by decide +kernel
  have hw7 := hts (.methodLink RX0 13 yX4_init) (List.mem_of_getElem? (i := 9) rfl)
  have hw8 := hts (.instanceMethod yX4_init) (List.mem_of_getElem? (i := 10) rfl)
  have hw9 := hts (.fieldLink RX0 16 "SpeedTurns$Effects" "rows" "LSpeedTurns$Table;") (List.mem_of_getElem? (i := 7) rfl)
  have hin0 : ∀ w ∈ u_ws RX0 TX0 2, w ∈ wsX0_init := by decide +kernel
  have hw11 := hts (.fieldLink RX0 20 "SpeedTurns$Effects" "born" "I") (List.mem_of_getElem? (i := 8) rfl)
  show W p l e ({ frames := 2, cells := 2, slots := 243, locals := 43 } : Room) s m _ below meth c s.heap [] 0 0 _ _
  have hl := lv_entry ([.ref h0]) (n := 1) (Nat.le_of_ble_eq_true rfl)
  rw [lg_entry_eq]
  generalize (lg_sl ([.ref h0]) ++ List.replicate (1 - (lg_sl ([.ref h0])).length) Slot.unset).toArray = ls at hl ⊢
  have hl : lv_has ls 1 [(0, .ref h0)] := hl
  refine lv_aload_n hx hb dX0_init_0 rfl (lv_at hl 0 rfl) ?_
  refine W.objInit hx hb hown hw0 hw1 hw2 rfl (by rw [hml]; exact hl.1) rfl dX0_init_1 (Nat.le_of_ble_eq_true rfl) (Nat.le_of_ble_eq_true rfl) ?_
  refine W.eq (g2 := F0 m 4 ls []) rfl ?_
  refine lv_aload_n hx hb dX0_init_4 rfl (lv_at hl 0 rfl) ?_
  refine va_new (ci := 7) (fs := [.int 0, .null, .int 0]) (C := RX4) (T := TX4) (N := 3) hx hb hts hin4 tyX4 tyX4_ok hown hw3 hw4 hw5 hK.1 hP hD hS hA rfl (by decide) (Nat.le_of_ble_eq_true rfl) (Nat.le_of_ble_eq_true rfl) dX0_init_5 (fun q1 H hP hD hS => ?_)
  have hP : va_P G vwCl ([(h0, .inr (3, [.null, .int 0])), (q1, .inr (7, [.int 0, .null, .int 0]))]) H := hP
  have hD : va_D A ([(h0, .inr (3, [.null, .int 0])), (q1, .inr (7, [.int 0, .null, .int 0]))]) := hD
  refine lv_dup hx hb dX0_init_8 rfl ?_
  refine lv_bipush (v := 30) hx hb dX0_init_9 (by decide) ?_
  refine lv_bipush (v := 8) hx hb dX0_init_11 (by decide) ?_
  refine ncall (As := [.int 30, .int 8]) (rest := [.ref q1, .ref h0]) (wr := [(h0, .inr (3, [.null, .int 0]))]) ⟨hx, hb, hml, hown, hts⟩ (cX4_init_ok l G cI cG q1 30 8 240 (by decide) (by decide) (Nat.le_of_ble_eq_true rfl)) (cwI 2 hts gX0_init_X4_init rfl rfl rfl hw5 hw7 hw8 rfl hdX4_init ⟨Nat.le_of_ble_eq_true rfl, Nat.le_of_ble_eq_true rfl⟩) hP hD hS hA hK hAO 1 [0] rfl rfl rfl (by decide) rfl rfl hl.1 (Nat.le_of_ble_eq_true rfl) dX0_init_13 ⟨Nat.le_of_ble_eq_true rfl, Nat.le_of_ble_eq_true rfl⟩ (fun u2 H locs huu2 hP2 hD2 hS2 => ?_)
  subst huu2
  have hS := hS2
  have hP := hP2
  have hD := hD2
  have hP : va_P G vwCl ([(h0, .inr (3, [.null, .int 0])), (u2 0, .inr (7, [.int 8, .ref (u2 1), .int 0])), (u2 1, .inl (cI, 240, .inl (fun _ => 0)))]) H := hP
  have hD : va_D A ([(h0, .inr (3, [.null, .int 0])), (u2 0, .inr (7, [.int 8, .ref (u2 1), .int 0])), (u2 1, .inl (cI, 240, .inl (fun _ => 0)))]) := hD
  refine va_putF (D := G) (ci := 3) (v := .ref (u2 0)) (ty := (.object "SpeedTurns$Table")) (C := RX0) (T := TX0) (N := 2) hx hb hts hin0 tyX0 tyX0_ok nmX0 hown hK.1 hP hD hS 0 rfl rfl 0 (by decide) hw9 (fun _ h9 => h9) rfl hin rfl (by decide +kernel) rfl rfl (Nat.le_of_ble_eq_true rfl) dX0_init_16 (fun H locs hP hD hS => ?_)
  have hP : va_P G vwCl ([(h0, .inr (3, [.ref (u2 0), .int 0])), (u2 0, .inr (7, [.int 8, .ref (u2 1), .int 0])), (u2 1, .inl (cI, 240, .inl (fun _ => 0)))]) H := hP
  have hD : va_D A ([(h0, .inr (3, [.ref (u2 0), .int 0])), (u2 0, .inr (7, [.int 8, .ref (u2 1), .int 0])), (u2 1, .inl (cI, 240, .inl (fun _ => 0)))]) := hD
  refine lv_aload_n hx hb dX0_init_19 rfl (lv_at hl 0 rfl) ?_
  refine lv_iconst (v := 0) hx hb dX0_init_20 (by decide) ?_
  refine va_put (D := G) (ci := 3) (v := .int 0) (ty := .int) (C := RX0) (T := TX0) (N := 2) hx hb hts hin0 tyX0 tyX0_ok nmX0 hown hK.1 hP hD hS 0 rfl rfl 1 (by decide) hw11 (fun _ h9 => h9) rfl (by decide +kernel) rfl rfl (Nat.le_of_ble_eq_true rfl) dX0_init_21 (fun H locs hP hD hS => ?_)
  have hP : va_P G vwCl ([(h0, .inr (3, [.ref (u2 0), .int 0])), (u2 0, .inr (7, [.int 8, .ref (u2 1), .int 0])), (u2 1, .inl (cI, 240, .inl (fun _ => 0)))]) H := hP
  have hD : va_D A ([(h0, .inr (3, [.ref (u2 0), .int 0])), (u2 0, .inr (7, [.int 8, .ref (u2 1), .int 0])), (u2 1, .inl (cI, 240, .inl (fun _ => 0)))]) := hD
  refine W.widen (k := 2) (n := 243) (Nat.le_of_ble_eq_true rfl) (Nat.le_of_ble_eq_true rfl) ?_
  exact W.vret hx hb hr (fun t ht hW => ⟨⟨(fun i : Nat => if i = 0 then h0 else if i = 1 then (u2 0) else if i = 2 then (u2 1) else 0), rfl, rfl, by rw [ht]; exact hP, hD⟩, hS.F ht⟩) hS.2.2 dX0_init_24
theorem hdX1_init : yX1_init.cls ≠ "java/lang/invoke/MethodHandle" ∧ yX1_init.cls ≠ "java/lang/invoke/VarHandle" ∧ (parseMethodDescriptor yX1_init.desc).map (fun d => d.parameters.length) = some 0 := by decide +kernel
set_option maxHeartbeats 4000000 in
set_option maxRecDepth 100000 in
theorem cX1_init_ok (l : Launch) (G : va_G) (cI cG : ClassId) (h0 : Nat) : CNw l G (tyz cI cG) yX1_init wsX1_init ({ frames := 3, cells := 9, slots := 370, locals := 63 } : Room) [.ref h0] h0 (.inr (4, [.null, .null, .null, .null, .int 0, .int 0, .int 0, .int 0, .int 0, .int 0])) (fun u => wG cI (u 0) (u 1) (u 2) (u 3) (u 4) (u 5) (u 6) (u 7) (u 8) (u 9) ((4, 40, fun _ => 0, 0) : Tab) ((8, 240, fun _ => 0, 0) : Tab) 0 ((2, 20, fun _ => 0, 0) : Tab) ((7, 56, fun _ => 0, 0) : Tab) 0 (-1) (-1) false 10 0) 9 370 := by
  intro sz
  refine Met.ofW (cc := cX1_init) (maxL := 1) (ret := none) (by decide) rfl ?_
  intro p e s m args below meth c s₁ B hml hv
  obtain ⟨rfl, ⟨hsz, hP, hK, hD0⟩, hAO⟩ := hv
  have hx := B.exec
  have hb := B.bytes
  have hr := B.returns
  have hts := atoms_spec (ws := wsX1_init) B.pre
  have hown : s.vm.findClass RX1 = some m.cls := findClass_of_methodNamed B.named
  have hlocks := B.notSynchronized
  have hin : meth.name = "<init>" := (name_of_methodNamed B.named B.method).1
  subst hsz
  have hD := hD0.self (sz := s.heap.size)
  generalize hAe : va_A [(h0, (.inr (4, [.null, .null, .null, .null, .int 0, .int 0, .int 0, .int 0, .int 0, .int 0])))] s.heap.size = A at hD ⊢
  have hA : ∀ q : Nat, s.heap.size ≤ q → A q := fun q h => by rw [← hAe]; exact Or.inr h
  have hS : va_S A s.heap s.heap [] := va_S.rf
  have hP : va_P G vwCl [(h0, (.inr (4, [.null, .null, .null, .null, .int 0, .int 0, .int 0, .int 0, .int 0, .int 0])))] s.heap := hP
  have hw0 := hts (.methodLink RX1 3 objectInit) (List.mem_of_getElem? (i := 1) rfl)
  have hw1 := hts (.instanceMethod objectInit) (List.mem_of_getElem? (i := 2) rfl)
  have hw2 := hts (.code objectInit ⟨#[0xb1]⟩ 1 none) (List.mem_of_getElem? (i := 3) rfl)
  have hw3 := hts (.classLink RX1 9 RX4) (List.mem_of_getElem? (i := 4) rfl)
  have hw4 := hts (.instantiable RX4 3) (List.mem_of_getElem? (i := 5) rfl)
  have hw5 := hts (.initialized RX4) (List.mem_of_getElem? (i := 6) rfl)
  have hin4 : ∀ w ∈ u_ws RX4 TX4 3, w ∈ wsX1_init := by decide +kernel
  have hw7 := hts (.methodLink RX1 13 yX4_init) (List.mem_of_getElem? (i := 20) rfl)
  have hw8 := hts (.instanceMethod yX4_init) (List.mem_of_getElem? (i := 21) rfl)
  have hw9 := hts (.fieldLink RX1 16 "SpeedTurns$Game" "fighters" "LSpeedTurns$Table;") (List.mem_of_getElem? (i := 7) rfl)
  have hin1 : ∀ w ∈ u_ws RX1 TX1 10, w ∈ wsX1_init := by decide +kernel
  have hw11 := hts (.classLink RX1 20 RX0) (List.mem_of_getElem? (i := 8) rfl)
  have hw12 := hts (.instantiable RX0 2) (List.mem_of_getElem? (i := 9) rfl)
  have hw13 := hts (.initialized RX0) (List.mem_of_getElem? (i := 10) rfl)
  have hin0 : ∀ w ∈ u_ws RX0 TX0 2, w ∈ wsX1_init := by decide +kernel
  have hw15 := hts (.methodLink RX1 22 yX0_init) (List.mem_of_getElem? (i := 32) rfl)
  have hw16 := hts (.instanceMethod yX0_init) (List.mem_of_getElem? (i := 33) rfl)
  have hw17 := hts (.fieldLink RX1 23 "SpeedTurns$Game" "effects" "LSpeedTurns$Effects;") (List.mem_of_getElem? (i := 11) rfl)
  have hw18 := hts (.fieldLink RX1 27 "SpeedTurns$Game" "list" "LSpeedTurns$Table;") (List.mem_of_getElem? (i := 12) rfl)
  have hw19 := hts (.fieldLink RX1 30 "SpeedTurns$Game" "stack" "LSpeedTurns$Table;") (List.mem_of_getElem? (i := 13) rfl)
  have hw20 := hts (.fieldLink RX1 33 "SpeedTurns$Game" "round" "I") (List.mem_of_getElem? (i := 14) rfl)
  have hw21 := hts (.fieldLink RX1 37 "SpeedTurns$Game" "turn" "I") (List.mem_of_getElem? (i := 15) rfl)
  have hw22 := hts (.fieldLink RX1 40 "SpeedTurns$Game" "latest" "I") (List.mem_of_getElem? (i := 16) rfl)
  have hw23 := hts (.fieldLink RX1 43 "SpeedTurns$Game" "delayable" "Z") (List.mem_of_getElem? (i := 17) rfl)
  have hw24 := hts (.fieldLink RX1 47 "SpeedTurns$Game" "shock" "I") (List.mem_of_getElem? (i := 18) rfl)
  have hw25 := hts (.fieldLink RX1 50 "SpeedTurns$Game" "turnsBegun" "I") (List.mem_of_getElem? (i := 19) rfl)
  show W p l e ({ frames := 3, cells := 9, slots := 370, locals := 63 } : Room) s m _ below meth c s.heap [] 0 0 _ _
  have hl := lv_entry ([.ref h0]) (n := 1) (Nat.le_of_ble_eq_true rfl)
  rw [lg_entry_eq]
  generalize (lg_sl ([.ref h0]) ++ List.replicate (1 - (lg_sl ([.ref h0])).length) Slot.unset).toArray = ls at hl ⊢
  have hl : lv_has ls 1 [(0, .ref h0)] := hl
  refine lv_aload_n hx hb dX1_init_0 rfl (lv_at hl 0 rfl) ?_
  refine W.objInit hx hb hown hw0 hw1 hw2 rfl (by rw [hml]; exact hl.1) rfl dX1_init_1 (Nat.le_of_ble_eq_true rfl) (Nat.le_of_ble_eq_true rfl) ?_
  refine W.eq (g2 := F0 m 4 ls []) rfl ?_
  refine lv_aload_n hx hb dX1_init_4 rfl (lv_at hl 0 rfl) ?_
  refine va_new (ci := 7) (fs := [.int 0, .null, .int 0]) (C := RX4) (T := TX4) (N := 3) hx hb hts hin4 tyX4 tyX4_ok hown hw3 hw4 hw5 hK.1 hP hD hS hA rfl (by decide) (Nat.le_of_ble_eq_true rfl) (Nat.le_of_ble_eq_true rfl) dX1_init_5 (fun q1 H hP hD hS => ?_)
  have hP : va_P G vwCl ([(h0, .inr (4, [.null, .null, .null, .null, .int 0, .int 0, .int 0, .int 0, .int 0, .int 0])), (q1, .inr (7, [.int 0, .null, .int 0]))]) H := hP
  have hD : va_D A ([(h0, .inr (4, [.null, .null, .null, .null, .int 0, .int 0, .int 0, .int 0, .int 0, .int 0])), (q1, .inr (7, [.int 0, .null, .int 0]))]) := hD
  refine lv_dup hx hb dX1_init_8 rfl ?_
  refine lv_bipush (v := 10) hx hb dX1_init_9 (by decide) ?_
  refine lv_iconst (v := 4) hx hb dX1_init_11 (by decide) ?_
  refine ncall (As := [.int 10, .int 4]) (rest := [.ref q1, .ref h0]) (wr := [(h0, .inr (4, [.null, .null, .null, .null, .int 0, .int 0, .int 0, .int 0, .int 0, .int 0]))]) ⟨hx, hb, hml, hown, hts⟩ (cX4_init_ok l G cI cG q1 10 4 40 (by decide) (by decide) (Nat.le_of_ble_eq_true rfl)) (cwI 2 hts gX1_init_X4_init rfl rfl rfl hw5 hw7 hw8 rfl hdX4_init ⟨Nat.le_of_ble_eq_true rfl, Nat.le_of_ble_eq_true rfl⟩) hP hD hS hA hK hAO 1 [0] rfl rfl rfl (by decide) rfl rfl hl.1 (Nat.le_of_ble_eq_true rfl) dX1_init_12 ⟨Nat.le_of_ble_eq_true rfl, Nat.le_of_ble_eq_true rfl⟩ (fun u2 H locs huu2 hP2 hD2 hS2 => ?_)
  subst huu2
  have hS := hS2
  have hP := hP2
  have hD := hD2
  have hP : va_P G vwCl ([(h0, .inr (4, [.null, .null, .null, .null, .int 0, .int 0, .int 0, .int 0, .int 0, .int 0])), (u2 0, .inr (7, [.int 4, .ref (u2 1), .int 0])), (u2 1, .inl (cI, 40, .inl (fun _ => 0)))]) H := hP
  have hD : va_D A ([(h0, .inr (4, [.null, .null, .null, .null, .int 0, .int 0, .int 0, .int 0, .int 0, .int 0])), (u2 0, .inr (7, [.int 4, .ref (u2 1), .int 0])), (u2 1, .inl (cI, 40, .inl (fun _ => 0)))]) := hD
  refine va_putF (D := G) (ci := 4) (v := .ref (u2 0)) (ty := (.object "SpeedTurns$Table")) (C := RX1) (T := TX1) (N := 10) hx hb hts hin1 tyX1 tyX1_ok nmX1 hown hK.1 hP hD hS 0 rfl rfl 0 (by decide) hw9 (fun _ h9 => h9) rfl hin rfl (by decide +kernel) rfl rfl (Nat.le_of_ble_eq_true rfl) dX1_init_15 (fun H locs hP hD hS => ?_)
  have hP : va_P G vwCl ([(h0, .inr (4, [.ref (u2 0), .null, .null, .null, .int 0, .int 0, .int 0, .int 0, .int 0, .int 0])), (u2 0, .inr (7, [.int 4, .ref (u2 1), .int 0])), (u2 1, .inl (cI, 40, .inl (fun _ => 0)))]) H := hP
  have hD : va_D A ([(h0, .inr (4, [.ref (u2 0), .null, .null, .null, .int 0, .int 0, .int 0, .int 0, .int 0, .int 0])), (u2 0, .inr (7, [.int 4, .ref (u2 1), .int 0])), (u2 1, .inl (cI, 40, .inl (fun _ => 0)))]) := hD
  refine lv_aload_n hx hb dX1_init_18 rfl (lv_at hl 0 rfl) ?_
  refine va_new (ci := 3) (fs := [.null, .int 0]) (C := RX0) (T := TX0) (N := 2) hx hb hts hin0 tyX0 tyX0_ok hown hw11 hw12 hw13 hK.1 hP hD hS hA rfl (by decide) (Nat.le_of_ble_eq_true rfl) (Nat.le_of_ble_eq_true rfl) dX1_init_19 (fun q3 H hP hD hS => ?_)
  have hP : va_P G vwCl ([(h0, .inr (4, [.ref (u2 0), .null, .null, .null, .int 0, .int 0, .int 0, .int 0, .int 0, .int 0])), (u2 0, .inr (7, [.int 4, .ref (u2 1), .int 0])), (u2 1, .inl (cI, 40, .inl (fun _ => 0))), (q3, .inr (3, [.null, .int 0]))]) H := hP
  have hD : va_D A ([(h0, .inr (4, [.ref (u2 0), .null, .null, .null, .int 0, .int 0, .int 0, .int 0, .int 0, .int 0])), (u2 0, .inr (7, [.int 4, .ref (u2 1), .int 0])), (u2 1, .inl (cI, 40, .inl (fun _ => 0))), (q3, .inr (3, [.null, .int 0]))]) := hD
  refine lv_dup hx hb dX1_init_22 rfl ?_
  refine ncall (As := []) (rest := [.ref q3, .ref h0]) (wr := [(h0, .inr (4, [.ref (u2 0), .null, .null, .null, .int 0, .int 0, .int 0, .int 0, .int 0, .int 0])), (u2 0, .inr (7, [.int 4, .ref (u2 1), .int 0])), (u2 1, .inl (cI, 40, .inl (fun _ => 0)))]) ⟨hx, hb, hml, hown, hts⟩ (cX0_init_ok l G cI cG q3) (cwI 0 hts gX1_init_X0_init rfl rfl rfl hw13 hw15 hw16 rfl hdX0_init ⟨Nat.le_of_ble_eq_true rfl, Nat.le_of_ble_eq_true rfl⟩) hP hD hS hA hK hAO 3 [0, 1, 2] rfl rfl rfl (by decide) rfl rfl hl.1 (Nat.le_of_ble_eq_true rfl) dX1_init_23 ⟨Nat.le_of_ble_eq_true rfl, Nat.le_of_ble_eq_true rfl⟩ (fun u4 H locs huu4 hP2 hD2 hS2 => ?_)
  subst huu4
  have hS := hS2
  have hP := hP2
  have hD := hD2
  have hP : va_P G vwCl ([(h0, .inr (4, [.ref (u2 0), .null, .null, .null, .int 0, .int 0, .int 0, .int 0, .int 0, .int 0])), (u2 0, .inr (7, [.int 4, .ref (u2 1), .int 0])), (u2 1, .inl (cI, 40, .inl (fun _ => 0))), ((u4 0), .inr (3, [.ref (u4 1), .int 0])), ((u4 1), .inr (7, [.int (((8, 240, fun _ => 0, 0) : Tab).1), .ref (u4 2), .int (((8, 240, fun _ => 0, 0) : Tab).2.2.2)])), ((u4 2), .inl (cI, (((8, 240, fun _ => 0, 0) : Tab).2.1), .inl (((8, 240, fun _ => 0, 0) : Tab).2.2.1)))]) H := hP
  have hD : va_D A ([(h0, .inr (4, [.ref (u2 0), .null, .null, .null, .int 0, .int 0, .int 0, .int 0, .int 0, .int 0])), (u2 0, .inr (7, [.int 4, .ref (u2 1), .int 0])), (u2 1, .inl (cI, 40, .inl (fun _ => 0))), ((u4 0), .inr (3, [.ref (u4 1), .int 0])), ((u4 1), .inr (7, [.int (((8, 240, fun _ => 0, 0) : Tab).1), .ref (u4 2), .int (((8, 240, fun _ => 0, 0) : Tab).2.2.2)])), ((u4 2), .inl (cI, (((8, 240, fun _ => 0, 0) : Tab).2.1), .inl (((8, 240, fun _ => 0, 0) : Tab).2.2.1)))]) := hD
  refine va_putF (D := G) (ci := 4) (v := .ref (u4 0)) (ty := (.object "SpeedTurns$Effects")) (C := RX1) (T := TX1) (N := 10) hx hb hts hin1 tyX1 tyX1_ok nmX1 hown hK.1 hP hD hS 0 rfl rfl 1 (by decide) hw17 (fun _ h9 => h9) rfl hin rfl (by decide +kernel) rfl rfl (Nat.le_of_ble_eq_true rfl) dX1_init_26 (fun H locs hP hD hS => ?_)
  have hP : va_P G vwCl ([(h0, .inr (4, [.ref (u2 0), .ref (u4 0), .null, .null, .int 0, .int 0, .int 0, .int 0, .int 0, .int 0])), (u2 0, .inr (7, [.int 4, .ref (u2 1), .int 0])), (u2 1, .inl (cI, 40, .inl (fun _ => 0))), ((u4 0), .inr (3, [.ref (u4 1), .int 0])), ((u4 1), .inr (7, [.int (((8, 240, fun _ => 0, 0) : Tab).1), .ref (u4 2), .int (((8, 240, fun _ => 0, 0) : Tab).2.2.2)])), ((u4 2), .inl (cI, (((8, 240, fun _ => 0, 0) : Tab).2.1), .inl (((8, 240, fun _ => 0, 0) : Tab).2.2.1)))]) H := hP
  have hD : va_D A ([(h0, .inr (4, [.ref (u2 0), .ref (u4 0), .null, .null, .int 0, .int 0, .int 0, .int 0, .int 0, .int 0])), (u2 0, .inr (7, [.int 4, .ref (u2 1), .int 0])), (u2 1, .inl (cI, 40, .inl (fun _ => 0))), ((u4 0), .inr (3, [.ref (u4 1), .int 0])), ((u4 1), .inr (7, [.int (((8, 240, fun _ => 0, 0) : Tab).1), .ref (u4 2), .int (((8, 240, fun _ => 0, 0) : Tab).2.2.2)])), ((u4 2), .inl (cI, (((8, 240, fun _ => 0, 0) : Tab).2.1), .inl (((8, 240, fun _ => 0, 0) : Tab).2.2.1)))]) := hD
  refine lv_aload_n hx hb dX1_init_29 rfl (lv_at hl 0 rfl) ?_
  refine va_new (ci := 7) (fs := [.int 0, .null, .int 0]) (C := RX4) (T := TX4) (N := 3) hx hb hts hin4 tyX4 tyX4_ok hown hw3 hw4 hw5 hK.1 hP hD hS hA rfl (by decide) (Nat.le_of_ble_eq_true rfl) (Nat.le_of_ble_eq_true rfl) dX1_init_30 (fun q5 H hP hD hS => ?_)
  have hP : va_P G vwCl ([(h0, .inr (4, [.ref (u2 0), .ref (u4 0), .null, .null, .int 0, .int 0, .int 0, .int 0, .int 0, .int 0])), (u2 0, .inr (7, [.int 4, .ref (u2 1), .int 0])), (u2 1, .inl (cI, 40, .inl (fun _ => 0))), ((u4 0), .inr (3, [.ref (u4 1), .int 0])), ((u4 1), .inr (7, [.int (((8, 240, fun _ => 0, 0) : Tab).1), .ref (u4 2), .int (((8, 240, fun _ => 0, 0) : Tab).2.2.2)])), ((u4 2), .inl (cI, (((8, 240, fun _ => 0, 0) : Tab).2.1), .inl (((8, 240, fun _ => 0, 0) : Tab).2.2.1))), (q5, .inr (7, [.int 0, .null, .int 0]))]) H := hP
  have hD : va_D A ([(h0, .inr (4, [.ref (u2 0), .ref (u4 0), .null, .null, .int 0, .int 0, .int 0, .int 0, .int 0, .int 0])), (u2 0, .inr (7, [.int 4, .ref (u2 1), .int 0])), (u2 1, .inl (cI, 40, .inl (fun _ => 0))), ((u4 0), .inr (3, [.ref (u4 1), .int 0])), ((u4 1), .inr (7, [.int (((8, 240, fun _ => 0, 0) : Tab).1), .ref (u4 2), .int (((8, 240, fun _ => 0, 0) : Tab).2.2.2)])), ((u4 2), .inl (cI, (((8, 240, fun _ => 0, 0) : Tab).2.1), .inl (((8, 240, fun _ => 0, 0) : Tab).2.2.1))), (q5, .inr (7, [.int 0, .null, .int 0]))]) := hD
  refine lv_dup hx hb dX1_init_33 rfl ?_
  refine lv_bipush (v := 10) hx hb dX1_init_34 (by decide) ?_
  refine lv_iconst (v := 2) hx hb dX1_init_36 (by decide) ?_
  refine ncall (As := [.int 10, .int 2]) (rest := [.ref q5, .ref h0]) (wr := [(h0, .inr (4, [.ref (u2 0), .ref (u4 0), .null, .null, .int 0, .int 0, .int 0, .int 0, .int 0, .int 0])), (u2 0, .inr (7, [.int 4, .ref (u2 1), .int 0])), (u2 1, .inl (cI, 40, .inl (fun _ => 0))), ((u4 0), .inr (3, [.ref (u4 1), .int 0])), ((u4 1), .inr (7, [.int (((8, 240, fun _ => 0, 0) : Tab).1), .ref (u4 2), .int (((8, 240, fun _ => 0, 0) : Tab).2.2.2)])), ((u4 2), .inl (cI, (((8, 240, fun _ => 0, 0) : Tab).2.1), .inl (((8, 240, fun _ => 0, 0) : Tab).2.2.1)))]) ⟨hx, hb, hml, hown, hts⟩ (cX4_init_ok l G cI cG q5 10 2 20 (by decide) (by decide) (Nat.le_of_ble_eq_true rfl)) (cwI 2 hts gX1_init_X4_init rfl rfl rfl hw5 hw7 hw8 rfl hdX4_init ⟨Nat.le_of_ble_eq_true rfl, Nat.le_of_ble_eq_true rfl⟩) hP hD hS hA hK hAO 6 [0, 1, 2, 3, 4, 5] rfl rfl rfl (by decide) rfl rfl hl.1 (Nat.le_of_ble_eq_true rfl) dX1_init_37 ⟨Nat.le_of_ble_eq_true rfl, Nat.le_of_ble_eq_true rfl⟩ (fun u6 H locs huu6 hP2 hD2 hS2 => ?_)
  subst huu6
  have hS := hS2
  have hP := hP2
  have hD := hD2
  have hP : va_P G vwCl ([(h0, .inr (4, [.ref (u2 0), .ref (u4 0), .null, .null, .int 0, .int 0, .int 0, .int 0, .int 0, .int 0])), (u2 0, .inr (7, [.int 4, .ref (u2 1), .int 0])), (u2 1, .inl (cI, 40, .inl (fun _ => 0))), ((u4 0), .inr (3, [.ref (u4 1), .int 0])), ((u4 1), .inr (7, [.int (((8, 240, fun _ => 0, 0) : Tab).1), .ref (u4 2), .int (((8, 240, fun _ => 0, 0) : Tab).2.2.2)])), ((u4 2), .inl (cI, (((8, 240, fun _ => 0, 0) : Tab).2.1), .inl (((8, 240, fun _ => 0, 0) : Tab).2.2.1))), (u6 0, .inr (7, [.int 2, .ref (u6 1), .int 0])), (u6 1, .inl (cI, 20, .inl (fun _ => 0)))]) H := hP
  have hD : va_D A ([(h0, .inr (4, [.ref (u2 0), .ref (u4 0), .null, .null, .int 0, .int 0, .int 0, .int 0, .int 0, .int 0])), (u2 0, .inr (7, [.int 4, .ref (u2 1), .int 0])), (u2 1, .inl (cI, 40, .inl (fun _ => 0))), ((u4 0), .inr (3, [.ref (u4 1), .int 0])), ((u4 1), .inr (7, [.int (((8, 240, fun _ => 0, 0) : Tab).1), .ref (u4 2), .int (((8, 240, fun _ => 0, 0) : Tab).2.2.2)])), ((u4 2), .inl (cI, (((8, 240, fun _ => 0, 0) : Tab).2.1), .inl (((8, 240, fun _ => 0, 0) : Tab).2.2.1))), (u6 0, .inr (7, [.int 2, .ref (u6 1), .int 0])), (u6 1, .inl (cI, 20, .inl (fun _ => 0)))]) := hD
  refine va_putF (D := G) (ci := 4) (v := .ref (u6 0)) (ty := (.object "SpeedTurns$Table")) (C := RX1) (T := TX1) (N := 10) hx hb hts hin1 tyX1 tyX1_ok nmX1 hown hK.1 hP hD hS 0 rfl rfl 2 (by decide) hw18 (fun _ h9 => h9) rfl hin rfl (by decide +kernel) rfl rfl (Nat.le_of_ble_eq_true rfl) dX1_init_40 (fun H locs hP hD hS => ?_)
  have hP : va_P G vwCl ([(h0, .inr (4, [.ref (u2 0), .ref (u4 0), .ref (u6 0), .null, .int 0, .int 0, .int 0, .int 0, .int 0, .int 0])), (u2 0, .inr (7, [.int 4, .ref (u2 1), .int 0])), (u2 1, .inl (cI, 40, .inl (fun _ => 0))), ((u4 0), .inr (3, [.ref (u4 1), .int 0])), ((u4 1), .inr (7, [.int (((8, 240, fun _ => 0, 0) : Tab).1), .ref (u4 2), .int (((8, 240, fun _ => 0, 0) : Tab).2.2.2)])), ((u4 2), .inl (cI, (((8, 240, fun _ => 0, 0) : Tab).2.1), .inl (((8, 240, fun _ => 0, 0) : Tab).2.2.1))), (u6 0, .inr (7, [.int 2, .ref (u6 1), .int 0])), (u6 1, .inl (cI, 20, .inl (fun _ => 0)))]) H := hP
  have hD : va_D A ([(h0, .inr (4, [.ref (u2 0), .ref (u4 0), .ref (u6 0), .null, .int 0, .int 0, .int 0, .int 0, .int 0, .int 0])), (u2 0, .inr (7, [.int 4, .ref (u2 1), .int 0])), (u2 1, .inl (cI, 40, .inl (fun _ => 0))), ((u4 0), .inr (3, [.ref (u4 1), .int 0])), ((u4 1), .inr (7, [.int (((8, 240, fun _ => 0, 0) : Tab).1), .ref (u4 2), .int (((8, 240, fun _ => 0, 0) : Tab).2.2.2)])), ((u4 2), .inl (cI, (((8, 240, fun _ => 0, 0) : Tab).2.1), .inl (((8, 240, fun _ => 0, 0) : Tab).2.2.1))), (u6 0, .inr (7, [.int 2, .ref (u6 1), .int 0])), (u6 1, .inl (cI, 20, .inl (fun _ => 0)))]) := hD
  refine lv_aload_n hx hb dX1_init_43 rfl (lv_at hl 0 rfl) ?_
  refine va_new (ci := 7) (fs := [.int 0, .null, .int 0]) (C := RX4) (T := TX4) (N := 3) hx hb hts hin4 tyX4 tyX4_ok hown hw3 hw4 hw5 hK.1 hP hD hS hA rfl (by decide) (Nat.le_of_ble_eq_true rfl) (Nat.le_of_ble_eq_true rfl) dX1_init_44 (fun q7 H hP hD hS => ?_)
  have hP : va_P G vwCl ([(h0, .inr (4, [.ref (u2 0), .ref (u4 0), .ref (u6 0), .null, .int 0, .int 0, .int 0, .int 0, .int 0, .int 0])), (u2 0, .inr (7, [.int 4, .ref (u2 1), .int 0])), (u2 1, .inl (cI, 40, .inl (fun _ => 0))), ((u4 0), .inr (3, [.ref (u4 1), .int 0])), ((u4 1), .inr (7, [.int (((8, 240, fun _ => 0, 0) : Tab).1), .ref (u4 2), .int (((8, 240, fun _ => 0, 0) : Tab).2.2.2)])), ((u4 2), .inl (cI, (((8, 240, fun _ => 0, 0) : Tab).2.1), .inl (((8, 240, fun _ => 0, 0) : Tab).2.2.1))), (u6 0, .inr (7, [.int 2, .ref (u6 1), .int 0])), (u6 1, .inl (cI, 20, .inl (fun _ => 0))), (q7, .inr (7, [.int 0, .null, .int 0]))]) H := hP
  have hD : va_D A ([(h0, .inr (4, [.ref (u2 0), .ref (u4 0), .ref (u6 0), .null, .int 0, .int 0, .int 0, .int 0, .int 0, .int 0])), (u2 0, .inr (7, [.int 4, .ref (u2 1), .int 0])), (u2 1, .inl (cI, 40, .inl (fun _ => 0))), ((u4 0), .inr (3, [.ref (u4 1), .int 0])), ((u4 1), .inr (7, [.int (((8, 240, fun _ => 0, 0) : Tab).1), .ref (u4 2), .int (((8, 240, fun _ => 0, 0) : Tab).2.2.2)])), ((u4 2), .inl (cI, (((8, 240, fun _ => 0, 0) : Tab).2.1), .inl (((8, 240, fun _ => 0, 0) : Tab).2.2.1))), (u6 0, .inr (7, [.int 2, .ref (u6 1), .int 0])), (u6 1, .inl (cI, 20, .inl (fun _ => 0))), (q7, .inr (7, [.int 0, .null, .int 0]))]) := hD
  refine lv_dup hx hb dX1_init_47 rfl ?_
  refine lv_bipush (v := 8) hx hb dX1_init_48 (by decide) ?_
  refine lv_bipush (v := 7) hx hb dX1_init_50 (by decide) ?_
  refine ncall (As := [.int 8, .int 7]) (rest := [.ref q7, .ref h0]) (wr := [(h0, .inr (4, [.ref (u2 0), .ref (u4 0), .ref (u6 0), .null, .int 0, .int 0, .int 0, .int 0, .int 0, .int 0])), (u2 0, .inr (7, [.int 4, .ref (u2 1), .int 0])), (u2 1, .inl (cI, 40, .inl (fun _ => 0))), ((u4 0), .inr (3, [.ref (u4 1), .int 0])), ((u4 1), .inr (7, [.int (((8, 240, fun _ => 0, 0) : Tab).1), .ref (u4 2), .int (((8, 240, fun _ => 0, 0) : Tab).2.2.2)])), ((u4 2), .inl (cI, (((8, 240, fun _ => 0, 0) : Tab).2.1), .inl (((8, 240, fun _ => 0, 0) : Tab).2.2.1))), (u6 0, .inr (7, [.int 2, .ref (u6 1), .int 0])), (u6 1, .inl (cI, 20, .inl (fun _ => 0)))]) ⟨hx, hb, hml, hown, hts⟩ (cX4_init_ok l G cI cG q7 8 7 56 (by decide) (by decide) (Nat.le_of_ble_eq_true rfl)) (cwI 2 hts gX1_init_X4_init rfl rfl rfl hw5 hw7 hw8 rfl hdX4_init ⟨Nat.le_of_ble_eq_true rfl, Nat.le_of_ble_eq_true rfl⟩) hP hD hS hA hK hAO 8 [0, 1, 2, 3, 4, 5, 6, 7] rfl rfl rfl (by decide) rfl rfl hl.1 (Nat.le_of_ble_eq_true rfl) dX1_init_52 ⟨Nat.le_of_ble_eq_true rfl, Nat.le_of_ble_eq_true rfl⟩ (fun u8 H locs huu8 hP2 hD2 hS2 => ?_)
  subst huu8
  have hS := hS2
  have hP := hP2
  have hD := hD2
  have hP : va_P G vwCl ([(h0, .inr (4, [.ref (u2 0), .ref (u4 0), .ref (u6 0), .null, .int 0, .int 0, .int 0, .int 0, .int 0, .int 0])), (u2 0, .inr (7, [.int 4, .ref (u2 1), .int 0])), (u2 1, .inl (cI, 40, .inl (fun _ => 0))), ((u4 0), .inr (3, [.ref (u4 1), .int 0])), ((u4 1), .inr (7, [.int (((8, 240, fun _ => 0, 0) : Tab).1), .ref (u4 2), .int (((8, 240, fun _ => 0, 0) : Tab).2.2.2)])), ((u4 2), .inl (cI, (((8, 240, fun _ => 0, 0) : Tab).2.1), .inl (((8, 240, fun _ => 0, 0) : Tab).2.2.1))), (u6 0, .inr (7, [.int 2, .ref (u6 1), .int 0])), (u6 1, .inl (cI, 20, .inl (fun _ => 0))), (u8 0, .inr (7, [.int 7, .ref (u8 1), .int 0])), (u8 1, .inl (cI, 56, .inl (fun _ => 0)))]) H := hP
  have hD : va_D A ([(h0, .inr (4, [.ref (u2 0), .ref (u4 0), .ref (u6 0), .null, .int 0, .int 0, .int 0, .int 0, .int 0, .int 0])), (u2 0, .inr (7, [.int 4, .ref (u2 1), .int 0])), (u2 1, .inl (cI, 40, .inl (fun _ => 0))), ((u4 0), .inr (3, [.ref (u4 1), .int 0])), ((u4 1), .inr (7, [.int (((8, 240, fun _ => 0, 0) : Tab).1), .ref (u4 2), .int (((8, 240, fun _ => 0, 0) : Tab).2.2.2)])), ((u4 2), .inl (cI, (((8, 240, fun _ => 0, 0) : Tab).2.1), .inl (((8, 240, fun _ => 0, 0) : Tab).2.2.1))), (u6 0, .inr (7, [.int 2, .ref (u6 1), .int 0])), (u6 1, .inl (cI, 20, .inl (fun _ => 0))), (u8 0, .inr (7, [.int 7, .ref (u8 1), .int 0])), (u8 1, .inl (cI, 56, .inl (fun _ => 0)))]) := hD
  refine va_putF (D := G) (ci := 4) (v := .ref (u8 0)) (ty := (.object "SpeedTurns$Table")) (C := RX1) (T := TX1) (N := 10) hx hb hts hin1 tyX1 tyX1_ok nmX1 hown hK.1 hP hD hS 0 rfl rfl 3 (by decide) hw19 (fun _ h9 => h9) rfl hin rfl (by decide +kernel) rfl rfl (Nat.le_of_ble_eq_true rfl) dX1_init_55 (fun H locs hP hD hS => ?_)
  have hP : va_P G vwCl ([(h0, .inr (4, [.ref (u2 0), .ref (u4 0), .ref (u6 0), .ref (u8 0), .int 0, .int 0, .int 0, .int 0, .int 0, .int 0])), (u2 0, .inr (7, [.int 4, .ref (u2 1), .int 0])), (u2 1, .inl (cI, 40, .inl (fun _ => 0))), ((u4 0), .inr (3, [.ref (u4 1), .int 0])), ((u4 1), .inr (7, [.int (((8, 240, fun _ => 0, 0) : Tab).1), .ref (u4 2), .int (((8, 240, fun _ => 0, 0) : Tab).2.2.2)])), ((u4 2), .inl (cI, (((8, 240, fun _ => 0, 0) : Tab).2.1), .inl (((8, 240, fun _ => 0, 0) : Tab).2.2.1))), (u6 0, .inr (7, [.int 2, .ref (u6 1), .int 0])), (u6 1, .inl (cI, 20, .inl (fun _ => 0))), (u8 0, .inr (7, [.int 7, .ref (u8 1), .int 0])), (u8 1, .inl (cI, 56, .inl (fun _ => 0)))]) H := hP
  have hD : va_D A ([(h0, .inr (4, [.ref (u2 0), .ref (u4 0), .ref (u6 0), .ref (u8 0), .int 0, .int 0, .int 0, .int 0, .int 0, .int 0])), (u2 0, .inr (7, [.int 4, .ref (u2 1), .int 0])), (u2 1, .inl (cI, 40, .inl (fun _ => 0))), ((u4 0), .inr (3, [.ref (u4 1), .int 0])), ((u4 1), .inr (7, [.int (((8, 240, fun _ => 0, 0) : Tab).1), .ref (u4 2), .int (((8, 240, fun _ => 0, 0) : Tab).2.2.2)])), ((u4 2), .inl (cI, (((8, 240, fun _ => 0, 0) : Tab).2.1), .inl (((8, 240, fun _ => 0, 0) : Tab).2.2.1))), (u6 0, .inr (7, [.int 2, .ref (u6 1), .int 0])), (u6 1, .inl (cI, 20, .inl (fun _ => 0))), (u8 0, .inr (7, [.int 7, .ref (u8 1), .int 0])), (u8 1, .inl (cI, 56, .inl (fun _ => 0)))]) := hD
  refine lv_aload_n hx hb dX1_init_58 rfl (lv_at hl 0 rfl) ?_
  refine lv_iconst (v := 0) hx hb dX1_init_59 (by decide) ?_
  refine va_put (D := G) (ci := 4) (v := .int 0) (ty := .int) (C := RX1) (T := TX1) (N := 10) hx hb hts hin1 tyX1 tyX1_ok nmX1 hown hK.1 hP hD hS 0 rfl rfl 4 (by decide) hw20 (fun _ h9 => h9) rfl (by decide +kernel) rfl rfl (Nat.le_of_ble_eq_true rfl) dX1_init_60 (fun H locs hP hD hS => ?_)
  have hP : va_P G vwCl ([(h0, .inr (4, [.ref (u2 0), .ref (u4 0), .ref (u6 0), .ref (u8 0), .int 0, .int 0, .int 0, .int 0, .int 0, .int 0])), (u2 0, .inr (7, [.int 4, .ref (u2 1), .int 0])), (u2 1, .inl (cI, 40, .inl (fun _ => 0))), ((u4 0), .inr (3, [.ref (u4 1), .int 0])), ((u4 1), .inr (7, [.int (((8, 240, fun _ => 0, 0) : Tab).1), .ref (u4 2), .int (((8, 240, fun _ => 0, 0) : Tab).2.2.2)])), ((u4 2), .inl (cI, (((8, 240, fun _ => 0, 0) : Tab).2.1), .inl (((8, 240, fun _ => 0, 0) : Tab).2.2.1))), (u6 0, .inr (7, [.int 2, .ref (u6 1), .int 0])), (u6 1, .inl (cI, 20, .inl (fun _ => 0))), (u8 0, .inr (7, [.int 7, .ref (u8 1), .int 0])), (u8 1, .inl (cI, 56, .inl (fun _ => 0)))]) H := hP
  have hD : va_D A ([(h0, .inr (4, [.ref (u2 0), .ref (u4 0), .ref (u6 0), .ref (u8 0), .int 0, .int 0, .int 0, .int 0, .int 0, .int 0])), (u2 0, .inr (7, [.int 4, .ref (u2 1), .int 0])), (u2 1, .inl (cI, 40, .inl (fun _ => 0))), ((u4 0), .inr (3, [.ref (u4 1), .int 0])), ((u4 1), .inr (7, [.int (((8, 240, fun _ => 0, 0) : Tab).1), .ref (u4 2), .int (((8, 240, fun _ => 0, 0) : Tab).2.2.2)])), ((u4 2), .inl (cI, (((8, 240, fun _ => 0, 0) : Tab).2.1), .inl (((8, 240, fun _ => 0, 0) : Tab).2.2.1))), (u6 0, .inr (7, [.int 2, .ref (u6 1), .int 0])), (u6 1, .inl (cI, 20, .inl (fun _ => 0))), (u8 0, .inr (7, [.int 7, .ref (u8 1), .int 0])), (u8 1, .inl (cI, 56, .inl (fun _ => 0)))]) := hD
  refine lv_aload_n hx hb dX1_init_63 rfl (lv_at hl 0 rfl) ?_
  refine lv_iconst (v := (-1)) hx hb dX1_init_64 (by decide) ?_
  refine va_put (D := G) (ci := 4) (v := .int (-1)) (ty := .int) (C := RX1) (T := TX1) (N := 10) hx hb hts hin1 tyX1 tyX1_ok nmX1 hown hK.1 hP hD hS 0 rfl rfl 5 (by decide) hw21 (fun _ h9 => h9) rfl (by decide +kernel) rfl rfl (Nat.le_of_ble_eq_true rfl) dX1_init_65 (fun H locs hP hD hS => ?_)
  have hP : va_P G vwCl ([(h0, .inr (4, [.ref (u2 0), .ref (u4 0), .ref (u6 0), .ref (u8 0), .int 0, .int (-1), .int 0, .int 0, .int 0, .int 0])), (u2 0, .inr (7, [.int 4, .ref (u2 1), .int 0])), (u2 1, .inl (cI, 40, .inl (fun _ => 0))), ((u4 0), .inr (3, [.ref (u4 1), .int 0])), ((u4 1), .inr (7, [.int (((8, 240, fun _ => 0, 0) : Tab).1), .ref (u4 2), .int (((8, 240, fun _ => 0, 0) : Tab).2.2.2)])), ((u4 2), .inl (cI, (((8, 240, fun _ => 0, 0) : Tab).2.1), .inl (((8, 240, fun _ => 0, 0) : Tab).2.2.1))), (u6 0, .inr (7, [.int 2, .ref (u6 1), .int 0])), (u6 1, .inl (cI, 20, .inl (fun _ => 0))), (u8 0, .inr (7, [.int 7, .ref (u8 1), .int 0])), (u8 1, .inl (cI, 56, .inl (fun _ => 0)))]) H := hP
  have hD : va_D A ([(h0, .inr (4, [.ref (u2 0), .ref (u4 0), .ref (u6 0), .ref (u8 0), .int 0, .int (-1), .int 0, .int 0, .int 0, .int 0])), (u2 0, .inr (7, [.int 4, .ref (u2 1), .int 0])), (u2 1, .inl (cI, 40, .inl (fun _ => 0))), ((u4 0), .inr (3, [.ref (u4 1), .int 0])), ((u4 1), .inr (7, [.int (((8, 240, fun _ => 0, 0) : Tab).1), .ref (u4 2), .int (((8, 240, fun _ => 0, 0) : Tab).2.2.2)])), ((u4 2), .inl (cI, (((8, 240, fun _ => 0, 0) : Tab).2.1), .inl (((8, 240, fun _ => 0, 0) : Tab).2.2.1))), (u6 0, .inr (7, [.int 2, .ref (u6 1), .int 0])), (u6 1, .inl (cI, 20, .inl (fun _ => 0))), (u8 0, .inr (7, [.int 7, .ref (u8 1), .int 0])), (u8 1, .inl (cI, 56, .inl (fun _ => 0)))]) := hD
  refine lv_aload_n hx hb dX1_init_68 rfl (lv_at hl 0 rfl) ?_
  refine lv_iconst (v := (-1)) hx hb dX1_init_69 (by decide) ?_
  refine va_put (D := G) (ci := 4) (v := .int (-1)) (ty := .int) (C := RX1) (T := TX1) (N := 10) hx hb hts hin1 tyX1 tyX1_ok nmX1 hown hK.1 hP hD hS 0 rfl rfl 6 (by decide) hw22 (fun _ h9 => h9) rfl (by decide +kernel) rfl rfl (Nat.le_of_ble_eq_true rfl) dX1_init_70 (fun H locs hP hD hS => ?_)
  have hP : va_P G vwCl ([(h0, .inr (4, [.ref (u2 0), .ref (u4 0), .ref (u6 0), .ref (u8 0), .int 0, .int (-1), .int (-1), .int 0, .int 0, .int 0])), (u2 0, .inr (7, [.int 4, .ref (u2 1), .int 0])), (u2 1, .inl (cI, 40, .inl (fun _ => 0))), ((u4 0), .inr (3, [.ref (u4 1), .int 0])), ((u4 1), .inr (7, [.int (((8, 240, fun _ => 0, 0) : Tab).1), .ref (u4 2), .int (((8, 240, fun _ => 0, 0) : Tab).2.2.2)])), ((u4 2), .inl (cI, (((8, 240, fun _ => 0, 0) : Tab).2.1), .inl (((8, 240, fun _ => 0, 0) : Tab).2.2.1))), (u6 0, .inr (7, [.int 2, .ref (u6 1), .int 0])), (u6 1, .inl (cI, 20, .inl (fun _ => 0))), (u8 0, .inr (7, [.int 7, .ref (u8 1), .int 0])), (u8 1, .inl (cI, 56, .inl (fun _ => 0)))]) H := hP
  have hD : va_D A ([(h0, .inr (4, [.ref (u2 0), .ref (u4 0), .ref (u6 0), .ref (u8 0), .int 0, .int (-1), .int (-1), .int 0, .int 0, .int 0])), (u2 0, .inr (7, [.int 4, .ref (u2 1), .int 0])), (u2 1, .inl (cI, 40, .inl (fun _ => 0))), ((u4 0), .inr (3, [.ref (u4 1), .int 0])), ((u4 1), .inr (7, [.int (((8, 240, fun _ => 0, 0) : Tab).1), .ref (u4 2), .int (((8, 240, fun _ => 0, 0) : Tab).2.2.2)])), ((u4 2), .inl (cI, (((8, 240, fun _ => 0, 0) : Tab).2.1), .inl (((8, 240, fun _ => 0, 0) : Tab).2.2.1))), (u6 0, .inr (7, [.int 2, .ref (u6 1), .int 0])), (u6 1, .inl (cI, 20, .inl (fun _ => 0))), (u8 0, .inr (7, [.int 7, .ref (u8 1), .int 0])), (u8 1, .inl (cI, 56, .inl (fun _ => 0)))]) := hD
  refine lv_aload_n hx hb dX1_init_73 rfl (lv_at hl 0 rfl) ?_
  refine lv_iconst (v := 0) hx hb dX1_init_74 (by decide) ?_
  refine va_put (D := G) (ci := 4) (v := .int 0) (ty := .boolean) (C := RX1) (T := TX1) (N := 10) hx hb hts hin1 tyX1 tyX1_ok nmX1 hown hK.1 hP hD hS 0 rfl rfl 7 (by decide) hw23 (fun _ h9 => h9) rfl (by decide +kernel) rfl rfl (Nat.le_of_ble_eq_true rfl) dX1_init_75 (fun H locs hP hD hS => ?_)
  have hP : va_P G vwCl ([(h0, .inr (4, [.ref (u2 0), .ref (u4 0), .ref (u6 0), .ref (u8 0), .int 0, .int (-1), .int (-1), .int (bI false), .int 0, .int 0])), (u2 0, .inr (7, [.int 4, .ref (u2 1), .int 0])), (u2 1, .inl (cI, 40, .inl (fun _ => 0))), ((u4 0), .inr (3, [.ref (u4 1), .int 0])), ((u4 1), .inr (7, [.int (((8, 240, fun _ => 0, 0) : Tab).1), .ref (u4 2), .int (((8, 240, fun _ => 0, 0) : Tab).2.2.2)])), ((u4 2), .inl (cI, (((8, 240, fun _ => 0, 0) : Tab).2.1), .inl (((8, 240, fun _ => 0, 0) : Tab).2.2.1))), (u6 0, .inr (7, [.int 2, .ref (u6 1), .int 0])), (u6 1, .inl (cI, 20, .inl (fun _ => 0))), (u8 0, .inr (7, [.int 7, .ref (u8 1), .int 0])), (u8 1, .inl (cI, 56, .inl (fun _ => 0)))]) H := hP
  have hD : va_D A ([(h0, .inr (4, [.ref (u2 0), .ref (u4 0), .ref (u6 0), .ref (u8 0), .int 0, .int (-1), .int (-1), .int (bI false), .int 0, .int 0])), (u2 0, .inr (7, [.int 4, .ref (u2 1), .int 0])), (u2 1, .inl (cI, 40, .inl (fun _ => 0))), ((u4 0), .inr (3, [.ref (u4 1), .int 0])), ((u4 1), .inr (7, [.int (((8, 240, fun _ => 0, 0) : Tab).1), .ref (u4 2), .int (((8, 240, fun _ => 0, 0) : Tab).2.2.2)])), ((u4 2), .inl (cI, (((8, 240, fun _ => 0, 0) : Tab).2.1), .inl (((8, 240, fun _ => 0, 0) : Tab).2.2.1))), (u6 0, .inr (7, [.int 2, .ref (u6 1), .int 0])), (u6 1, .inl (cI, 20, .inl (fun _ => 0))), (u8 0, .inr (7, [.int 7, .ref (u8 1), .int 0])), (u8 1, .inl (cI, 56, .inl (fun _ => 0)))]) := hD
  refine lv_aload_n hx hb dX1_init_78 rfl (lv_at hl 0 rfl) ?_
  refine lv_bipush (v := 10) hx hb dX1_init_79 (by decide) ?_
  refine va_put (D := G) (ci := 4) (v := .int 10) (ty := .int) (C := RX1) (T := TX1) (N := 10) hx hb hts hin1 tyX1 tyX1_ok nmX1 hown hK.1 hP hD hS 0 rfl rfl 8 (by decide) hw24 (fun _ h9 => h9) rfl (by decide +kernel) rfl rfl (Nat.le_of_ble_eq_true rfl) dX1_init_81 (fun H locs hP hD hS => ?_)
  have hP : va_P G vwCl ([(h0, .inr (4, [.ref (u2 0), .ref (u4 0), .ref (u6 0), .ref (u8 0), .int 0, .int (-1), .int (-1), .int (bI false), .int 10, .int 0])), (u2 0, .inr (7, [.int 4, .ref (u2 1), .int 0])), (u2 1, .inl (cI, 40, .inl (fun _ => 0))), ((u4 0), .inr (3, [.ref (u4 1), .int 0])), ((u4 1), .inr (7, [.int (((8, 240, fun _ => 0, 0) : Tab).1), .ref (u4 2), .int (((8, 240, fun _ => 0, 0) : Tab).2.2.2)])), ((u4 2), .inl (cI, (((8, 240, fun _ => 0, 0) : Tab).2.1), .inl (((8, 240, fun _ => 0, 0) : Tab).2.2.1))), (u6 0, .inr (7, [.int 2, .ref (u6 1), .int 0])), (u6 1, .inl (cI, 20, .inl (fun _ => 0))), (u8 0, .inr (7, [.int 7, .ref (u8 1), .int 0])), (u8 1, .inl (cI, 56, .inl (fun _ => 0)))]) H := hP
  have hD : va_D A ([(h0, .inr (4, [.ref (u2 0), .ref (u4 0), .ref (u6 0), .ref (u8 0), .int 0, .int (-1), .int (-1), .int (bI false), .int 10, .int 0])), (u2 0, .inr (7, [.int 4, .ref (u2 1), .int 0])), (u2 1, .inl (cI, 40, .inl (fun _ => 0))), ((u4 0), .inr (3, [.ref (u4 1), .int 0])), ((u4 1), .inr (7, [.int (((8, 240, fun _ => 0, 0) : Tab).1), .ref (u4 2), .int (((8, 240, fun _ => 0, 0) : Tab).2.2.2)])), ((u4 2), .inl (cI, (((8, 240, fun _ => 0, 0) : Tab).2.1), .inl (((8, 240, fun _ => 0, 0) : Tab).2.2.1))), (u6 0, .inr (7, [.int 2, .ref (u6 1), .int 0])), (u6 1, .inl (cI, 20, .inl (fun _ => 0))), (u8 0, .inr (7, [.int 7, .ref (u8 1), .int 0])), (u8 1, .inl (cI, 56, .inl (fun _ => 0)))]) := hD
  refine lv_aload_n hx hb dX1_init_84 rfl (lv_at hl 0 rfl) ?_
  refine lv_iconst (v := 0) hx hb dX1_init_85 (by decide) ?_
  refine va_put (D := G) (ci := 4) (v := .int 0) (ty := .int) (C := RX1) (T := TX1) (N := 10) hx hb hts hin1 tyX1 tyX1_ok nmX1 hown hK.1 hP hD hS 0 rfl rfl 9 (by decide) hw25 (fun _ h9 => h9) rfl (by decide +kernel) rfl rfl (Nat.le_of_ble_eq_true rfl) dX1_init_86 (fun H locs hP hD hS => ?_)
  have hP : va_P G vwCl ([(h0, .inr (4, [.ref (u2 0), .ref (u4 0), .ref (u6 0), .ref (u8 0), .int 0, .int (-1), .int (-1), .int (bI false), .int 10, .int 0])), (u2 0, .inr (7, [.int 4, .ref (u2 1), .int 0])), (u2 1, .inl (cI, 40, .inl (fun _ => 0))), ((u4 0), .inr (3, [.ref (u4 1), .int 0])), ((u4 1), .inr (7, [.int (((8, 240, fun _ => 0, 0) : Tab).1), .ref (u4 2), .int (((8, 240, fun _ => 0, 0) : Tab).2.2.2)])), ((u4 2), .inl (cI, (((8, 240, fun _ => 0, 0) : Tab).2.1), .inl (((8, 240, fun _ => 0, 0) : Tab).2.2.1))), (u6 0, .inr (7, [.int 2, .ref (u6 1), .int 0])), (u6 1, .inl (cI, 20, .inl (fun _ => 0))), (u8 0, .inr (7, [.int 7, .ref (u8 1), .int 0])), (u8 1, .inl (cI, 56, .inl (fun _ => 0)))]) H := hP
  have hD : va_D A ([(h0, .inr (4, [.ref (u2 0), .ref (u4 0), .ref (u6 0), .ref (u8 0), .int 0, .int (-1), .int (-1), .int (bI false), .int 10, .int 0])), (u2 0, .inr (7, [.int 4, .ref (u2 1), .int 0])), (u2 1, .inl (cI, 40, .inl (fun _ => 0))), ((u4 0), .inr (3, [.ref (u4 1), .int 0])), ((u4 1), .inr (7, [.int (((8, 240, fun _ => 0, 0) : Tab).1), .ref (u4 2), .int (((8, 240, fun _ => 0, 0) : Tab).2.2.2)])), ((u4 2), .inl (cI, (((8, 240, fun _ => 0, 0) : Tab).2.1), .inl (((8, 240, fun _ => 0, 0) : Tab).2.2.1))), (u6 0, .inr (7, [.int 2, .ref (u6 1), .int 0])), (u6 1, .inl (cI, 20, .inl (fun _ => 0))), (u8 0, .inr (7, [.int 7, .ref (u8 1), .int 0])), (u8 1, .inl (cI, 56, .inl (fun _ => 0)))]) := hD
  refine W.widen (k := 9) (n := 370) (Nat.le_of_ble_eq_true rfl) (Nat.le_of_ble_eq_true rfl) ?_
  exact W.vret hx hb hr (fun t ht hW => ⟨⟨(fun i : Nat => if i = 0 then h0 else if i = 1 then (u2 0) else if i = 2 then (u2 1) else if i = 3 then (u4 0) else if i = 4 then (u4 1) else if i = 5 then (u4 2) else if i = 6 then (u6 0) else if i = 7 then (u6 1) else if i = 8 then (u8 0) else if i = 9 then (u8 1) else 0), rfl, rfl, by rw [ht]; exact hP, hD⟩, hS.F ht⟩) hS.2.2 dX1_init_89
theorem hdX3_init : yX3_init.cls ≠ "java/lang/invoke/MethodHandle" ∧ yX3_init.cls ≠ "java/lang/invoke/VarHandle" ∧ (parseMethodDescriptor yX3_init.desc).map (fun d => d.parameters.length) = some 0 := by decide +kernel
set_option maxHeartbeats 4000000 in
set_option maxRecDepth 100000 in
theorem cX3_init_ok (l : Launch) (G : va_G) (cI cG : ClassId) (h0 : Nat) : CNw l G (tyz cI cG) yX3_init wsX3_init ({ frames := 2, cells := 4, slots := 306, locals := 43 } : Room) [.ref h0] h0 (.inr (6, [.null, .null])) (fun u => wS cI (u 0) (u 1) (u 2) (u 3) (u 4) ((1, 120, fun _ => 0, 0) : Tab) ((3, 180, fun _ => 0, 0) : Tab)) 4 306 := by
  intro sz
  refine Met.ofW (cc := cX3_init) (maxL := 1) (ret := none) (by decide) rfl ?_
  intro p e s m args below meth c s₁ B hml hv
  obtain ⟨rfl, ⟨hsz, hP, hK, hD0⟩, hAO⟩ := hv
  have hx := B.exec
  have hb := B.bytes
  have hr := B.returns
  have hts := atoms_spec (ws := wsX3_init) B.pre
  have hown : s.vm.findClass RX3 = some m.cls := findClass_of_methodNamed B.named
  have hlocks := B.notSynchronized
  have hin : meth.name = "<init>" := (name_of_methodNamed B.named B.method).1
  subst hsz
  have hD := hD0.self (sz := s.heap.size)
  generalize hAe : va_A [(h0, (.inr (6, [.null, .null])))] s.heap.size = A at hD ⊢
  have hA : ∀ q : Nat, s.heap.size ≤ q → A q := fun q h => by rw [← hAe]; exact Or.inr h
  have hS : va_S A s.heap s.heap [] := va_S.rf
  have hP : va_P G vwCl [(h0, (.inr (6, [.null, .null])))] s.heap := hP
  have hw0 := hts (.methodLink RX3 3 objectInit) (List.mem_of_getElem? (i := 1) rfl)
  have hw1 := hts (.instanceMethod objectInit) (List.mem_of_getElem? (i := 2) rfl)
  have hw2 := hts (.code objectInit ⟨#[0xb1]⟩ 1 none) (List.mem_of_getElem? (i := 3) rfl)
  have hw3 := hts (.classLink RX3 9 RX4) (List.mem_of_getElem? (i := 4) rfl)
  have hw4 := hts (.instantiable RX4 3) (List.mem_of_getElem? (i := 5) rfl)
  have hw5 := hts (.initialized RX4) (List.mem_of_getElem? (i := 6) rfl)
  have hin4 : ∀ w ∈ u_ws RX4 TX4 3, w ∈ wsX3_init := by decide +kernel
  have hw7 := hts (.methodLink RX3 11 yX4_init) (List.mem_of_getElem? (i := 9) rfl)
  have hw8 := hts (.instanceMethod yX4_init) (List.mem_of_getElem? (i := 10) rfl)
  have hw9 := hts (.fieldLink RX3 14 "SpeedTurns$Script" "text" "LSpeedTurns$Table;") (List.mem_of_getElem? (i := 7) rfl)
  have hin3 : ∀ w ∈ u_ws RX3 TX3 2, w ∈ wsX3_init := by decide +kernel
  have hw11 := hts (.fieldLink RX3 20 "SpeedTurns$Script" "commands" "LSpeedTurns$Table;") (List.mem_of_getElem? (i := 8) rfl)
  show W p l e ({ frames := 2, cells := 4, slots := 306, locals := 43 } : Room) s m _ below meth c s.heap [] 0 0 _ _
  have hl := lv_entry ([.ref h0]) (n := 1) (Nat.le_of_ble_eq_true rfl)
  rw [lg_entry_eq]
  generalize (lg_sl ([.ref h0]) ++ List.replicate (1 - (lg_sl ([.ref h0])).length) Slot.unset).toArray = ls at hl ⊢
  have hl : lv_has ls 1 [(0, .ref h0)] := hl
  refine lv_aload_n hx hb dX3_init_0 rfl (lv_at hl 0 rfl) ?_
  refine W.objInit hx hb hown hw0 hw1 hw2 rfl (by rw [hml]; exact hl.1) rfl dX3_init_1 (Nat.le_of_ble_eq_true rfl) (Nat.le_of_ble_eq_true rfl) ?_
  refine W.eq (g2 := F0 m 4 ls []) rfl ?_
  refine lv_aload_n hx hb dX3_init_4 rfl (lv_at hl 0 rfl) ?_
  refine va_new (ci := 7) (fs := [.int 0, .null, .int 0]) (C := RX4) (T := TX4) (N := 3) hx hb hts hin4 tyX4 tyX4_ok hown hw3 hw4 hw5 hK.1 hP hD hS hA rfl (by decide) (Nat.le_of_ble_eq_true rfl) (Nat.le_of_ble_eq_true rfl) dX3_init_5 (fun q1 H hP hD hS => ?_)
  have hP : va_P G vwCl ([(h0, .inr (6, [.null, .null])), (q1, .inr (7, [.int 0, .null, .int 0]))]) H := hP
  have hD : va_D A ([(h0, .inr (6, [.null, .null])), (q1, .inr (7, [.int 0, .null, .int 0]))]) := hD
  refine lv_dup hx hb dX3_init_8 rfl ?_
  refine lv_bipush (v := 120) hx hb dX3_init_9 (by decide) ?_
  refine lv_iconst (v := 1) hx hb dX3_init_11 (by decide) ?_
  refine ncall (As := [.int 120, .int 1]) (rest := [.ref q1, .ref h0]) (wr := [(h0, .inr (6, [.null, .null]))]) ⟨hx, hb, hml, hown, hts⟩ (cX4_init_ok l G cI cG q1 120 1 120 (by decide) (by decide) (Nat.le_of_ble_eq_true rfl)) (cwI 2 hts gX3_init_X4_init rfl rfl rfl hw5 hw7 hw8 rfl hdX4_init ⟨Nat.le_of_ble_eq_true rfl, Nat.le_of_ble_eq_true rfl⟩) hP hD hS hA hK hAO 1 [0] rfl rfl rfl (by decide) rfl rfl hl.1 (Nat.le_of_ble_eq_true rfl) dX3_init_12 ⟨Nat.le_of_ble_eq_true rfl, Nat.le_of_ble_eq_true rfl⟩ (fun u2 H locs huu2 hP2 hD2 hS2 => ?_)
  subst huu2
  have hS := hS2
  have hP := hP2
  have hD := hD2
  have hP : va_P G vwCl ([(h0, .inr (6, [.null, .null])), (u2 0, .inr (7, [.int 1, .ref (u2 1), .int 0])), (u2 1, .inl (cI, 120, .inl (fun _ => 0)))]) H := hP
  have hD : va_D A ([(h0, .inr (6, [.null, .null])), (u2 0, .inr (7, [.int 1, .ref (u2 1), .int 0])), (u2 1, .inl (cI, 120, .inl (fun _ => 0)))]) := hD
  refine va_putF (D := G) (ci := 6) (v := .ref (u2 0)) (ty := (.object "SpeedTurns$Table")) (C := RX3) (T := TX3) (N := 2) hx hb hts hin3 tyX3 tyX3_ok nmX3 hown hK.1 hP hD hS 0 rfl rfl 0 (by decide) hw9 (fun _ h9 => h9) rfl hin rfl (by decide +kernel) rfl rfl (Nat.le_of_ble_eq_true rfl) dX3_init_15 (fun H locs hP hD hS => ?_)
  have hP : va_P G vwCl ([(h0, .inr (6, [.ref (u2 0), .null])), (u2 0, .inr (7, [.int 1, .ref (u2 1), .int 0])), (u2 1, .inl (cI, 120, .inl (fun _ => 0)))]) H := hP
  have hD : va_D A ([(h0, .inr (6, [.ref (u2 0), .null])), (u2 0, .inr (7, [.int 1, .ref (u2 1), .int 0])), (u2 1, .inl (cI, 120, .inl (fun _ => 0)))]) := hD
  refine lv_aload_n hx hb dX3_init_18 rfl (lv_at hl 0 rfl) ?_
  refine va_new (ci := 7) (fs := [.int 0, .null, .int 0]) (C := RX4) (T := TX4) (N := 3) hx hb hts hin4 tyX4 tyX4_ok hown hw3 hw4 hw5 hK.1 hP hD hS hA rfl (by decide) (Nat.le_of_ble_eq_true rfl) (Nat.le_of_ble_eq_true rfl) dX3_init_19 (fun q3 H hP hD hS => ?_)
  have hP : va_P G vwCl ([(h0, .inr (6, [.ref (u2 0), .null])), (u2 0, .inr (7, [.int 1, .ref (u2 1), .int 0])), (u2 1, .inl (cI, 120, .inl (fun _ => 0))), (q3, .inr (7, [.int 0, .null, .int 0]))]) H := hP
  have hD : va_D A ([(h0, .inr (6, [.ref (u2 0), .null])), (u2 0, .inr (7, [.int 1, .ref (u2 1), .int 0])), (u2 1, .inl (cI, 120, .inl (fun _ => 0))), (q3, .inr (7, [.int 0, .null, .int 0]))]) := hD
  refine lv_dup hx hb dX3_init_22 rfl ?_
  refine lv_bipush (v := 60) hx hb dX3_init_23 (by decide) ?_
  refine lv_iconst (v := 3) hx hb dX3_init_25 (by decide) ?_
  refine ncall (As := [.int 60, .int 3]) (rest := [.ref q3, .ref h0]) (wr := [(h0, .inr (6, [.ref (u2 0), .null])), (u2 0, .inr (7, [.int 1, .ref (u2 1), .int 0])), (u2 1, .inl (cI, 120, .inl (fun _ => 0)))]) ⟨hx, hb, hml, hown, hts⟩ (cX4_init_ok l G cI cG q3 60 3 180 (by decide) (by decide) (Nat.le_of_ble_eq_true rfl)) (cwI 2 hts gX3_init_X4_init rfl rfl rfl hw5 hw7 hw8 rfl hdX4_init ⟨Nat.le_of_ble_eq_true rfl, Nat.le_of_ble_eq_true rfl⟩) hP hD hS hA hK hAO 3 [0, 1, 2] rfl rfl rfl (by decide) rfl rfl hl.1 (Nat.le_of_ble_eq_true rfl) dX3_init_26 ⟨Nat.le_of_ble_eq_true rfl, Nat.le_of_ble_eq_true rfl⟩ (fun u4 H locs huu4 hP2 hD2 hS2 => ?_)
  subst huu4
  have hS := hS2
  have hP := hP2
  have hD := hD2
  have hP : va_P G vwCl ([(h0, .inr (6, [.ref (u2 0), .null])), (u2 0, .inr (7, [.int 1, .ref (u2 1), .int 0])), (u2 1, .inl (cI, 120, .inl (fun _ => 0))), (u4 0, .inr (7, [.int 3, .ref (u4 1), .int 0])), (u4 1, .inl (cI, 180, .inl (fun _ => 0)))]) H := hP
  have hD : va_D A ([(h0, .inr (6, [.ref (u2 0), .null])), (u2 0, .inr (7, [.int 1, .ref (u2 1), .int 0])), (u2 1, .inl (cI, 120, .inl (fun _ => 0))), (u4 0, .inr (7, [.int 3, .ref (u4 1), .int 0])), (u4 1, .inl (cI, 180, .inl (fun _ => 0)))]) := hD
  refine va_putF (D := G) (ci := 6) (v := .ref (u4 0)) (ty := (.object "SpeedTurns$Table")) (C := RX3) (T := TX3) (N := 2) hx hb hts hin3 tyX3 tyX3_ok nmX3 hown hK.1 hP hD hS 0 rfl rfl 1 (by decide) hw11 (fun _ h9 => h9) rfl hin rfl (by decide +kernel) rfl rfl (Nat.le_of_ble_eq_true rfl) dX3_init_29 (fun H locs hP hD hS => ?_)
  have hP : va_P G vwCl ([(h0, .inr (6, [.ref (u2 0), .ref (u4 0)])), (u2 0, .inr (7, [.int 1, .ref (u2 1), .int 0])), (u2 1, .inl (cI, 120, .inl (fun _ => 0))), (u4 0, .inr (7, [.int 3, .ref (u4 1), .int 0])), (u4 1, .inl (cI, 180, .inl (fun _ => 0)))]) H := hP
  have hD : va_D A ([(h0, .inr (6, [.ref (u2 0), .ref (u4 0)])), (u2 0, .inr (7, [.int 1, .ref (u2 1), .int 0])), (u2 1, .inl (cI, 120, .inl (fun _ => 0))), (u4 0, .inr (7, [.int 3, .ref (u4 1), .int 0])), (u4 1, .inl (cI, 180, .inl (fun _ => 0)))]) := hD
  refine W.widen (k := 4) (n := 306) (Nat.le_of_ble_eq_true rfl) (Nat.le_of_ble_eq_true rfl) ?_
  exact W.vret hx hb hr (fun t ht hW => ⟨⟨(fun i : Nat => if i = 0 then h0 else if i = 1 then (u2 0) else if i = 2 then (u2 1) else if i = 3 then (u4 0) else if i = 4 then (u4 1) else 0), rfl, rfl, by rw [ht]; exact hP, hD⟩, hS.F ht⟩) hS.2.2 dX3_init_32
theorem hdX6_init : yX6_init.cls ≠ "java/lang/invoke/MethodHandle" ∧ yX6_init.cls ≠ "java/lang/invoke/VarHandle" ∧ (parseMethodDescriptor yX6_init.desc).map (fun d => d.parameters.length) = some 0 := by decide +kernel
set_option maxHeartbeats 4000000 in
set_option maxRecDepth 100000 in
theorem cX6_init_ok (l : Launch) (G : va_G) (cI cG : ClassId) (h0 : Nat) : CNw l G (tyz cI cG) yX6_init wsX6_init ({ frames := 1, cells := 4, slots := 2388, locals := 12 } : Room) [.ref h0] h0 (.inr (9, [.int 0, .null, .null, .null, .int 0, .null, .int 0, .int 0, .int 0, .int 0, .int 0, .long 0])) (fun u => [((u 0), .inr (9, [.int 0, .ref (u 1), .ref (u 2), .ref (u 3), .int 0, .ref (u 4), .int 0, .int 0, .int 0, .int 0, .int 0, .long 0])), ((u 1), .inl (cI, 378, .inl sInit)), ((u 2), .inl (cI, 378, .inl (fun _ => 0))), ((u 3), .inl (cI, 1512, .inl (fun _ => 0))), ((u 4), .inl (cI, 120, .inl (fun _ => 0)))]) 4 2388 := by
  intro sz
  refine Met.ofW (cc := cX6_init) (maxL := 1) (ret := none) (by decide) rfl ?_
  intro p e s m args below meth c s₁ B hml hv
  obtain ⟨rfl, ⟨hsz, hP, hK, hD0⟩, hAO⟩ := hv
  have hx := B.exec
  have hb := B.bytes
  have hr := B.returns
  have hts := atoms_spec (ws := wsX6_init) B.pre
  have hown : s.vm.findClass RX6 = some m.cls := findClass_of_methodNamed B.named
  have hlocks := B.notSynchronized
  have hin : meth.name = "<init>" := (name_of_methodNamed B.named B.method).1
  subst hsz
  have hD := hD0.self (sz := s.heap.size)
  generalize hAe : va_A [(h0, (.inr (9, [.int 0, .null, .null, .null, .int 0, .null, .int 0, .int 0, .int 0, .int 0, .int 0, .long 0])))] s.heap.size = A at hD ⊢
  have hA : ∀ q : Nat, s.heap.size ≤ q → A q := fun q h => by rw [← hAe]; exact Or.inr h
  have hS : va_S A s.heap s.heap [] := va_S.rf
  have hP : va_P G vwCl [(h0, (.inr (9, [.int 0, .null, .null, .null, .int 0, .null, .int 0, .int 0, .int 0, .int 0, .int 0, .long 0])))] s.heap := hP
  have hw0 := hts (.methodLink RX6 1 objectInit) (List.mem_of_getElem? (i := 1) rfl)
  have hw1 := hts (.instanceMethod objectInit) (List.mem_of_getElem? (i := 2) rfl)
  have hw2 := hts (.code objectInit ⟨#[0xb1]⟩ 1 none) (List.mem_of_getElem? (i := 3) rfl)
  have hw3 := hts (.arrayClass .int) (List.mem_of_getElem? (i := 4) rfl)
  have hw4 := hts (.fieldLink RX6 7 "SpeedTurnsModel" "s" "[I") (List.mem_of_getElem? (i := 5) rfl)
  have hin6 : ∀ w ∈ u_ws RX6 TX6 12, w ∈ wsX6_init := by decide +kernel
  have hw6 := hts (.fieldLink RX6 13 "SpeedTurnsModel" "aside" "[I") (List.mem_of_getElem? (i := 6) rfl)
  have hw7 := hts (.fieldLink RX6 16 "SpeedTurnsModel" "saved" "[I") (List.mem_of_getElem? (i := 7) rfl)
  have hw8 := hts (.fieldLink RX6 19 "SpeedTurnsModel" "text" "[I") (List.mem_of_getElem? (i := 8) rfl)
  have hw9 := hts (.fieldLink RX6 22 "SpeedTurnsModel" "thrown" "I") (List.mem_of_getElem? (i := 9) rfl)
  show W p l e ({ frames := 1, cells := 4, slots := 2388, locals := 12 } : Room) s m _ below meth c s.heap [] 0 0 _ _
  have hl := lv_entry ([.ref h0]) (n := 1) (Nat.le_of_ble_eq_true rfl)
  rw [lg_entry_eq]
  generalize (lg_sl ([.ref h0]) ++ List.replicate (1 - (lg_sl ([.ref h0])).length) Slot.unset).toArray = ls at hl ⊢
  have hl : lv_has ls 1 [(0, .ref h0)] := hl
  refine lv_aload_n hx hb dX6_init_0 rfl (lv_at hl 0 rfl) ?_
  refine W.objInit hx hb hown hw0 hw1 hw2 rfl (by rw [hml]; exact hl.1) rfl dX6_init_1 (Nat.le_of_ble_eq_true rfl) (Nat.le_of_ble_eq_true rfl) ?_
  refine W.eq (g2 := F0 m 4 ls []) rfl ?_
  refine lv_aload_n hx hb dX6_init_4 rfl (lv_at hl 0 rfl) ?_
  refine lv_sipush (v := 378) hx hb dX6_init_5 (by decide) ?_
  refine new_int (N := 378) hx hb hw3 hK.1 hP hD hS hA (by decide) rfl (Nat.le_of_ble_eq_true rfl) (Nat.le_of_ble_eq_true rfl) (Nat.le_of_ble_eq_true rfl) dX6_init_8 (fun q1 H hP hD hS => ?_)
  have hP : va_P G vwCl ([(h0, .inr (9, [.int 0, .null, .null, .null, .int 0, .null, .int 0, .int 0, .int 0, .int 0, .int 0, .long 0])), (q1, .inl (cI, 378, .inl (fun _ => 0)))]) H := hP
  have hD : va_D A ([(h0, .inr (9, [.int 0, .null, .null, .null, .int 0, .null, .int 0, .int 0, .int 0, .int 0, .int 0, .long 0])), (q1, .inl (cI, 378, .inl (fun _ => 0)))]) := hD
  refine va_putF (D := G) (ci := 9) (v := .ref q1) (ty := (.array .int)) (C := RX6) (T := TX6) (N := 12) hx hb hts hin6 tyX6 tyX6_ok nmX6 hown hK.1 hP hD hS 0 rfl rfl 1 (by decide) hw4 (fun _ h9 => h9) rfl hin rfl (by decide +kernel) rfl rfl (Nat.le_of_ble_eq_true rfl) dX6_init_10 (fun H locs hP hD hS => ?_)
  have hP : va_P G vwCl ([(h0, .inr (9, [.int 0, .ref q1, .null, .null, .int 0, .null, .int 0, .int 0, .int 0, .int 0, .int 0, .long 0])), (q1, .inl (cI, 378, .inl (fun _ => 0)))]) H := hP
  have hD : va_D A ([(h0, .inr (9, [.int 0, .ref q1, .null, .null, .int 0, .null, .int 0, .int 0, .int 0, .int 0, .int 0, .long 0])), (q1, .inl (cI, 378, .inl (fun _ => 0)))]) := hD
  refine lv_aload_n hx hb dX6_init_13 rfl (lv_at hl 0 rfl) ?_
  refine lv_sipush (v := 378) hx hb dX6_init_14 (by decide) ?_
  refine new_int (N := 378) hx hb hw3 hK.1 hP hD hS hA (by decide) rfl (Nat.le_of_ble_eq_true rfl) (Nat.le_of_ble_eq_true rfl) (Nat.le_of_ble_eq_true rfl) dX6_init_17 (fun q2 H hP hD hS => ?_)
  have hP : va_P G vwCl ([(h0, .inr (9, [.int 0, .ref q1, .null, .null, .int 0, .null, .int 0, .int 0, .int 0, .int 0, .int 0, .long 0])), (q1, .inl (cI, 378, .inl (fun _ => 0))), (q2, .inl (cI, 378, .inl (fun _ => 0)))]) H := hP
  have hD : va_D A ([(h0, .inr (9, [.int 0, .ref q1, .null, .null, .int 0, .null, .int 0, .int 0, .int 0, .int 0, .int 0, .long 0])), (q1, .inl (cI, 378, .inl (fun _ => 0))), (q2, .inl (cI, 378, .inl (fun _ => 0)))]) := hD
  refine va_putF (D := G) (ci := 9) (v := .ref q2) (ty := (.array .int)) (C := RX6) (T := TX6) (N := 12) hx hb hts hin6 tyX6 tyX6_ok nmX6 hown hK.1 hP hD hS 0 rfl rfl 2 (by decide) hw6 (fun _ h9 => h9) rfl hin rfl (by decide +kernel) rfl rfl (Nat.le_of_ble_eq_true rfl) dX6_init_19 (fun H locs hP hD hS => ?_)
  have hP : va_P G vwCl ([(h0, .inr (9, [.int 0, .ref q1, .ref q2, .null, .int 0, .null, .int 0, .int 0, .int 0, .int 0, .int 0, .long 0])), (q1, .inl (cI, 378, .inl (fun _ => 0))), (q2, .inl (cI, 378, .inl (fun _ => 0)))]) H := hP
  have hD : va_D A ([(h0, .inr (9, [.int 0, .ref q1, .ref q2, .null, .int 0, .null, .int 0, .int 0, .int 0, .int 0, .int 0, .long 0])), (q1, .inl (cI, 378, .inl (fun _ => 0))), (q2, .inl (cI, 378, .inl (fun _ => 0)))]) := hD
  refine lv_aload_n hx hb dX6_init_22 rfl (lv_at hl 0 rfl) ?_
  refine lv_sipush (v := 1512) hx hb dX6_init_23 (by decide) ?_
  refine new_int (N := 1512) hx hb hw3 hK.1 hP hD hS hA (by decide) rfl (Nat.le_of_ble_eq_true rfl) (Nat.le_of_ble_eq_true rfl) (Nat.le_of_ble_eq_true rfl) dX6_init_26 (fun q3 H hP hD hS => ?_)
  have hP : va_P G vwCl ([(h0, .inr (9, [.int 0, .ref q1, .ref q2, .null, .int 0, .null, .int 0, .int 0, .int 0, .int 0, .int 0, .long 0])), (q1, .inl (cI, 378, .inl (fun _ => 0))), (q2, .inl (cI, 378, .inl (fun _ => 0))), (q3, .inl (cI, 1512, .inl (fun _ => 0)))]) H := hP
  have hD : va_D A ([(h0, .inr (9, [.int 0, .ref q1, .ref q2, .null, .int 0, .null, .int 0, .int 0, .int 0, .int 0, .int 0, .long 0])), (q1, .inl (cI, 378, .inl (fun _ => 0))), (q2, .inl (cI, 378, .inl (fun _ => 0))), (q3, .inl (cI, 1512, .inl (fun _ => 0)))]) := hD
  refine va_putF (D := G) (ci := 9) (v := .ref q3) (ty := (.array .int)) (C := RX6) (T := TX6) (N := 12) hx hb hts hin6 tyX6 tyX6_ok nmX6 hown hK.1 hP hD hS 0 rfl rfl 3 (by decide) hw7 (fun _ h9 => h9) rfl hin rfl (by decide +kernel) rfl rfl (Nat.le_of_ble_eq_true rfl) dX6_init_28 (fun H locs hP hD hS => ?_)
  have hP : va_P G vwCl ([(h0, .inr (9, [.int 0, .ref q1, .ref q2, .ref q3, .int 0, .null, .int 0, .int 0, .int 0, .int 0, .int 0, .long 0])), (q1, .inl (cI, 378, .inl (fun _ => 0))), (q2, .inl (cI, 378, .inl (fun _ => 0))), (q3, .inl (cI, 1512, .inl (fun _ => 0)))]) H := hP
  have hD : va_D A ([(h0, .inr (9, [.int 0, .ref q1, .ref q2, .ref q3, .int 0, .null, .int 0, .int 0, .int 0, .int 0, .int 0, .long 0])), (q1, .inl (cI, 378, .inl (fun _ => 0))), (q2, .inl (cI, 378, .inl (fun _ => 0))), (q3, .inl (cI, 1512, .inl (fun _ => 0)))]) := hD
  refine lv_aload_n hx hb dX6_init_31 rfl (lv_at hl 0 rfl) ?_
  refine lv_bipush (v := 120) hx hb dX6_init_32 (by decide) ?_
  refine new_int (N := 120) hx hb hw3 hK.1 hP hD hS hA (by decide) rfl (Nat.le_of_ble_eq_true rfl) (Nat.le_of_ble_eq_true rfl) (Nat.le_of_ble_eq_true rfl) dX6_init_34 (fun q4 H hP hD hS => ?_)
  have hP : va_P G vwCl ([(h0, .inr (9, [.int 0, .ref q1, .ref q2, .ref q3, .int 0, .null, .int 0, .int 0, .int 0, .int 0, .int 0, .long 0])), (q1, .inl (cI, 378, .inl (fun _ => 0))), (q2, .inl (cI, 378, .inl (fun _ => 0))), (q3, .inl (cI, 1512, .inl (fun _ => 0))), (q4, .inl (cI, 120, .inl (fun _ => 0)))]) H := hP
  have hD : va_D A ([(h0, .inr (9, [.int 0, .ref q1, .ref q2, .ref q3, .int 0, .null, .int 0, .int 0, .int 0, .int 0, .int 0, .long 0])), (q1, .inl (cI, 378, .inl (fun _ => 0))), (q2, .inl (cI, 378, .inl (fun _ => 0))), (q3, .inl (cI, 1512, .inl (fun _ => 0))), (q4, .inl (cI, 120, .inl (fun _ => 0)))]) := hD
  refine va_putF (D := G) (ci := 9) (v := .ref q4) (ty := (.array .int)) (C := RX6) (T := TX6) (N := 12) hx hb hts hin6 tyX6 tyX6_ok nmX6 hown hK.1 hP hD hS 0 rfl rfl 5 (by decide) hw8 (fun _ h9 => h9) rfl hin rfl (by decide +kernel) rfl rfl (Nat.le_of_ble_eq_true rfl) dX6_init_36 (fun H locs hP hD hS => ?_)
  have hP : va_P G vwCl ([(h0, .inr (9, [.int 0, .ref q1, .ref q2, .ref q3, .int 0, .ref q4, .int 0, .int 0, .int 0, .int 0, .int 0, .long 0])), (q1, .inl (cI, 378, .inl (fun _ => 0))), (q2, .inl (cI, 378, .inl (fun _ => 0))), (q3, .inl (cI, 1512, .inl (fun _ => 0))), (q4, .inl (cI, 120, .inl (fun _ => 0)))]) H := hP
  have hD : va_D A ([(h0, .inr (9, [.int 0, .ref q1, .ref q2, .ref q3, .int 0, .ref q4, .int 0, .int 0, .int 0, .int 0, .int 0, .long 0])), (q1, .inl (cI, 378, .inl (fun _ => 0))), (q2, .inl (cI, 378, .inl (fun _ => 0))), (q3, .inl (cI, 1512, .inl (fun _ => 0))), (q4, .inl (cI, 120, .inl (fun _ => 0)))]) := hD
  refine lv_aload_n hx hb dX6_init_39 rfl (lv_at hl 0 rfl) ?_
  refine lv_iconst (v := 0) hx hb dX6_init_40 (by decide) ?_
  refine va_put (D := G) (ci := 9) (v := .int 0) (ty := .int) (C := RX6) (T := TX6) (N := 12) hx hb hts hin6 tyX6 tyX6_ok nmX6 hown hK.1 hP hD hS 0 rfl rfl 0 (by decide) hw9 (fun _ h9 => h9) rfl (by decide +kernel) rfl rfl (Nat.le_of_ble_eq_true rfl) dX6_init_41 (fun H locs hP hD hS => ?_)
  have hP : va_P G vwCl ([(h0, .inr (9, [.int 0, .ref q1, .ref q2, .ref q3, .int 0, .ref q4, .int 0, .int 0, .int 0, .int 0, .int 0, .long 0])), (q1, .inl (cI, 378, .inl (fun _ => 0))), (q2, .inl (cI, 378, .inl (fun _ => 0))), (q3, .inl (cI, 1512, .inl (fun _ => 0))), (q4, .inl (cI, 120, .inl (fun _ => 0)))]) H := hP
  have hD : va_D A ([(h0, .inr (9, [.int 0, .ref q1, .ref q2, .ref q3, .int 0, .ref q4, .int 0, .int 0, .int 0, .int 0, .int 0, .long 0])), (q1, .inl (cI, 378, .inl (fun _ => 0))), (q2, .inl (cI, 378, .inl (fun _ => 0))), (q3, .inl (cI, 1512, .inl (fun _ => 0))), (q4, .inl (cI, 120, .inl (fun _ => 0)))]) := hD
  refine lv_aload_n hx hb dX6_init_44 rfl (lv_at hl 0 rfl) ?_
  refine va_get (D := G) (ci := 9) (v := .ref q1) (C := RX6) (T := TX6) (N := 12) hx hb hts hin6 hown hK.1 hP 0 rfl rfl 1 (by decide) hw4 (fun _ h9 => h9) rfl dX6_init_45 ?_
  refine lv_iconst (v := 2) hx hb dX6_init_48 (by decide) ?_
  refine lv_bipush (v := 10) hx hb dX6_init_49 (by decide) ?_
  refine va_iast hx hb hK.1 hP hD hS 1 0 rfl rfl (show ¬ ((2 : Int32) < 0 ∨ 378 ≤ (2 : Int32).toNatClampNeg) from by decide) dX6_init_51 (fun H locs hP hD hS => ?_)
  have hP : va_P G vwCl ([(h0, .inr (9, [.int 0, .ref q1, .ref q2, .ref q3, .int 0, .ref q4, .int 0, .int 0, .int 0, .int 0, .int 0, .long 0])), (q1, .inl (cI, 378, .inl (upd (fun _ => 0) (2 : Int32).toNatClampNeg 10))), (q2, .inl (cI, 378, .inl (fun _ => 0))), (q3, .inl (cI, 1512, .inl (fun _ => 0))), (q4, .inl (cI, 120, .inl (fun _ => 0)))]) H := hP
  have hD : va_D A ([(h0, .inr (9, [.int 0, .ref q1, .ref q2, .ref q3, .int 0, .ref q4, .int 0, .int 0, .int 0, .int 0, .int 0, .long 0])), (q1, .inl (cI, 378, .inl (upd (fun _ => 0) (2 : Int32).toNatClampNeg 10))), (q2, .inl (cI, 378, .inl (fun _ => 0))), (q3, .inl (cI, 1512, .inl (fun _ => 0))), (q4, .inl (cI, 120, .inl (fun _ => 0)))]) := hD
  refine lv_aload_n hx hb dX6_init_52 rfl (lv_at hl 0 rfl) ?_
  refine va_get (D := G) (ci := 9) (v := .ref q1) (C := RX6) (T := TX6) (N := 12) hx hb hts hin6 hown hK.1 hP 0 rfl rfl 1 (by decide) hw4 (fun _ h9 => h9) rfl dX6_init_53 ?_
  refine lv_iconst (v := 4) hx hb dX6_init_56 (by decide) ?_
  refine lv_iconst (v := (-1)) hx hb dX6_init_57 (by decide) ?_
  refine va_iast hx hb hK.1 hP hD hS 1 0 rfl rfl (show ¬ ((4 : Int32) < 0 ∨ 378 ≤ (4 : Int32).toNatClampNeg) from by decide) dX6_init_58 (fun H locs hP hD hS => ?_)
  have hP : va_P G vwCl ([(h0, .inr (9, [.int 0, .ref q1, .ref q2, .ref q3, .int 0, .ref q4, .int 0, .int 0, .int 0, .int 0, .int 0, .long 0])), (q1, .inl (cI, 378, .inl (upd (upd (fun _ => 0) (2 : Int32).toNatClampNeg 10) (4 : Int32).toNatClampNeg (-1)))), (q2, .inl (cI, 378, .inl (fun _ => 0))), (q3, .inl (cI, 1512, .inl (fun _ => 0))), (q4, .inl (cI, 120, .inl (fun _ => 0)))]) H := hP
  have hD : va_D A ([(h0, .inr (9, [.int 0, .ref q1, .ref q2, .ref q3, .int 0, .ref q4, .int 0, .int 0, .int 0, .int 0, .int 0, .long 0])), (q1, .inl (cI, 378, .inl (upd (upd (fun _ => 0) (2 : Int32).toNatClampNeg 10) (4 : Int32).toNatClampNeg (-1)))), (q2, .inl (cI, 378, .inl (fun _ => 0))), (q3, .inl (cI, 1512, .inl (fun _ => 0))), (q4, .inl (cI, 120, .inl (fun _ => 0)))]) := hD
  refine lv_aload_n hx hb dX6_init_59 rfl (lv_at hl 0 rfl) ?_
  refine va_get (D := G) (ci := 9) (v := .ref q1) (C := RX6) (T := TX6) (N := 12) hx hb hts hin6 hown hK.1 hP 0 rfl rfl 1 (by decide) hw4 (fun _ h9 => h9) rfl dX6_init_60 ?_
  refine lv_bipush (v := 7) hx hb dX6_init_63 (by decide) ?_
  refine lv_iconst (v := (-1)) hx hb dX6_init_65 (by decide) ?_
  refine va_iast hx hb hK.1 hP hD hS 1 0 rfl rfl (show ¬ ((7 : Int32) < 0 ∨ 378 ≤ (7 : Int32).toNatClampNeg) from by decide) dX6_init_66 (fun H locs hP hD hS => ?_)
  have hP : va_P G vwCl ([(h0, .inr (9, [.int 0, .ref q1, .ref q2, .ref q3, .int 0, .ref q4, .int 0, .int 0, .int 0, .int 0, .int 0, .long 0])), (q1, .inl (cI, 378, .inl (upd (upd (upd (fun _ => 0) (2 : Int32).toNatClampNeg 10) (4 : Int32).toNatClampNeg (-1)) (7 : Int32).toNatClampNeg (-1)))), (q2, .inl (cI, 378, .inl (fun _ => 0))), (q3, .inl (cI, 1512, .inl (fun _ => 0))), (q4, .inl (cI, 120, .inl (fun _ => 0)))]) H := hP
  have hD : va_D A ([(h0, .inr (9, [.int 0, .ref q1, .ref q2, .ref q3, .int 0, .ref q4, .int 0, .int 0, .int 0, .int 0, .int 0, .long 0])), (q1, .inl (cI, 378, .inl (upd (upd (upd (fun _ => 0) (2 : Int32).toNatClampNeg 10) (4 : Int32).toNatClampNeg (-1)) (7 : Int32).toNatClampNeg (-1)))), (q2, .inl (cI, 378, .inl (fun _ => 0))), (q3, .inl (cI, 1512, .inl (fun _ => 0))), (q4, .inl (cI, 120, .inl (fun _ => 0)))]) := hD
  refine W.widen (k := 4) (n := 2388) (Nat.le_of_ble_eq_true rfl) (Nat.le_of_ble_eq_true rfl) ?_
  exact W.vret hx hb hr (fun t ht hW => ⟨⟨(fun i : Nat => if i = 0 then h0 else if i = 1 then q1 else if i = 2 then q2 else if i = 3 then q3 else if i = 4 then q4 else 0), rfl, rfl, by rw [ht]; exact hP, hD⟩, hS.F ht⟩) hS.2.2 dX6_init_67
