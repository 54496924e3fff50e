theorem hdX0_count : yX0_count.cls = RX0 ∧ yX0_count.cls ≠ "java/lang/invoke/MethodHandle" ∧ yX0_count.cls ≠ "java/lang/invoke/VarHandle" ∧ (parseMethodDescriptor yX0_count.desc).map (fun d => d.parameters.length) = some 0 := by decide +kernel
set_option maxHeartbeats 4000000 in
set_option maxRecDepth 100000 in
theorem cX0_count_ok (l : Launch) (G : va_G) (cI cG : ClassId) (a0 a1 a2 : Nat) (er : Tab) (eb : Int32) (out : Int32) (hf : fX0_count er = some out) : CI l G (tyz cI cG) yX0_count wsX0_count ({ frames := 1, cells := 0, slots := 0, locals := 20 } : Room) [.ref a0] [(a0, .inr (0, [.ref a1, .int eb])), (a1, .inr (4, [.int er.1, .ref a2, .int er.2.2.2])), (a2, .inl (cI, er.2.1, .inl er.2.2.1))] out [(a0, .inr (0, [.ref a1, .int eb])), (a1, .inr (4, [.int er.1, .ref a2, .int er.2.2.2])), (a2, .inl (cI, er.2.1, .inl er.2.2.1))] := by
  intro sz
  refine Met.ofW (cc := cX0_count) (maxL := 1) (ret := (some .int)) (by decide) rfl ?_
  intro p e s m args below meth c s₁ B hml hv
  obtain ⟨rfl, hsz, hP, hK, hD0⟩ := hv
  have hx := B.exec
  have hb := B.bytes
  have hr := B.returns
  have hts := atoms_spec (ws := wsX0_count) B.pre
  have hown : s.vm.findClass RX0 = some m.cls := findClass_of_methodNamed B.named
  have hlocks := B.notSynchronized
  subst hsz
  have hD := hD0.self (sz := s.heap.size)
  generalize hAe : va_A ([(a0, .inr (0, [.ref a1, .int eb])), (a1, .inr (4, [.int er.1, .ref a2, .int er.2.2.2])), (a2, .inl (cI, er.2.1, .inl er.2.2.1))]) s.heap.size = A at hD ⊢
  have hA : ∀ q : Nat, s.heap.size ≤ q → A q := fun q h => by rw [← hAe]; exact Or.inr h
  have hS : va_S A s.heap s.heap [] := va_S.rf
  have hw0 := hts (.fieldLink RX0 16 "SpeedTurns$Effects" "rows" "LSpeedTurns$Table;") (List.mem_of_getElem? (i := 1) rfl)
  show W p l e ({ frames := 1, cells := 0, slots := 0, locals := 20 } : Room) s m _ below meth c s.heap [] 0 0 _ _
  refine W_genQ (fun Q hQ => ?_)
  have h := hf
  rw [fX0_count] at h
  have hl := lv_entry ([.ref a0]) (n := 1) (Nat.le_of_ble_eq_true rfl)
  rw [lg_entry_eq]
  generalize (lg_sl ([.ref a0]) ++ List.replicate (1 - (lg_sl ([.ref a0])).length) Slot.unset).toArray = ls at hl ⊢
  have hl : lv_has ls 1 [(0, .ref a0)] := hl
  refine lv_aload_n hx hb dX0_count_0 rfl (lv_at hl 0 rfl) ?_
  refine va_get (D := G) (ci := 0) (v := .ref a1) (C := RX0) (T := TX0) (N := 2) hx hb hts huX0_count_X0 hown hK.1 hP 0 rfl rfl 0 (by decide) hw0 (fun _ h9 => h9) rfl dX0_count_1 ?_
  obtain ⟨x1, ex1, h⟩ := o_b h
  refine call_iV (As := []) (rest := []) (ws2 := [(a0, .inr (0, [.ref a1, .int eb])), (a1, .inr (4, [.int er.1, .ref a2, .int er.2.2.2])), (a2, .inl (cI, er.2.1, .inl er.2.2.1))]) ⟨hx, hb, hml, hown, hts⟩ (cX4_count_ok l G cI cG a1 a2 er x1 ex1) (cwV 0 hts gX0_count_X4_count_24 rfl rfl rfl hdX4_count ⟨Nat.le_of_ble_eq_true rfl, Nat.le_of_ble_eq_true rfl⟩) hP hD hS hA hK 4 rfl rfl rfl [1, 2] rfl rfl rfl rfl rfl rfl rfl rfl hl.1 (Nat.le_of_ble_eq_true rfl) dX0_count_4 ⟨Nat.zero_le _, Nat.zero_le _⟩ (fun H locs hP hD hS => ?_)
  obtain rfl := o_s h
  rw [hQ]
  exact end_i hx hb hr rfl hP hD hS dX0_count_7 hlocks
theorem hdX0_ended : yX0_ended.cls = RX0 ∧ yX0_ended.cls ≠ "java/lang/invoke/MethodHandle" ∧ yX0_ended.cls ≠ "java/lang/invoke/VarHandle" ∧ (parseMethodDescriptor yX0_ended.desc).map (fun d => d.parameters.length) = some 0 := by decide +kernel
set_option maxHeartbeats 4000000 in
set_option maxRecDepth 100000 in
theorem cX0_ended_ok (l : Launch) (G : va_G) (cI cG : ClassId) (a0 a1 a2 : Nat) (er : Tab) (eb : Int32) (out : Int32) (hf : fX0_ended er eb = some out) : CI l G (tyz cI cG) yX0_ended wsX0_ended ({ frames := 1, cells := 0, slots := 0, locals := 20 } : Room) [.ref a0] [(a0, .inr (0, [.ref a1, .int eb])), (a1, .inr (4, [.int er.1, .ref a2, .int er.2.2.2])), (a2, .inl (cI, er.2.1, .inl er.2.2.1))] out [(a0, .inr (0, [.ref a1, .int eb])), (a1, .inr (4, [.int er.1, .ref a2, .int er.2.2.2])), (a2, .inl (cI, er.2.1, .inl er.2.2.1))] := by
  intro sz
  refine Met.ofW (cc := cX0_ended) (maxL := 1) (ret := (some .int)) (by decide) rfl ?_
  intro p e s m args below meth c s₁ B hml hv
  obtain ⟨rfl, hsz, hP, hK, hD0⟩ := hv
  have hx := B.exec
  have hb := B.bytes
  have hr := B.returns
  have hts := atoms_spec (ws := wsX0_ended) B.pre
  have hown : s.vm.findClass RX0 = some m.cls := findClass_of_methodNamed B.named
  have hlocks := B.notSynchronized
  subst hsz
  have hD := hD0.self (sz := s.heap.size)
  generalize hAe : va_A ([(a0, .inr (0, [.ref a1, .int eb])), (a1, .inr (4, [.int er.1, .ref a2, .int er.2.2.2])), (a2, .inl (cI, er.2.1, .inl er.2.2.1))]) s.heap.size = A at hD ⊢
  have hA : ∀ q : Nat, s.heap.size ≤ q → A q := fun q h => by rw [← hAe]; exact Or.inr h
  have hS : va_S A s.heap s.heap [] := va_S.rf
  have hw0 := hts (.fieldLink RX0 20 "SpeedTurns$Effects" "born" "I") (List.mem_of_getElem? (i := 1) rfl)
  have hw1 := hts (.fieldLink RX0 16 "SpeedTurns$Effects" "rows" "LSpeedTurns$Table;") (List.mem_of_getElem? (i := 2) rfl)
  show W p l e ({ frames := 1, cells := 0, slots := 0, locals := 20 } : Room) s m _ below meth c s.heap [] 0 0 _ _
  refine W_genQ (fun Q hQ => ?_)
  have h := hf
  rw [fX0_ended] at h
  have hl := lv_entry ([.ref a0]) (n := 1) (Nat.le_of_ble_eq_true rfl)
  rw [lg_entry_eq]
  generalize (lg_sl ([.ref a0]) ++ List.replicate (1 - (lg_sl ([.ref a0])).length) Slot.unset).toArray = ls at hl ⊢
  have hl : lv_has ls 1 [(0, .ref a0)] := hl
  refine lv_aload_n hx hb dX0_ended_0 rfl (lv_at hl 0 rfl) ?_
  refine va_get (D := G) (ci := 0) (v := .int eb) (C := RX0) (T := TX0) (N := 2) hx hb hts huX0_ended_X0 hown hK.1 hP 0 rfl rfl 1 (by decide) hw0 (fun _ h9 => h9) rfl dX0_ended_1 ?_
  refine lv_aload_n hx hb dX0_ended_4 rfl (lv_at hl 0 rfl) ?_
  refine va_get (D := G) (ci := 0) (v := .ref a1) (C := RX0) (T := TX0) (N := 2) hx hb hts huX0_ended_X0 hown hK.1 hP 0 rfl rfl 0 (by decide) hw1 (fun _ h9 => h9) rfl dX0_ended_5 ?_
  obtain ⟨x1, ex1, h⟩ := o_b h
  refine call_iV (As := []) (rest := [.int eb]) (ws2 := [(a0, .inr (0, [.ref a1, .int eb])), (a1, .inr (4, [.int er.1, .ref a2, .int er.2.2.2])), (a2, .inl (cI, er.2.1, .inl er.2.2.1))]) ⟨hx, hb, hml, hown, hts⟩ (cX4_count_ok l G cI cG a1 a2 er x1 ex1) (cwV 0 hts gX0_ended_X4_count_24 rfl rfl rfl hdX4_count ⟨Nat.le_of_ble_eq_true rfl, Nat.le_of_ble_eq_true rfl⟩) hP hD hS hA hK 4 rfl rfl rfl [1, 2] rfl rfl rfl rfl rfl rfl rfl rfl hl.1 (Nat.le_of_ble_eq_true rfl) dX0_ended_8 ⟨Nat.zero_le _, Nat.zero_le _⟩ (fun H locs hP hD hS => ?_)
  refine lv_isub hx hb dX0_ended_11 ?_
  obtain rfl := o_s h
  rw [hQ]
  exact end_i hx hb hr rfl hP hD hS dX0_ended_12 hlocks
theorem hdX0_about : yX0_about.cls = RX0 ∧ yX0_about.cls ≠ "java/lang/invoke/MethodHandle" ∧ yX0_about.cls ≠ "java/lang/invoke/VarHandle" ∧ (parseMethodDescriptor yX0_about.desc).map (fun d => d.parameters.length) = some 2 := by decide +kernel
set_option maxHeartbeats 4000000 in
set_option maxRecDepth 100000 in
theorem cX0_about_ok (l : Launch) (G : va_G) (cI cG : ClassId) (a0 a1 a2 : Nat) (er : Tab) (eb : Int32) (p1 : Int32) (p2 : Int32) (out : Int32) (hf : fX0_about er p1 p2 = some out) : CI l G (tyz cI cG) yX0_about wsX0_about ({ frames := 1, cells := 0, slots := 0, locals := 23 } : Room) [.ref a0, .int p1, .int p2] [(a0, .inr (0, [.ref a1, .int eb])), (a1, .inr (4, [.int er.1, .ref a2, .int er.2.2.2])), (a2, .inl (cI, er.2.1, .inl er.2.2.1))] out [(a0, .inr (0, [.ref a1, .int eb])), (a1, .inr (4, [.int er.1, .ref a2, .int er.2.2.2])), (a2, .inl (cI, er.2.1, .inl er.2.2.1))] := by
  intro sz
  refine Met.ofW (cc := cX0_about) (maxL := 3) (ret := (some .int)) (by decide) rfl ?_
  intro p e s m args below meth c s₁ B hml hv
  obtain ⟨rfl, hsz, hP, hK, hD0⟩ := hv
  have hx := B.exec
  have hb := B.bytes
  have hr := B.returns
  have hts := atoms_spec (ws := wsX0_about) B.pre
  have hown : s.vm.findClass RX0 = some m.cls := findClass_of_methodNamed B.named
  have hlocks := B.notSynchronized
  subst hsz
  have hD := hD0.self (sz := s.heap.size)
  generalize hAe : va_A ([(a0, .inr (0, [.ref a1, .int eb])), (a1, .inr (4, [.int er.1, .ref a2, .int er.2.2.2])), (a2, .inl (cI, er.2.1, .inl er.2.2.1))]) s.heap.size = A at hD ⊢
  have hA : ∀ q : Nat, s.heap.size ≤ q → A q := fun q h => by rw [← hAe]; exact Or.inr h
  have hS : va_S A s.heap s.heap [] := va_S.rf
  have hw0 := hts (.fieldLink RX0 16 "SpeedTurns$Effects" "rows" "LSpeedTurns$Table;") (List.mem_of_getElem? (i := 1) rfl)
  show W p l e ({ frames := 1, cells := 0, slots := 0, locals := 23 } : Room) s m _ below meth c s.heap [] 0 0 _ _
  refine W_genQ (fun Q hQ => ?_)
  have h := hf
  rw [fX0_about] at h
  have hl := lv_entry ([.ref a0, .int p1, .int p2]) (n := 3) (Nat.le_of_ble_eq_true rfl)
  rw [lg_entry_eq]
  generalize (lg_sl ([.ref a0, .int p1, .int p2]) ++ List.replicate (3 - (lg_sl ([.ref a0, .int p1, .int p2])).length) Slot.unset).toArray = ls at hl ⊢
  have hl : lv_has ls 3 [(0, .ref a0), (1, .int p1), (2, .int p2)] := hl
  refine lv_aload_n hx hb dX0_about_0 rfl (lv_at hl 0 rfl) ?_
  refine va_get (D := G) (ci := 0) (v := .ref a1) (C := RX0) (T := TX0) (N := 2) hx hb hts huX0_about_X0 hown hK.1 hP 0 rfl rfl 0 (by decide) hw0 (fun _ h9 => h9) rfl dX0_about_1 ?_
  refine lv_iload_n hx hb dX0_about_4 rfl (lv_at hl 1 rfl) ?_
  refine lv_iload_n hx hb dX0_about_5 rfl (lv_at hl 2 rfl) ?_
  obtain ⟨x1, ex1, h⟩ := o_b h
  refine call_iV (As := [.int p1, .int p2]) (rest := []) (ws2 := [(a0, .inr (0, [.ref a1, .int eb])), (a1, .inr (4, [.int er.1, .ref a2, .int er.2.2.2])), (a2, .inl (cI, er.2.1, .inl er.2.2.1))]) ⟨hx, hb, hml, hown, hts⟩ (cX4_at_ok l G cI cG a1 a2 er p1 p2 x1 ex1) (cwV 2 hts gX0_about_X4_at_28 rfl rfl rfl hdX4_at ⟨Nat.le_of_ble_eq_true rfl, Nat.le_of_ble_eq_true rfl⟩) hP hD hS hA hK 4 rfl rfl rfl [1, 2] rfl rfl rfl rfl rfl rfl rfl rfl hl.1 (Nat.le_of_ble_eq_true rfl) dX0_about_6 ⟨Nat.zero_le _, Nat.zero_le _⟩ (fun H locs hP hD hS => ?_)
  obtain rfl := o_s h
  rw [hQ]
  exact end_i hx hb hr rfl hP hD hS dX0_about_9 hlocks
theorem hdX0_birthOf : yX0_birthOf.cls = RX0 ∧ yX0_birthOf.cls ≠ "java/lang/invoke/MethodHandle" ∧ yX0_birthOf.cls ≠ "java/lang/invoke/VarHandle" ∧ (parseMethodDescriptor yX0_birthOf.desc).map (fun d => d.parameters.length) = some 1 := by decide +kernel
set_option maxHeartbeats 4000000 in
set_option maxRecDepth 100000 in
theorem cX0_birthOf_ok (l : Launch) (G : va_G) (cI cG : ClassId) (a0 a1 a2 : Nat) (er : Tab) (eb : Int32) (p1 : Int32) (out : Int32) (hf : fX0_birthOf er p1 = some out) : CI l G (tyz cI cG) yX0_birthOf wsX0_birthOf ({ frames := 1, cells := 0, slots := 0, locals := 23 } : Room) [.ref a0, .int p1] [(a0, .inr (0, [.ref a1, .int eb])), (a1, .inr (4, [.int er.1, .ref a2, .int er.2.2.2])), (a2, .inl (cI, er.2.1, .inl er.2.2.1))] out [(a0, .inr (0, [.ref a1, .int eb])), (a1, .inr (4, [.int er.1, .ref a2, .int er.2.2.2])), (a2, .inl (cI, er.2.1, .inl er.2.2.1))] := by
  intro sz
  refine Met.ofW (cc := cX0_birthOf) (maxL := 2) (ret := (some .int)) (by decide) rfl ?_
  intro p e s m args below meth c s₁ B hml hv
  obtain ⟨rfl, hsz, hP, hK, hD0⟩ := hv
  have hx := B.exec
  have hb := B.bytes
  have hr := B.returns
  have hts := atoms_spec (ws := wsX0_birthOf) B.pre
  have hown : s.vm.findClass RX0 = some m.cls := findClass_of_methodNamed B.named
  have hlocks := B.notSynchronized
  subst hsz
  have hD := hD0.self (sz := s.heap.size)
  generalize hAe : va_A ([(a0, .inr (0, [.ref a1, .int eb])), (a1, .inr (4, [.int er.1, .ref a2, .int er.2.2.2])), (a2, .inl (cI, er.2.1, .inl er.2.2.1))]) s.heap.size = A at hD ⊢
  have hA : ∀ q : Nat, s.heap.size ≤ q → A q := fun q h => by rw [← hAe]; exact Or.inr h
  have hS : va_S A s.heap s.heap [] := va_S.rf
  have hw0 := hts (.fieldLink RX0 16 "SpeedTurns$Effects" "rows" "LSpeedTurns$Table;") (List.mem_of_getElem? (i := 1) rfl)
  show W p l e ({ frames := 1, cells := 0, slots := 0, locals := 23 } : Room) s m _ below meth c s.heap [] 0 0 _ _
  refine W_genQ (fun Q hQ => ?_)
  have h := hf
  rw [fX0_birthOf] at h
  have hl := lv_entry ([.ref a0, .int p1]) (n := 2) (Nat.le_of_ble_eq_true rfl)
  rw [lg_entry_eq]
  generalize (lg_sl ([.ref a0, .int p1]) ++ List.replicate (2 - (lg_sl ([.ref a0, .int p1])).length) Slot.unset).toArray = ls at hl ⊢
  have hl : lv_has ls 2 [(0, .ref a0), (1, .int p1)] := hl
  refine lv_aload_n hx hb dX0_birthOf_0 rfl (lv_at hl 0 rfl) ?_
  refine va_get (D := G) (ci := 0) (v := .ref a1) (C := RX0) (T := TX0) (N := 2) hx hb hts huX0_birthOf_X0 hown hK.1 hP 0 rfl rfl 0 (by decide) hw0 (fun _ h9 => h9) rfl dX0_birthOf_1 ?_
  refine lv_iload_n hx hb dX0_birthOf_4 rfl (lv_at hl 1 rfl) ?_
  refine lv_bipush (v := 7) hx hb dX0_birthOf_5 (by decide) ?_
  obtain ⟨x1, ex1, h⟩ := o_b h
  refine call_iV (As := [.int p1, .int (7 : Int32)]) (rest := []) (ws2 := [(a0, .inr (0, [.ref a1, .int eb])), (a1, .inr (4, [.int er.1, .ref a2, .int er.2.2.2])), (a2, .inl (cI, er.2.1, .inl er.2.2.1))]) ⟨hx, hb, hml, hown, hts⟩ (cX4_at_ok l G cI cG a1 a2 er p1 (7 : Int32) x1 ex1) (cwV 2 hts gX0_birthOf_X4_at_28 rfl rfl rfl hdX4_at ⟨Nat.le_of_ble_eq_true rfl, Nat.le_of_ble_eq_true rfl⟩) hP hD hS hA hK 4 rfl rfl rfl [1, 2] rfl rfl rfl rfl rfl rfl rfl rfl hl.1 (Nat.le_of_ble_eq_true rfl) dX0_birthOf_7 ⟨Nat.zero_le _, Nat.zero_le _⟩ (fun H locs hP hD hS => ?_)
  obtain rfl := o_s h
  rw [hQ]
  exact end_i hx hb hr rfl hP hD hS dX0_birthOf_10 hlocks
theorem hdX0_isThere : yX0_isThere.cls = RX0 ∧ yX0_isThere.cls ≠ "java/lang/invoke/MethodHandle" ∧ yX0_isThere.cls ≠ "java/lang/invoke/VarHandle" ∧ (parseMethodDescriptor yX0_isThere.desc).map (fun d => d.parameters.length) = some 1 := by decide +kernel
set_option maxHeartbeats 4000000 in
set_option maxRecDepth 100000 in
theorem cX0_isThere_ok (l : Launch) (G : va_G) (cI cG : ClassId) (a0 a1 a2 : Nat) (fu : Nat) (er : Tab) (eb : Int32) (p1 : Int32) (out : Bool) (hf : fX0_isThere fu er p1 = some out) : CI l G (tyz cI cG) yX0_isThere wsX0_isThere ({ frames := 1, cells := 0, slots := 0, locals := 23 } : Room) [.ref a0, .int p1] [(a0, .inr (0, [.ref a1, .int eb])), (a1, .inr (4, [.int er.1, .ref a2, .int er.2.2.2])), (a2, .inl (cI, er.2.1, .inl er.2.2.1))] (bI out) [(a0, .inr (0, [.ref a1, .int eb])), (a1, .inr (4, [.int er.1, .ref a2, .int er.2.2.2])), (a2, .inl (cI, er.2.1, .inl er.2.2.1))] := by
  intro sz
  refine Met.ofW (cc := cX0_isThere) (maxL := 3) (ret := (some .boolean)) (by decide) rfl ?_
  intro p e s m args below meth c s₁ B hml hv
  obtain ⟨rfl, hsz, hP, hK, hD0⟩ := hv
  have hx := B.exec
  have hb := B.bytes
  have hr := B.returns
  have hts := atoms_spec (ws := wsX0_isThere) B.pre
  have hown : s.vm.findClass RX0 = some m.cls := findClass_of_methodNamed B.named
  have hlocks := B.notSynchronized
  subst hsz
  have hD := hD0.self (sz := s.heap.size)
  generalize hAe : va_A ([(a0, .inr (0, [.ref a1, .int eb])), (a1, .inr (4, [.int er.1, .ref a2, .int er.2.2.2])), (a2, .inl (cI, er.2.1, .inl er.2.2.1))]) s.heap.size = A at hD ⊢
  have hA : ∀ q : Nat, s.heap.size ≤ q → A q := fun q h => by rw [← hAe]; exact Or.inr h
  have hS : va_S A s.heap s.heap [] := va_S.rf
  have hw0 := hts (.fieldLink RX0 16 "SpeedTurns$Effects" "rows" "LSpeedTurns$Table;") (List.mem_of_getElem? (i := 1) rfl)
  show W p l e ({ frames := 1, cells := 0, slots := 0, locals := 23 } : Room) s m _ below meth c s.heap [] 0 0 _ _
  refine W_genQ (fun Q hQ => ?_)
  have L2 : ∀  (k : Nat) (v2 : Int32) (H : Heap) (locs : List Loc) (ls : Array Slot), fX0_isThere_L2 fu er p1 k v2 = some out → va_P G vwCl ([(a0, .inr (0, [.ref a1, .int eb])), (a1, .inr (4, [.int er.1, .ref a2, .int er.2.2.2])), (a2, .inl (cI, er.2.1, .inl er.2.2.1))]) H → va_D A ([(a0, .inr (0, [.ref a1, .int eb])), (a1, .inr (4, [.int er.1, .ref a2, .int er.2.2.2])), (a2, .inl (cI, er.2.1, .inl er.2.2.1))]) → va_S A s.heap H locs → lv_has ls 3 [(0, .ref a0), (1, .int p1), (2, .int v2)] → W p l e ({ frames := 1, cells := 0, slots := 0, locals := 23 } : Room) s m ([.ref a0, .int p1] : List Value).toArray below meth c H locs 0 0 Q (F0 m 2 ls []) := by
    intro  k
    induction k with
    | zero => intro v2 H locs ls h hP hD hS hl; rw [fX0_isThere_L2] at h; exact o_n h
    | succ k ih =>
      intro v2 H locs ls h hP hD hS hl
      rw [fX0_isThere_L2] at h
      refine lv_iload_n hx hb dX0_isThere_2 rfl (lv_at hl 2 rfl) ?_
      refine lv_aload_n hx hb dX0_isThere_3 rfl (lv_at hl 0 rfl) ?_
      refine va_get (D := G) (ci := 0) (v := .ref a1) (C := RX0) (T := TX0) (N := 2) hx hb hts huX0_isThere_X0 hown hK.1 hP 0 rfl rfl 0 (by decide) hw0 (fun _ h9 => h9) rfl dX0_isThere_4 ?_
      obtain ⟨x1, ex1, h⟩ := o_b h
      refine call_iV (As := []) (rest := [.int v2]) (ws2 := [(a0, .inr (0, [.ref a1, .int eb])), (a1, .inr (4, [.int er.1, .ref a2, .int er.2.2.2])), (a2, .inl (cI, er.2.1, .inl er.2.2.1))]) ⟨hx, hb, hml, hown, hts⟩ (cX4_count_ok l G cI cG a1 a2 er x1 ex1) (cwV 0 hts gX0_isThere_X4_count_24 rfl rfl rfl hdX4_count ⟨Nat.le_of_ble_eq_true rfl, Nat.le_of_ble_eq_true rfl⟩) hP hD hS hA hK 4 rfl rfl rfl [1, 2] rfl rfl rfl rfl rfl rfl rfl rfl hl.1 (Nat.le_of_ble_eq_true rfl) dX0_isThere_7 ⟨Nat.zero_le _, Nat.zero_le _⟩ (fun H locs hP hD hS => ?_)
      refine lv_icmp_ge (tgt := 35) hx hb dX0_isThere_10 (by decide) (fun hc => ?_) (fun hc => ?_)
      · have h := o_t h hc
        refine lv_iconst (v := 0) hx hb dX0_isThere_35 (by decide) ?_
        obtain rfl := o_s h
        rw [hQ]
        exact end_z hx hb hr rfl rfl hP hD hS dX0_isThere_36 hlocks
      · have h := o_f h hc
        refine lv_aload_n hx hb dX0_isThere_13 rfl (lv_at hl 0 rfl) ?_
        refine va_get (D := G) (ci := 0) (v := .ref a1) (C := RX0) (T := TX0) (N := 2) hx hb hts huX0_isThere_X0 hown hK.1 hP 0 rfl rfl 0 (by decide) hw0 (fun _ h9 => h9) rfl dX0_isThere_14 ?_
        refine lv_iload_n hx hb dX0_isThere_17 rfl (lv_at hl 2 rfl) ?_
        refine lv_bipush (v := 7) hx hb dX0_isThere_18 (by decide) ?_
        obtain ⟨x2, ex2, h⟩ := o_b h
        refine call_iV (As := [.int v2, .int (7 : Int32)]) (rest := []) (ws2 := [(a0, .inr (0, [.ref a1, .int eb])), (a1, .inr (4, [.int er.1, .ref a2, .int er.2.2.2])), (a2, .inl (cI, er.2.1, .inl er.2.2.1))]) ⟨hx, hb, hml, hown, hts⟩ (cX4_at_ok l G cI cG a1 a2 er v2 (7 : Int32) x2 ex2) (cwV 2 hts gX0_isThere_X4_at_28 rfl rfl rfl hdX4_at ⟨Nat.le_of_ble_eq_true rfl, Nat.le_of_ble_eq_true rfl⟩) hP hD hS hA hK 4 rfl rfl rfl [1, 2] rfl rfl rfl rfl rfl rfl rfl rfl hl.1 (Nat.le_of_ble_eq_true rfl) dX0_isThere_20 ⟨Nat.zero_le _, Nat.zero_le _⟩ (fun H locs hP hD hS => ?_)
        refine lv_iload_n hx hb dX0_isThere_23 rfl (lv_at hl 1 rfl) ?_
        refine lv_icmp_ne (tgt := 29) hx hb dX0_isThere_24 (by decide) (fun hc => ?_) (fun hc => ?_)
        · have h := o_f h hc
          refine lv_iinc (v := (v2 + 1)) (lv' := [(2, .int (v2 + 1)), (0, .ref a0), (1, .int p1)]) hx hb dX0_isThere_29 hl (k := 2) rfl rfl (by decide) rfl (fun ls hl => ?_)
          refine lv_goto (tgt := 2) hx hb dX0_isThere_32 (by decide) ?_
          exact ih (v2 + 1) _ _ _ h hP hD hS (lv_sub hl [1, 2, 0] rfl)
        · have h := o_t h hc
          refine lv_iconst (v := 1) hx hb dX0_isThere_27 (by decide) ?_
          obtain rfl := o_s h
          rw [hQ]
          exact end_z hx hb hr rfl rfl hP hD hS dX0_isThere_28 hlocks
  have h := hf
  rw [fX0_isThere] at h
  have hl := lv_entry ([.ref a0, .int p1]) (n := 3) (Nat.le_of_ble_eq_true rfl)
  rw [lg_entry_eq]
  generalize (lg_sl ([.ref a0, .int p1]) ++ List.replicate (3 - (lg_sl ([.ref a0, .int p1])).length) Slot.unset).toArray = ls at hl ⊢
  have hl : lv_has ls 3 [(0, .ref a0), (1, .int p1)] := hl
  refine lv_iconst (v := 0) hx hb dX0_isThere_0 (by decide) ?_
  refine lv_istore_n (lv' := [(2, .int (0 : Int32)), (0, .ref a0), (1, .int p1)]) hx hb dX0_isThere_1 rfl hl (by decide) rfl (fun ls hl => ?_)
  exact L2 fu (0 : Int32) _ _ _ h hP hD hS (lv_sub hl [1, 2, 0] rfl)
theorem hdX0_heldBy : yX0_heldBy.cls = RX0 ∧ yX0_heldBy.cls ≠ "java/lang/invoke/MethodHandle" ∧ yX0_heldBy.cls ≠ "java/lang/invoke/VarHandle" ∧ (parseMethodDescriptor yX0_heldBy.desc).map (fun d => d.parameters.length) = some 1 := by decide +kernel
set_option maxHeartbeats 4000000 in
set_option maxRecDepth 100000 in
theorem cX0_heldBy_ok (l : Launch) (G : va_G) (cI cG : ClassId) (a0 a1 a2 : Nat) (fu : Nat) (er : Tab) (eb : Int32) (p1 : Int32) (out : Int32) (hf : fX0_heldBy fu er p1 = some out) : CI l G (tyz cI cG) yX0_heldBy wsX0_heldBy ({ frames := 1, cells := 0, slots := 0, locals := 23 } : Room) [.ref a0, .int p1] [(a0, .inr (0, [.ref a1, .int eb])), (a1, .inr (4, [.int er.1, .ref a2, .int er.2.2.2])), (a2, .inl (cI, er.2.1, .inl er.2.2.1))] out [(a0, .inr (0, [.ref a1, .int eb])), (a1, .inr (4, [.int er.1, .ref a2, .int er.2.2.2])), (a2, .inl (cI, er.2.1, .inl er.2.2.1))] := by
  intro sz
  refine Met.ofW (cc := cX0_heldBy) (maxL := 3) (ret := (some .int)) (by decide) rfl ?_
  intro p e s m args below meth c s₁ B hml hv
  obtain ⟨rfl, hsz, hP, hK, hD0⟩ := hv
  have hx := B.exec
  have hb := B.bytes
  have hr := B.returns
  have hts := atoms_spec (ws := wsX0_heldBy) B.pre
  have hown : s.vm.findClass RX0 = some m.cls := findClass_of_methodNamed B.named
  have hlocks := B.notSynchronized
  subst hsz
  have hD := hD0.self (sz := s.heap.size)
  generalize hAe : va_A ([(a0, .inr (0, [.ref a1, .int eb])), (a1, .inr (4, [.int er.1, .ref a2, .int er.2.2.2])), (a2, .inl (cI, er.2.1, .inl er.2.2.1))]) s.heap.size = A at hD ⊢
  have hA : ∀ q : Nat, s.heap.size ≤ q → A q := fun q h => by rw [← hAe]; exact Or.inr h
  have hS : va_S A s.heap s.heap [] := va_S.rf
  have hw0 := hts (.fieldLink RX0 16 "SpeedTurns$Effects" "rows" "LSpeedTurns$Table;") (List.mem_of_getElem? (i := 1) rfl)
  show W p l e ({ frames := 1, cells := 0, slots := 0, locals := 23 } : Room) s m _ below meth c s.heap [] 0 0 _ _
  refine W_genQ (fun Q hQ => ?_)
  have L2 : ∀  (k : Nat) (v2 : Int32) (H : Heap) (locs : List Loc) (ls : Array Slot), fX0_heldBy_L2 fu er p1 k v2 = some out → va_P G vwCl ([(a0, .inr (0, [.ref a1, .int eb])), (a1, .inr (4, [.int er.1, .ref a2, .int er.2.2.2])), (a2, .inl (cI, er.2.1, .inl er.2.2.1))]) H → va_D A ([(a0, .inr (0, [.ref a1, .int eb])), (a1, .inr (4, [.int er.1, .ref a2, .int er.2.2.2])), (a2, .inl (cI, er.2.1, .inl er.2.2.1))]) → va_S A s.heap H locs → lv_has ls 3 [(0, .ref a0), (1, .int p1), (2, .int v2)] → W p l e ({ frames := 1, cells := 0, slots := 0, locals := 23 } : Room) s m ([.ref a0, .int p1] : List Value).toArray below meth c H locs 0 0 Q (F0 m 2 ls []) := by
    intro  k
    induction k with
    | zero => intro v2 H locs ls h hP hD hS hl; rw [fX0_heldBy_L2] at h; exact o_n h
    | succ k ih =>
      intro v2 H locs ls h hP hD hS hl
      rw [fX0_heldBy_L2] at h
      refine lv_iload_n hx hb dX0_heldBy_2 rfl (lv_at hl 2 rfl) ?_
      refine lv_aload_n hx hb dX0_heldBy_3 rfl (lv_at hl 0 rfl) ?_
      refine va_get (D := G) (ci := 0) (v := .ref a1) (C := RX0) (T := TX0) (N := 2) hx hb hts huX0_heldBy_X0 hown hK.1 hP 0 rfl rfl 0 (by decide) hw0 (fun _ h9 => h9) rfl dX0_heldBy_4 ?_
      obtain ⟨x1, ex1, h⟩ := o_b h
      refine call_iV (As := []) (rest := [.int v2]) (ws2 := [(a0, .inr (0, [.ref a1, .int eb])), (a1, .inr (4, [.int er.1, .ref a2, .int er.2.2.2])), (a2, .inl (cI, er.2.1, .inl er.2.2.1))]) ⟨hx, hb, hml, hown, hts⟩ (cX4_count_ok l G cI cG a1 a2 er x1 ex1) (cwV 0 hts gX0_heldBy_X4_count_24 rfl rfl rfl hdX4_count ⟨Nat.le_of_ble_eq_true rfl, Nat.le_of_ble_eq_true rfl⟩) hP hD hS hA hK 4 rfl rfl rfl [1, 2] rfl rfl rfl rfl rfl rfl rfl rfl hl.1 (Nat.le_of_ble_eq_true rfl) dX0_heldBy_7 ⟨Nat.zero_le _, Nat.zero_le _⟩ (fun H locs hP hD hS => ?_)
      refine lv_icmp_ge (tgt := 48) hx hb dX0_heldBy_10 (by decide) (fun hc => ?_) (fun hc => ?_)
      · have h := o_t h hc
        refine lv_iconst (v := (-1)) hx hb dX0_heldBy_48 (by decide) ?_
        obtain rfl := o_s h
        rw [hQ]
        exact end_i hx hb hr rfl hP hD hS dX0_heldBy_49 hlocks
      · have h := o_f h hc
        refine lv_aload_n hx hb dX0_heldBy_13 rfl (lv_at hl 0 rfl) ?_
        refine va_get (D := G) (ci := 0) (v := .ref a1) (C := RX0) (T := TX0) (N := 2) hx hb hts huX0_heldBy_X0 hown hK.1 hP 0 rfl rfl 0 (by decide) hw0 (fun _ h9 => h9) rfl dX0_heldBy_14 ?_
        refine lv_iload_n hx hb dX0_heldBy_17 rfl (lv_at hl 2 rfl) ?_
        refine lv_bipush (v := 6) hx hb dX0_heldBy_18 (by decide) ?_
        obtain ⟨x2, ex2, h⟩ := o_b h
        refine call_iV (As := [.int v2, .int (6 : Int32)]) (rest := []) (ws2 := [(a0, .inr (0, [.ref a1, .int eb])), (a1, .inr (4, [.int er.1, .ref a2, .int er.2.2.2])), (a2, .inl (cI, er.2.1, .inl er.2.2.1))]) ⟨hx, hb, hml, hown, hts⟩ (cX4_at_ok l G cI cG a1 a2 er v2 (6 : Int32) x2 ex2) (cwV 2 hts gX0_heldBy_X4_at_28 rfl rfl rfl hdX4_at ⟨Nat.le_of_ble_eq_true rfl, Nat.le_of_ble_eq_true rfl⟩) hP hD hS hA hK 4 rfl rfl rfl [1, 2] rfl rfl rfl rfl rfl rfl rfl rfl hl.1 (Nat.le_of_ble_eq_true rfl) dX0_heldBy_20 ⟨Nat.zero_le _, Nat.zero_le _⟩ (fun H locs hP hD hS => ?_)
        refine lv_iconst (v := 1) hx hb dX0_heldBy_23 (by decide) ?_
        refine lv_icmp_ne (tgt := 42) hx hb dX0_heldBy_24 (by decide) (fun hc => ?_) (fun hc => ?_)
        · have h := o_f h hc
          refine lv_iinc (v := (v2 + 1)) (lv' := [(2, .int (v2 + 1)), (0, .ref a0), (1, .int p1)]) hx hb dX0_heldBy_42 hl (k := 2) rfl rfl (by decide) rfl (fun ls hl => ?_)
          refine lv_goto (tgt := 2) hx hb dX0_heldBy_45 (by decide) ?_
          exact ih (v2 + 1) _ _ _ h hP hD hS (lv_sub hl [1, 2, 0] rfl)
        · have h := o_t h hc
          refine lv_aload_n hx hb dX0_heldBy_27 rfl (lv_at hl 0 rfl) ?_
          refine va_get (D := G) (ci := 0) (v := .ref a1) (C := RX0) (T := TX0) (N := 2) hx hb hts huX0_heldBy_X0 hown hK.1 hP 0 rfl rfl 0 (by decide) hw0 (fun _ h9 => h9) rfl dX0_heldBy_28 ?_
          refine lv_iload_n hx hb dX0_heldBy_31 rfl (lv_at hl 2 rfl) ?_
          refine lv_iconst (v := 2) hx hb dX0_heldBy_32 (by decide) ?_
          obtain ⟨x3, ex3, h⟩ := o_b h
          refine call_iV (As := [.int v2, .int (2 : Int32)]) (rest := []) (ws2 := [(a0, .inr (0, [.ref a1, .int eb])), (a1, .inr (4, [.int er.1, .ref a2, .int er.2.2.2])), (a2, .inl (cI, er.2.1, .inl er.2.2.1))]) ⟨hx, hb, hml, hown, hts⟩ (cX4_at_ok l G cI cG a1 a2 er v2 (2 : Int32) x3 ex3) (cwV 2 hts gX0_heldBy_X4_at_28 rfl rfl rfl hdX4_at ⟨Nat.le_of_ble_eq_true rfl, Nat.le_of_ble_eq_true rfl⟩) hP hD hS hA hK 4 rfl rfl rfl [1, 2] rfl rfl rfl rfl rfl rfl rfl rfl hl.1 (Nat.le_of_ble_eq_true rfl) dX0_heldBy_33 ⟨Nat.zero_le _, Nat.zero_le _⟩ (fun H locs hP hD hS => ?_)
          refine lv_iload_n hx hb dX0_heldBy_36 rfl (lv_at hl 1 rfl) ?_
          refine lv_icmp_ne (tgt := 42) hx hb dX0_heldBy_37 (by decide) (fun hc => ?_) (fun hc => ?_)
          · have h := o_f h hc
            refine lv_iinc (v := (v2 + 1)) (lv' := [(2, .int (v2 + 1)), (0, .ref a0), (1, .int p1)]) hx hb dX0_heldBy_42 hl (k := 2) rfl rfl (by decide) rfl (fun ls hl => ?_)
            refine lv_goto (tgt := 2) hx hb dX0_heldBy_45 (by decide) ?_
            exact ih (v2 + 1) _ _ _ h hP hD hS (lv_sub hl [1, 2, 0] rfl)
          · have h := o_t h hc
            refine lv_iload_n hx hb dX0_heldBy_40 rfl (lv_at hl 2 rfl) ?_
            obtain rfl := o_s h
            rw [hQ]
            exact end_i hx hb hr rfl hP hD hS dX0_heldBy_41 hlocks
  have h := hf
  rw [fX0_heldBy] at h
  have hl := lv_entry ([.ref a0, .int p1]) (n := 3) (Nat.le_of_ble_eq_true rfl)
  rw [lg_entry_eq]
  generalize (lg_sl ([.ref a0, .int p1]) ++ List.replicate (3 - (lg_sl ([.ref a0, .int p1])).length) Slot.unset).toArray = ls at hl ⊢
  have hl : lv_has ls 3 [(0, .ref a0), (1, .int p1)] := hl
  refine lv_iconst (v := 0) hx hb dX0_heldBy_0 (by decide) ?_
  refine lv_istore_n (lv' := [(2, .int (0 : Int32)), (0, .ref a0), (1, .int p1)]) hx hb dX0_heldBy_1 rfl hl (by decide) rfl (fun ls hl => ?_)
  exact L2 fu (0 : Int32) _ _ _ h hP hD hS (lv_sub hl [1, 2, 0] rfl)
theorem hdX0_countOn : yX0_countOn.cls = RX0 ∧ yX0_countOn.cls ≠ "java/lang/invoke/MethodHandle" ∧ yX0_countOn.cls ≠ "java/lang/invoke/VarHandle" ∧ (parseMethodDescriptor yX0_countOn.desc).map (fun d => d.parameters.length) = some 1 := by decide +kernel
set_option maxHeartbeats 4000000 in
set_option maxRecDepth 100000 in
theorem cX0_countOn_ok (l : Launch) (G : va_G) (cI cG : ClassId) (a0 a1 a2 : Nat) (fu : Nat) (er : Tab) (eb : Int32) (p1 : Int32) (out : Int32) (hf : fX0_countOn fu er p1 = some out) : CI l G (tyz cI cG) yX0_countOn wsX0_countOn ({ frames := 1, cells := 0, slots := 0, locals := 23 } : Room) [.ref a0, .int p1] [(a0, .inr (0, [.ref a1, .int eb])), (a1, .inr (4, [.int er.1, .ref a2, .int er.2.2.2])), (a2, .inl (cI, er.2.1, .inl er.2.2.1))] out [(a0, .inr (0, [.ref a1, .int eb])), (a1, .inr (4, [.int er.1, .ref a2, .int er.2.2.2])), (a2, .inl (cI, er.2.1, .inl er.2.2.1))] := by
  intro sz
  refine Met.ofW (cc := cX0_countOn) (maxL := 4) (ret := (some .int)) (by decide) rfl ?_
  intro p e s m args below meth c s₁ B hml hv
  obtain ⟨rfl, hsz, hP, hK, hD0⟩ := hv
  have hx := B.exec
  have hb := B.bytes
  have hr := B.returns
  have hts := atoms_spec (ws := wsX0_countOn) B.pre
  have hown : s.vm.findClass RX0 = some m.cls := findClass_of_methodNamed B.named
  have hlocks := B.notSynchronized
  subst hsz
  have hD := hD0.self (sz := s.heap.size)
  generalize hAe : va_A ([(a0, .inr (0, [.ref a1, .int eb])), (a1, .inr (4, [.int er.1, .ref a2, .int er.2.2.2])), (a2, .inl (cI, er.2.1, .inl er.2.2.1))]) s.heap.size = A at hD ⊢
  have hA : ∀ q : Nat, s.heap.size ≤ q → A q := fun q h => by rw [← hAe]; exact Or.inr h
  have hS : va_S A s.heap s.heap [] := va_S.rf
  have hw0 := hts (.fieldLink RX0 16 "SpeedTurns$Effects" "rows" "LSpeedTurns$Table;") (List.mem_of_getElem? (i := 1) rfl)
  show W p l e ({ frames := 1, cells := 0, slots := 0, locals := 23 } : Room) s m _ below meth c s.heap [] 0 0 _ _
  refine W_genQ (fun Q hQ => ?_)
  have L4 : ∀  (k : Nat) (v2 : Int32) (v3 : Int32) (H : Heap) (locs : List Loc) (ls : Array Slot), fX0_countOn_L4 fu er p1 k v2 v3 = some out → va_P G vwCl ([(a0, .inr (0, [.ref a1, .int eb])), (a1, .inr (4, [.int er.1, .ref a2, .int er.2.2.2])), (a2, .inl (cI, er.2.1, .inl er.2.2.1))]) H → va_D A ([(a0, .inr (0, [.ref a1, .int eb])), (a1, .inr (4, [.int er.1, .ref a2, .int er.2.2.2])), (a2, .inl (cI, er.2.1, .inl er.2.2.1))]) → va_S A s.heap H locs → lv_has ls 4 [(0, .ref a0), (1, .int p1), (2, .int v2), (3, .int v3)] → W p l e ({ frames := 1, cells := 0, slots := 0, locals := 23 } : Room) s m ([.ref a0, .int p1] : List Value).toArray below meth c H locs 0 0 Q (F0 m 4 ls []) := by
    intro  k
    induction k with
    | zero => intro v2 v3 H locs ls h hP hD hS hl; rw [fX0_countOn_L4] at h; exact o_n h
    | succ k ih =>
      intro v2 v3 H locs ls h hP hD hS hl
      rw [fX0_countOn_L4] at h
      refine lv_iload_n hx hb dX0_countOn_4 rfl (lv_at hl 3 rfl) ?_
      refine lv_aload_n hx hb dX0_countOn_5 rfl (lv_at hl 0 rfl) ?_
      refine va_get (D := G) (ci := 0) (v := .ref a1) (C := RX0) (T := TX0) (N := 2) hx hb hts huX0_countOn_X0 hown hK.1 hP 0 rfl rfl 0 (by decide) hw0 (fun _ h9 => h9) rfl dX0_countOn_6 ?_
      obtain ⟨x1, ex1, h⟩ := o_b h
      refine call_iV (As := []) (rest := [.int v3]) (ws2 := [(a0, .inr (0, [.ref a1, .int eb])), (a1, .inr (4, [.int er.1, .ref a2, .int er.2.2.2])), (a2, .inl (cI, er.2.1, .inl er.2.2.1))]) ⟨hx, hb, hml, hown, hts⟩ (cX4_count_ok l G cI cG a1 a2 er x1 ex1) (cwV 0 hts gX0_countOn_X4_count_24 rfl rfl rfl hdX4_count ⟨Nat.le_of_ble_eq_true rfl, Nat.le_of_ble_eq_true rfl⟩) hP hD hS hA hK 4 rfl rfl rfl [1, 2] rfl rfl rfl rfl rfl rfl rfl rfl hl.1 (Nat.le_of_ble_eq_true rfl) dX0_countOn_9 ⟨Nat.zero_le _, Nat.zero_le _⟩ (fun H locs hP hD hS => ?_)
      refine lv_icmp_ge (tgt := 37) hx hb dX0_countOn_12 (by decide) (fun hc => ?_) (fun hc => ?_)
      · have h := o_t h hc
        refine lv_iload_n hx hb dX0_countOn_37 rfl (lv_at hl 2 rfl) ?_
        obtain rfl := o_s h
        rw [hQ]
        exact end_i hx hb hr rfl hP hD hS dX0_countOn_38 hlocks
      · have h := o_f h hc
        refine lv_aload_n hx hb dX0_countOn_15 rfl (lv_at hl 0 rfl) ?_
        refine va_get (D := G) (ci := 0) (v := .ref a1) (C := RX0) (T := TX0) (N := 2) hx hb hts huX0_countOn_X0 hown hK.1 hP 0 rfl rfl 0 (by decide) hw0 (fun _ h9 => h9) rfl dX0_countOn_16 ?_
        refine lv_iload_n hx hb dX0_countOn_19 rfl (lv_at hl 3 rfl) ?_
        refine lv_iconst (v := 3) hx hb dX0_countOn_20 (by decide) ?_
        obtain ⟨x2, ex2, h⟩ := o_b h
        refine call_iV (As := [.int v3, .int (3 : Int32)]) (rest := []) (ws2 := [(a0, .inr (0, [.ref a1, .int eb])), (a1, .inr (4, [.int er.1, .ref a2, .int er.2.2.2])), (a2, .inl (cI, er.2.1, .inl er.2.2.1))]) ⟨hx, hb, hml, hown, hts⟩ (cX4_at_ok l G cI cG a1 a2 er v3 (3 : Int32) x2 ex2) (cwV 2 hts gX0_countOn_X4_at_28 rfl rfl rfl hdX4_at ⟨Nat.le_of_ble_eq_true rfl, Nat.le_of_ble_eq_true rfl⟩) hP hD hS hA hK 4 rfl rfl rfl [1, 2] rfl rfl rfl rfl rfl rfl rfl rfl hl.1 (Nat.le_of_ble_eq_true rfl) dX0_countOn_21 ⟨Nat.zero_le _, Nat.zero_le _⟩ (fun H locs hP hD hS => ?_)
        refine lv_iload_n hx hb dX0_countOn_24 rfl (lv_at hl 1 rfl) ?_
        refine lv_icmp_ne (tgt := 31) hx hb dX0_countOn_25 (by decide) (fun hc => ?_) (fun hc => ?_)
        · have h := o_f h hc
          refine lv_iinc (v := (v3 + 1)) (lv' := [(3, .int (v3 + 1)), (0, .ref a0), (1, .int p1), (2, .int v2)]) hx hb dX0_countOn_31 hl (k := 3) rfl rfl (by decide) rfl (fun ls hl => ?_)
          refine lv_goto (tgt := 4) hx hb dX0_countOn_34 (by decide) ?_
          exact ih v2 (v3 + 1) _ _ _ h hP hD hS (lv_sub hl [1, 2, 3, 0] rfl)
        · have h := o_t h hc
          refine lv_iinc (v := (v2 + 1)) (lv' := [(2, .int (v2 + 1)), (0, .ref a0), (1, .int p1), (3, .int v3)]) hx hb dX0_countOn_28 hl (k := 2) rfl rfl (by decide) rfl (fun ls hl => ?_)
          refine lv_iinc (v := (v3 + 1)) (lv' := [(3, .int (v3 + 1)), (2, .int (v2 + 1)), (0, .ref a0), (1, .int p1)]) hx hb dX0_countOn_31 hl (k := 3) rfl rfl (by decide) rfl (fun ls hl => ?_)
          refine lv_goto (tgt := 4) hx hb dX0_countOn_34 (by decide) ?_
          exact ih (v2 + 1) (v3 + 1) _ _ _ h hP hD hS (lv_sub hl [2, 3, 1, 0] rfl)
  have h := hf
  rw [fX0_countOn] at h
  have hl := lv_entry ([.ref a0, .int p1]) (n := 4) (Nat.le_of_ble_eq_true rfl)
  rw [lg_entry_eq]
  generalize (lg_sl ([.ref a0, .int p1]) ++ List.replicate (4 - (lg_sl ([.ref a0, .int p1])).length) Slot.unset).toArray = ls at hl ⊢
  have hl : lv_has ls 4 [(0, .ref a0), (1, .int p1)] := hl
  refine lv_iconst (v := 0) hx hb dX0_countOn_0 (by decide) ?_
  refine lv_istore_n (lv' := [(2, .int (0 : Int32)), (0, .ref a0), (1, .int p1)]) hx hb dX0_countOn_1 rfl hl (by decide) rfl (fun ls hl => ?_)
  refine lv_iconst (v := 0) hx hb dX0_countOn_2 (by decide) ?_
  refine lv_istore_n (lv' := [(3, .int (0 : Int32)), (2, .int (0 : Int32)), (0, .ref a0), (1, .int p1)]) hx hb dX0_countOn_3 rfl hl (by decide) rfl (fun ls hl => ?_)
  exact L4 fu (0 : Int32) (0 : Int32) _ _ _ h hP hD hS (lv_sub hl [2, 3, 1, 0] rfl)
theorem hdX0_powerOn : yX0_powerOn.cls = RX0 ∧ yX0_powerOn.cls ≠ "java/lang/invoke/MethodHandle" ∧ yX0_powerOn.cls ≠ "java/lang/invoke/VarHandle" ∧ (parseMethodDescriptor yX0_powerOn.desc).map (fun d => d.parameters.length) = some 2 := by decide +kernel
set_option maxHeartbeats 4000000 in
set_option maxRecDepth 100000 in
theorem cX0_powerOn_ok (l : Launch) (G : va_G) (cI cG : ClassId) (a0 a1 a2 : Nat) (fu : Nat) (er : Tab) (eb : Int32) (p1 : Int32) (p2 : Int32) (out : Int32) (hf : fX0_powerOn fu er p1 p2 = some out) : CI l G (tyz cI cG) yX0_powerOn wsX0_powerOn ({ frames := 1, cells := 0, slots := 0, locals := 23 } : Room) [.ref a0, .int p1, .int p2] [(a0, .inr (0, [.ref a1, .int eb])), (a1, .inr (4, [.int er.1, .ref a2, .int er.2.2.2])), (a2, .inl (cI, er.2.1, .inl er.2.2.1))] out [(a0, .inr (0, [.ref a1, .int eb])), (a1, .inr (4, [.int er.1, .ref a2, .int er.2.2.2])), (a2, .inl (cI, er.2.1, .inl er.2.2.1))] := by
  intro sz
  refine Met.ofW (cc := cX0_powerOn) (maxL := 5) (ret := (some .int)) (by decide) rfl ?_
  intro p e s m args below meth c s₁ B hml hv
  obtain ⟨rfl, hsz, hP, hK, hD0⟩ := hv
  have hx := B.exec
  have hb := B.bytes
  have hr := B.returns
  have hts := atoms_spec (ws := wsX0_powerOn) B.pre
  have hown : s.vm.findClass RX0 = some m.cls := findClass_of_methodNamed B.named
  have hlocks := B.notSynchronized
  subst hsz
  have hD := hD0.self (sz := s.heap.size)
  generalize hAe : va_A ([(a0, .inr (0, [.ref a1, .int eb])), (a1, .inr (4, [.int er.1, .ref a2, .int er.2.2.2])), (a2, .inl (cI, er.2.1, .inl er.2.2.1))]) s.heap.size = A at hD ⊢
  have hA : ∀ q : Nat, s.heap.size ≤ q → A q := fun q h => by rw [← hAe]; exact Or.inr h
  have hS : va_S A s.heap s.heap [] := va_S.rf
  have hw0 := hts (.fieldLink RX0 16 "SpeedTurns$Effects" "rows" "LSpeedTurns$Table;") (List.mem_of_getElem? (i := 1) rfl)
  show W p l e ({ frames := 1, cells := 0, slots := 0, locals := 23 } : Room) s m _ below meth c s.heap [] 0 0 _ _
  refine W_genQ (fun Q hQ => ?_)
  have L5 : ∀  (k : Nat) (v3 : Int32) (v4 : Int32) (H : Heap) (locs : List Loc) (ls : Array Slot), fX0_powerOn_L5 fu er p1 p2 k v3 v4 = some out → va_P G vwCl ([(a0, .inr (0, [.ref a1, .int eb])), (a1, .inr (4, [.int er.1, .ref a2, .int er.2.2.2])), (a2, .inl (cI, er.2.1, .inl er.2.2.1))]) H → va_D A ([(a0, .inr (0, [.ref a1, .int eb])), (a1, .inr (4, [.int er.1, .ref a2, .int er.2.2.2])), (a2, .inl (cI, er.2.1, .inl er.2.2.1))]) → va_S A s.heap H locs → lv_has ls 5 [(0, .ref a0), (1, .int p1), (2, .int p2), (3, .int v3), (4, .int v4)] → W p l e ({ frames := 1, cells := 0, slots := 0, locals := 23 } : Room) s m ([.ref a0, .int p1, .int p2] : List Value).toArray below meth c H locs 0 0 Q (F0 m 5 ls []) := by
    intro  k
    induction k with
    | zero => intro v3 v4 H locs ls h hP hD hS hl; rw [fX0_powerOn_L5] at h; exact o_n h
    | succ k ih =>
      intro v3 v4 H locs ls h hP hD hS hl
      rw [fX0_powerOn_L5] at h
      refine lv_iload hx hb dX0_powerOn_5 (lv_at hl 4 rfl) ?_
      refine lv_aload_n hx hb dX0_powerOn_7 rfl (lv_at hl 0 rfl) ?_
      refine va_get (D := G) (ci := 0) (v := .ref a1) (C := RX0) (T := TX0) (N := 2) hx hb hts huX0_powerOn_X0 hown hK.1 hP 0 rfl rfl 0 (by decide) hw0 (fun _ h9 => h9) rfl dX0_powerOn_8 ?_
      obtain ⟨x1, ex1, h⟩ := o_b h
      refine call_iV (As := []) (rest := [.int v4]) (ws2 := [(a0, .inr (0, [.ref a1, .int eb])), (a1, .inr (4, [.int er.1, .ref a2, .int er.2.2.2])), (a2, .inl (cI, er.2.1, .inl er.2.2.1))]) ⟨hx, hb, hml, hown, hts⟩ (cX4_count_ok l G cI cG a1 a2 er x1 ex1) (cwV 0 hts gX0_powerOn_X4_count_24 rfl rfl rfl hdX4_count ⟨Nat.le_of_ble_eq_true rfl, Nat.le_of_ble_eq_true rfl⟩) hP hD hS hA hK 4 rfl rfl rfl [1, 2] rfl rfl rfl rfl rfl rfl rfl rfl hl.1 (Nat.le_of_ble_eq_true rfl) dX0_powerOn_11 ⟨Nat.zero_le _, Nat.zero_le _⟩ (fun H locs hP hD hS => ?_)
      refine lv_icmp_ge (tgt := 64) hx hb dX0_powerOn_14 (by decide) (fun hc => ?_) (fun hc => ?_)
      · have h := o_t h hc
        refine lv_iload_n hx hb dX0_powerOn_64 rfl (lv_at hl 3 rfl) ?_
        obtain rfl := o_s h
        rw [hQ]
        exact end_i hx hb hr rfl hP hD hS dX0_powerOn_65 hlocks
      · have h := o_f h hc
        refine lv_aload_n hx hb dX0_powerOn_17 rfl (lv_at hl 0 rfl) ?_
        refine va_get (D := G) (ci := 0) (v := .ref a1) (C := RX0) (T := TX0) (N := 2) hx hb hts huX0_powerOn_X0 hown hK.1 hP 0 rfl rfl 0 (by decide) hw0 (fun _ h9 => h9) rfl dX0_powerOn_18 ?_
        refine lv_iload hx hb dX0_powerOn_21 (lv_at hl 4 rfl) ?_
        refine lv_iconst (v := 3) hx hb dX0_powerOn_23 (by decide) ?_
        obtain ⟨x2, ex2, h⟩ := o_b h
        refine call_iV (As := [.int v4, .int (3 : Int32)]) (rest := []) (ws2 := [(a0, .inr (0, [.ref a1, .int eb])), (a1, .inr (4, [.int er.1, .ref a2, .int er.2.2.2])), (a2, .inl (cI, er.2.1, .inl er.2.2.1))]) ⟨hx, hb, hml, hown, hts⟩ (cX4_at_ok l G cI cG a1 a2 er v4 (3 : Int32) x2 ex2) (cwV 2 hts gX0_powerOn_X4_at_28 rfl rfl rfl hdX4_at ⟨Nat.le_of_ble_eq_true rfl, Nat.le_of_ble_eq_true rfl⟩) hP hD hS hA hK 4 rfl rfl rfl [1, 2] rfl rfl rfl rfl rfl rfl rfl rfl hl.1 (Nat.le_of_ble_eq_true rfl) dX0_powerOn_24 ⟨Nat.zero_le _, Nat.zero_le _⟩ (fun H locs hP hD hS => ?_)
        refine lv_iload_n hx hb dX0_powerOn_27 rfl (lv_at hl 1 rfl) ?_
        refine lv_icmp_ne (tgt := 58) hx hb dX0_powerOn_28 (by decide) (fun hc => ?_) (fun hc => ?_)
        · have h := o_f h hc
          refine lv_iinc (v := (v4 + 1)) (lv' := [(4, .int (v4 + 1)), (0, .ref a0), (1, .int p1), (2, .int p2), (3, .int v3)]) hx hb dX0_powerOn_58 hl (k := 4) rfl rfl (by decide) rfl (fun ls hl => ?_)
          refine lv_goto (tgt := 5) hx hb dX0_powerOn_61 (by decide) ?_
          exact ih v3 (v4 + 1) _ _ _ h hP hD hS (lv_sub hl [1, 2, 3, 4, 0] rfl)
        · have h := o_t h hc
          refine lv_aload_n hx hb dX0_powerOn_31 rfl (lv_at hl 0 rfl) ?_
          refine va_get (D := G) (ci := 0) (v := .ref a1) (C := RX0) (T := TX0) (N := 2) hx hb hts huX0_powerOn_X0 hown hK.1 hP 0 rfl rfl 0 (by decide) hw0 (fun _ h9 => h9) rfl dX0_powerOn_32 ?_
          refine lv_iload hx hb dX0_powerOn_35 (lv_at hl 4 rfl) ?_
          refine lv_iconst (v := 0) hx hb dX0_powerOn_37 (by decide) ?_
          obtain ⟨x3, ex3, h⟩ := o_b h
          refine call_iV (As := [.int v4, .int (0 : Int32)]) (rest := []) (ws2 := [(a0, .inr (0, [.ref a1, .int eb])), (a1, .inr (4, [.int er.1, .ref a2, .int er.2.2.2])), (a2, .inl (cI, er.2.1, .inl er.2.2.1))]) ⟨hx, hb, hml, hown, hts⟩ (cX4_at_ok l G cI cG a1 a2 er v4 (0 : Int32) x3 ex3) (cwV 2 hts gX0_powerOn_X4_at_28 rfl rfl rfl hdX4_at ⟨Nat.le_of_ble_eq_true rfl, Nat.le_of_ble_eq_true rfl⟩) hP hD hS hA hK 4 rfl rfl rfl [1, 2] rfl rfl rfl rfl rfl rfl rfl rfl hl.1 (Nat.le_of_ble_eq_true rfl) dX0_powerOn_38 ⟨Nat.zero_le _, Nat.zero_le _⟩ (fun H locs hP hD hS => ?_)
          refine lv_iload_n hx hb dX0_powerOn_41 rfl (lv_at hl 2 rfl) ?_
          refine lv_icmp_ne (tgt := 58) hx hb dX0_powerOn_42 (by decide) (fun hc => ?_) (fun hc => ?_)
          · have h := o_f h hc
            refine lv_iinc (v := (v4 + 1)) (lv' := [(4, .int (v4 + 1)), (0, .ref a0), (1, .int p1), (2, .int p2), (3, .int v3)]) hx hb dX0_powerOn_58 hl (k := 4) rfl rfl (by decide) rfl (fun ls hl => ?_)
            refine lv_goto (tgt := 5) hx hb dX0_powerOn_61 (by decide) ?_
            exact ih v3 (v4 + 1) _ _ _ h hP hD hS (lv_sub hl [1, 2, 3, 4, 0] rfl)
          · have h := o_t h hc
            refine lv_iload_n hx hb dX0_powerOn_45 rfl (lv_at hl 3 rfl) ?_
            refine lv_aload_n hx hb dX0_powerOn_46 rfl (lv_at hl 0 rfl) ?_
            refine va_get (D := G) (ci := 0) (v := .ref a1) (C := RX0) (T := TX0) (N := 2) hx hb hts huX0_powerOn_X0 hown hK.1 hP 0 rfl rfl 0 (by decide) hw0 (fun _ h9 => h9) rfl dX0_powerOn_47 ?_
            refine lv_iload hx hb dX0_powerOn_50 (lv_at hl 4 rfl) ?_
            refine lv_iconst (v := 1) hx hb dX0_powerOn_52 (by decide) ?_
            obtain ⟨x4, ex4, h⟩ := o_b h
            refine call_iV (As := [.int v4, .int (1 : Int32)]) (rest := [.int v3]) (ws2 := [(a0, .inr (0, [.ref a1, .int eb])), (a1, .inr (4, [.int er.1, .ref a2, .int er.2.2.2])), (a2, .inl (cI, er.2.1, .inl er.2.2.1))]) ⟨hx, hb, hml, hown, hts⟩ (cX4_at_ok l G cI cG a1 a2 er v4 (1 : Int32) x4 ex4) (cwV 2 hts gX0_powerOn_X4_at_28 rfl rfl rfl hdX4_at ⟨Nat.le_of_ble_eq_true rfl, Nat.le_of_ble_eq_true rfl⟩) hP hD hS hA hK 4 rfl rfl rfl [1, 2] rfl rfl rfl rfl rfl rfl rfl rfl hl.1 (Nat.le_of_ble_eq_true rfl) dX0_powerOn_53 ⟨Nat.zero_le _, Nat.zero_le _⟩ (fun H locs hP hD hS => ?_)
            refine lv_iadd hx hb dX0_powerOn_56 ?_
            refine lv_istore_n (lv' := [(3, .int (v3 + x4)), (0, .ref a0), (1, .int p1), (2, .int p2), (4, .int v4)]) hx hb dX0_powerOn_57 rfl hl (by decide) rfl (fun ls hl => ?_)
            refine lv_iinc (v := (v4 + 1)) (lv' := [(4, .int (v4 + 1)), (3, .int (v3 + x4)), (0, .ref a0), (1, .int p1), (2, .int p2)]) hx hb dX0_powerOn_58 hl (k := 4) rfl rfl (by decide) rfl (fun ls hl => ?_)
            refine lv_goto (tgt := 5) hx hb dX0_powerOn_61 (by decide) ?_
            exact ih (v3 + x4) (v4 + 1) _ _ _ h hP hD hS (lv_sub hl [2, 3, 4, 1, 0] rfl)
  have h := hf
  rw [fX0_powerOn] at h
  have hl := lv_entry ([.ref a0, .int p1, .int p2]) (n := 5) (Nat.le_of_ble_eq_true rfl)
  rw [lg_entry_eq]
  generalize (lg_sl ([.ref a0, .int p1, .int p2]) ++ List.replicate (5 - (lg_sl ([.ref a0, .int p1, .int p2])).length) Slot.unset).toArray = ls at hl ⊢
  have hl : lv_has ls 5 [(0, .ref a0), (1, .int p1), (2, .int p2)] := hl
  refine lv_iconst (v := 0) hx hb dX0_powerOn_0 (by decide) ?_
  refine lv_istore_n (lv' := [(3, .int (0 : Int32)), (0, .ref a0), (1, .int p1), (2, .int p2)]) hx hb dX0_powerOn_1 rfl hl (by decide) rfl (fun ls hl => ?_)
  refine lv_iconst (v := 0) hx hb dX0_powerOn_2 (by decide) ?_
  refine lv_istore (lv' := [(4, .int (0 : Int32)), (3, .int (0 : Int32)), (0, .ref a0), (1, .int p1), (2, .int p2)]) hx hb dX0_powerOn_3 hl (by decide) rfl (fun ls hl => ?_)
  exact L5 fu (0 : Int32) (0 : Int32) _ _ _ h hP hD hS (lv_sub hl [2, 3, 4, 1, 0] rfl)
theorem hdX0_poisonBornAfter : yX0_poisonBornAfter.cls = RX0 ∧ yX0_poisonBornAfter.cls ≠ "java/lang/invoke/MethodHandle" ∧ yX0_poisonBornAfter.cls ≠ "java/lang/invoke/VarHandle" ∧ (parseMethodDescriptor yX0_poisonBornAfter.desc).map (fun d => d.parameters.length) = some 2 := by decide +kernel
set_option maxHeartbeats 4000000 in
set_option maxRecDepth 100000 in
theorem cX0_poisonBornAfter_ok (l : Launch) (G : va_G) (cI cG : ClassId) (a0 a1 a2 : Nat) (fu : Nat) (er : Tab) (eb : Int32) (p1 : Int32) (p2 : Int32) (out : Int32) (hf : fX0_poisonBornAfter fu er p1 p2 = some out) : CI l G (tyz cI cG) yX0_poisonBornAfter wsX0_poisonBornAfter ({ frames := 1, cells := 0, slots := 0, locals := 23 } : Room) [.ref a0, .int p1, .int p2] [(a0, .inr (0, [.ref a1, .int eb])), (a1, .inr (4, [.int er.1, .ref a2, .int er.2.2.2])), (a2, .inl (cI, er.2.1, .inl er.2.2.1))] out [(a0, .inr (0, [.ref a1, .int eb])), (a1, .inr (4, [.int er.1, .ref a2, .int er.2.2.2])), (a2, .inl (cI, er.2.1, .inl er.2.2.1))] := by
  intro sz
  refine Met.ofW (cc := cX0_poisonBornAfter) (maxL := 5) (ret := (some .int)) (by decide) rfl ?_
  intro p e s m args below meth c s₁ B hml hv
  obtain ⟨rfl, hsz, hP, hK, hD0⟩ := hv
  have hx := B.exec
  have hb := B.bytes
  have hr := B.returns
  have hts := atoms_spec (ws := wsX0_poisonBornAfter) B.pre
  have hown : s.vm.findClass RX0 = some m.cls := findClass_of_methodNamed B.named
  have hlocks := B.notSynchronized
  subst hsz
  have hD := hD0.self (sz := s.heap.size)
  generalize hAe : va_A ([(a0, .inr (0, [.ref a1, .int eb])), (a1, .inr (4, [.int er.1, .ref a2, .int er.2.2.2])), (a2, .inl (cI, er.2.1, .inl er.2.2.1))]) s.heap.size = A at hD ⊢
  have hA : ∀ q : Nat, s.heap.size ≤ q → A q := fun q h => by rw [← hAe]; exact Or.inr h
  have hS : va_S A s.heap s.heap [] := va_S.rf
  have hw0 := hts (.fieldLink RX0 16 "SpeedTurns$Effects" "rows" "LSpeedTurns$Table;") (List.mem_of_getElem? (i := 1) rfl)
  show W p l e ({ frames := 1, cells := 0, slots := 0, locals := 23 } : Room) s m _ below meth c s.heap [] 0 0 _ _
  refine W_genQ (fun Q hQ => ?_)
  have J32 : ∀ (v3 : Int32) (t0 : Bool) (rec : Int32 → Option (Int32)), (∀ (v3 : Int32) (H : Heap) (locs : List Loc) (ls : Array Slot), rec v3 = some out → va_P G vwCl ([(a0, .inr (0, [.ref a1, .int eb])), (a1, .inr (4, [.int er.1, .ref a2, .int er.2.2.2])), (a2, .inl (cI, er.2.1, .inl er.2.2.1))]) H → va_D A ([(a0, .inr (0, [.ref a1, .int eb])), (a1, .inr (4, [.int er.1, .ref a2, .int er.2.2.2])), (a2, .inl (cI, er.2.1, .inl er.2.2.1))]) → va_S A s.heap H locs → lv_has ls 5 [(0, .ref a0), (1, .int p1), (2, .int p2), (3, .int v3)] → W p l e ({ frames := 1, cells := 0, slots := 0, locals := 23 } : Room) s m ([.ref a0, .int p1, .int p2] : List Value).toArray below meth c H locs 0 0 Q (F0 m 2 ls [])) → ∀ (H : Heap) (locs : List Loc) (ls : Array Slot), fX0_poisonBornAfter_J32 fu er p1 p2 v3 t0 rec = some out → va_P G vwCl ([(a0, .inr (0, [.ref a1, .int eb])), (a1, .inr (4, [.int er.1, .ref a2, .int er.2.2.2])), (a2, .inl (cI, er.2.1, .inl er.2.2.1))]) H → va_D A ([(a0, .inr (0, [.ref a1, .int eb])), (a1, .inr (4, [.int er.1, .ref a2, .int er.2.2.2])), (a2, .inl (cI, er.2.1, .inl er.2.2.1))]) → va_S A s.heap H locs → lv_has ls 5 [(0, .ref a0), (1, .int p1), (2, .int p2), (3, .int v3)] → W p l e ({ frames := 1, cells := 0, slots := 0, locals := 23 } : Room) s m ([.ref a0, .int p1, .int p2] : List Value).toArray below meth c H locs 0 0 Q (F0 m 32 ls [.int (bI t0)]) := by
    intro v3 t0 rec hrec H locs ls h hP hD hS hl
    rw [fX0_poisonBornAfter_J32] at h
    refine lv_istore (lv' := [(4, .int (bI t0)), (0, .ref a0), (1, .int p1), (2, .int p2), (3, .int v3)]) hx hb dX0_poisonBornAfter_32 hl (by decide) rfl (fun ls hl => ?_)
    refine lv_iload hx hb dX0_poisonBornAfter_34 (lv_at hl 0 rfl) ?_
    refine lv_if_eq (tgt := 66) hx hb dX0_poisonBornAfter_36 (by decide) (fun hc => ?_) (fun hc => ?_)
    · have h := o_t h hc
      refine lv_iinc (v := (v3 + 1)) (lv' := [(3, .int (v3 + 1)), (4, .int (bI t0)), (0, .ref a0), (1, .int p1), (2, .int p2)]) hx hb dX0_poisonBornAfter_66 hl (k := 4) rfl rfl (by decide) rfl (fun ls hl => ?_)
      refine lv_goto (tgt := 2) hx hb dX0_poisonBornAfter_69 (by decide) ?_
      exact hrec (v3 + 1) _ _ _ h hP hD hS (lv_sub hl [2, 3, 4, 0] rfl)
    · have h := o_f h hc
      refine lv_aload_n hx hb dX0_poisonBornAfter_39 rfl (lv_at hl 1 rfl) ?_
      refine va_get (D := G) (ci := 0) (v := .ref a1) (C := RX0) (T := TX0) (N := 2) hx hb hts huX0_poisonBornAfter_X0 hown hK.1 hP 0 rfl rfl 0 (by decide) hw0 (fun _ h9 => h9) rfl dX0_poisonBornAfter_40 ?_
      refine lv_iload_n hx hb dX0_poisonBornAfter_43 rfl (lv_at hl 4 rfl) ?_
      refine lv_iconst (v := 3) hx hb dX0_poisonBornAfter_44 (by decide) ?_
      obtain ⟨x3, ex3, h⟩ := o_b h
      refine call_iV (As := [.int v3, .int (3 : Int32)]) (rest := []) (ws2 := [(a0, .inr (0, [.ref a1, .int eb])), (a1, .inr (4, [.int er.1, .ref a2, .int er.2.2.2])), (a2, .inl (cI, er.2.1, .inl er.2.2.1))]) ⟨hx, hb, hml, hown, hts⟩ (cX4_at_ok l G cI cG a1 a2 er v3 (3 : Int32) x3 ex3) (cwV 2 hts gX0_poisonBornAfter_X4_at_28 rfl rfl rfl hdX4_at ⟨Nat.le_of_ble_eq_true rfl, Nat.le_of_ble_eq_true rfl⟩) hP hD hS hA hK 4 rfl rfl rfl [1, 2] rfl rfl rfl rfl rfl rfl rfl rfl hl.1 (Nat.le_of_ble_eq_true rfl) dX0_poisonBornAfter_45 ⟨Nat.zero_le _, Nat.zero_le _⟩ (fun H locs hP hD hS => ?_)
      refine lv_iload_n hx hb dX0_poisonBornAfter_48 rfl (lv_at hl 2 rfl) ?_
      refine lv_icmp_ne (tgt := 66) hx hb dX0_poisonBornAfter_49 (by decide) (fun hc => ?_) (fun hc => ?_)
      · have h := o_f h hc
        refine lv_iinc (v := (v3 + 1)) (lv' := [(3, .int (v3 + 1)), (4, .int (bI t0)), (0, .ref a0), (1, .int p1), (2, .int p2)]) hx hb dX0_poisonBornAfter_66 hl (k := 4) rfl rfl (by decide) rfl (fun ls hl => ?_)
        refine lv_goto (tgt := 2) hx hb dX0_poisonBornAfter_69 (by decide) ?_
        exact hrec (v3 + 1) _ _ _ h hP hD hS (lv_sub hl [2, 3, 4, 0] rfl)
      · have h := o_t h hc
        refine lv_aload_n hx hb dX0_poisonBornAfter_52 rfl (lv_at hl 1 rfl) ?_
        refine va_get (D := G) (ci := 0) (v := .ref a1) (C := RX0) (T := TX0) (N := 2) hx hb hts huX0_poisonBornAfter_X0 hown hK.1 hP 0 rfl rfl 0 (by decide) hw0 (fun _ h9 => h9) rfl dX0_poisonBornAfter_53 ?_
        refine lv_iload_n hx hb dX0_poisonBornAfter_56 rfl (lv_at hl 4 rfl) ?_
        refine lv_iconst (v := 0) hx hb dX0_poisonBornAfter_57 (by decide) ?_
        obtain ⟨x4, ex4, h⟩ := o_b h
        refine call_iV (As := [.int v3, .int (0 : Int32)]) (rest := []) (ws2 := [(a0, .inr (0, [.ref a1, .int eb])), (a1, .inr (4, [.int er.1, .ref a2, .int er.2.2.2])), (a2, .inl (cI, er.2.1, .inl er.2.2.1))]) ⟨hx, hb, hml, hown, hts⟩ (cX4_at_ok l G cI cG a1 a2 er v3 (0 : Int32) x4 ex4) (cwV 2 hts gX0_poisonBornAfter_X4_at_28 rfl rfl rfl hdX4_at ⟨Nat.le_of_ble_eq_true rfl, Nat.le_of_ble_eq_true rfl⟩) hP hD hS hA hK 4 rfl rfl rfl [1, 2] rfl rfl rfl rfl rfl rfl rfl rfl hl.1 (Nat.le_of_ble_eq_true rfl) dX0_poisonBornAfter_58 ⟨Nat.zero_le _, Nat.zero_le _⟩ (fun H locs hP hD hS => ?_)
        refine lv_if_ne (tgt := 66) hx hb dX0_poisonBornAfter_61 (by decide) (fun hc => ?_) (fun hc => ?_)
        · have h := o_f h hc
          refine lv_iinc (v := (v3 + 1)) (lv' := [(3, .int (v3 + 1)), (4, .int (bI t0)), (0, .ref a0), (1, .int p1), (2, .int p2)]) hx hb dX0_poisonBornAfter_66 hl (k := 4) rfl rfl (by decide) rfl (fun ls hl => ?_)
          refine lv_goto (tgt := 2) hx hb dX0_poisonBornAfter_69 (by decide) ?_
          exact hrec (v3 + 1) _ _ _ h hP hD hS (lv_sub hl [2, 3, 4, 0] rfl)
        · have h := o_t h hc
          refine lv_iload_n hx hb dX0_poisonBornAfter_64 rfl (lv_at hl 4 rfl) ?_
          obtain rfl := o_s h
          rw [hQ]
          exact end_i hx hb hr rfl hP hD hS dX0_poisonBornAfter_65 hlocks
  have L2 : ∀  (k : Nat) (v3 : Int32) (H : Heap) (locs : List Loc) (ls : Array Slot), fX0_poisonBornAfter_L2 fu er p1 p2 k v3 = some out → va_P G vwCl ([(a0, .inr (0, [.ref a1, .int eb])), (a1, .inr (4, [.int er.1, .ref a2, .int er.2.2.2])), (a2, .inl (cI, er.2.1, .inl er.2.2.1))]) H → va_D A ([(a0, .inr (0, [.ref a1, .int eb])), (a1, .inr (4, [.int er.1, .ref a2, .int er.2.2.2])), (a2, .inl (cI, er.2.1, .inl er.2.2.1))]) → va_S A s.heap H locs → lv_has ls 5 [(0, .ref a0), (1, .int p1), (2, .int p2), (3, .int v3)] → W p l e ({ frames := 1, cells := 0, slots := 0, locals := 23 } : Room) s m ([.ref a0, .int p1, .int p2] : List Value).toArray below meth c H locs 0 0 Q (F0 m 2 ls []) := by
    intro  k
    induction k with
    | zero => intro v3 H locs ls h hP hD hS hl; rw [fX0_poisonBornAfter_L2] at h; exact o_n h
    | succ k ih =>
      intro v3 H locs ls h hP hD hS hl
      rw [fX0_poisonBornAfter_L2] at h
      refine lv_iload_n hx hb dX0_poisonBornAfter_2 rfl (lv_at hl 3 rfl) ?_
      refine lv_aload_n hx hb dX0_poisonBornAfter_3 rfl (lv_at hl 0 rfl) ?_
      refine va_get (D := G) (ci := 0) (v := .ref a1) (C := RX0) (T := TX0) (N := 2) hx hb hts huX0_poisonBornAfter_X0 hown hK.1 hP 0 rfl rfl 0 (by decide) hw0 (fun _ h9 => h9) rfl dX0_poisonBornAfter_4 ?_
      obtain ⟨x1, ex1, h⟩ := o_b h
      refine call_iV (As := []) (rest := [.int v3]) (ws2 := [(a0, .inr (0, [.ref a1, .int eb])), (a1, .inr (4, [.int er.1, .ref a2, .int er.2.2.2])), (a2, .inl (cI, er.2.1, .inl er.2.2.1))]) ⟨hx, hb, hml, hown, hts⟩ (cX4_count_ok l G cI cG a1 a2 er x1 ex1) (cwV 0 hts gX0_poisonBornAfter_X4_count_24 rfl rfl rfl hdX4_count ⟨Nat.le_of_ble_eq_true rfl, Nat.le_of_ble_eq_true rfl⟩) hP hD hS hA hK 4 rfl rfl rfl [1, 2] rfl rfl rfl rfl rfl rfl rfl rfl hl.1 (Nat.le_of_ble_eq_true rfl) dX0_poisonBornAfter_7 ⟨Nat.zero_le _, Nat.zero_le _⟩ (fun H locs hP hD hS => ?_)
      refine lv_icmp_ge (tgt := 72) hx hb dX0_poisonBornAfter_10 (by decide) (fun hc => ?_) (fun hc => ?_)
      · have h := o_t h hc
        refine lv_iconst (v := (-1)) hx hb dX0_poisonBornAfter_72 (by decide) ?_
        obtain rfl := o_s h
        rw [hQ]
        exact end_i hx hb hr rfl hP hD hS dX0_poisonBornAfter_73 hlocks
      · have h := o_f h hc
        refine lv_aload_n hx hb dX0_poisonBornAfter_13 rfl (lv_at hl 0 rfl) ?_
        refine va_get (D := G) (ci := 0) (v := .ref a1) (C := RX0) (T := TX0) (N := 2) hx hb hts huX0_poisonBornAfter_X0 hown hK.1 hP 0 rfl rfl 0 (by decide) hw0 (fun _ h9 => h9) rfl dX0_poisonBornAfter_14 ?_
        refine lv_iload_n hx hb dX0_poisonBornAfter_17 rfl (lv_at hl 3 rfl) ?_
        refine lv_bipush (v := 7) hx hb dX0_poisonBornAfter_18 (by decide) ?_
        obtain ⟨x2, ex2, h⟩ := o_b h
        refine call_iV (As := [.int v3, .int (7 : Int32)]) (rest := []) (ws2 := [(a0, .inr (0, [.ref a1, .int eb])), (a1, .inr (4, [.int er.1, .ref a2, .int er.2.2.2])), (a2, .inl (cI, er.2.1, .inl er.2.2.1))]) ⟨hx, hb, hml, hown, hts⟩ (cX4_at_ok l G cI cG a1 a2 er v3 (7 : Int32) x2 ex2) (cwV 2 hts gX0_poisonBornAfter_X4_at_28 rfl rfl rfl hdX4_at ⟨Nat.le_of_ble_eq_true rfl, Nat.le_of_ble_eq_true rfl⟩) hP hD hS hA hK 4 rfl rfl rfl [1, 2] rfl rfl rfl rfl rfl rfl rfl rfl hl.1 (Nat.le_of_ble_eq_true rfl) dX0_poisonBornAfter_20 ⟨Nat.zero_le _, Nat.zero_le _⟩ (fun H locs hP hD hS => ?_)
        refine lv_iload_n hx hb dX0_poisonBornAfter_23 rfl (lv_at hl 2 rfl) ?_
        refine lv_icmp_le (tgt := 31) hx hb dX0_poisonBornAfter_24 (by decide) (fun hc => ?_) (fun hc => ?_)
        · have h := o_t h hc
          refine lv_iconst (v := 0) hx hb dX0_poisonBornAfter_31 (by decide) ?_
          exact J32 v3 false (fun v3 => fX0_poisonBornAfter_L2 fu er p1 p2 k v3) (fun v3 H locs ls h hP hD hS hl => ih v3 H locs ls h hP hD hS hl) _ _ _ h hP hD hS (lv_sub hl [0, 1, 2, 3] rfl)
        · have h := o_f h hc
          refine lv_iconst (v := 1) hx hb dX0_poisonBornAfter_27 (by decide) ?_
          refine lv_goto (tgt := 32) hx hb dX0_poisonBornAfter_28 (by decide) ?_
          exact J32 v3 true (fun v3 => fX0_poisonBornAfter_L2 fu er p1 p2 k v3) (fun v3 H locs ls h hP hD hS hl => ih v3 H locs ls h hP hD hS hl) _ _ _ h hP hD hS (lv_sub hl [0, 1, 2, 3] rfl)
  have h := hf
  rw [fX0_poisonBornAfter] at h
  have hl := lv_entry ([.ref a0, .int p1, .int p2]) (n := 5) (Nat.le_of_ble_eq_true rfl)
  rw [lg_entry_eq]
  generalize (lg_sl ([.ref a0, .int p1, .int p2]) ++ List.replicate (5 - (lg_sl ([.ref a0, .int p1, .int p2])).length) Slot.unset).toArray = ls at hl ⊢
  have hl : lv_has ls 5 [(0, .ref a0), (1, .int p1), (2, .int p2)] := hl
  refine lv_iconst (v := 0) hx hb dX0_poisonBornAfter_0 (by decide) ?_
  refine lv_istore_n (lv' := [(3, .int (0 : Int32)), (0, .ref a0), (1, .int p1), (2, .int p2)]) hx hb dX0_poisonBornAfter_1 rfl hl (by decide) rfl (fun ls hl => ?_)
  exact L2 fu (0 : Int32) _ _ _ h hP hD hS (lv_sub hl [1, 2, 3, 0] rfl)
theorem hdX0_endHeldBy : yX0_endHeldBy.cls = RX0 ∧ yX0_endHeldBy.cls ≠ "java/lang/invoke/MethodHandle" ∧ yX0_endHeldBy.cls ≠ "java/lang/invoke/VarHandle" ∧ (parseMethodDescriptor yX0_endHeldBy.desc).map (fun d => d.parameters.length) = some 1 := by decide +kernel
set_option maxHeartbeats 4000000 in
set_option maxRecDepth 100000 in
theorem cX0_endHeldBy_ok (l : Launch) (G : va_G) (cI cG : ClassId) (a0 a1 a2 : Nat) (fu : Nat) (er : Tab) (eb : Int32) (p1 : Int32) (out : Tab) (hf : fX0_endHeldBy fu er p1 = some out) : CV l G (tyz cI cG) yX0_endHeldBy wsX0_endHeldBy ({ frames := 2, cells := 0, slots := 0, locals := 83 } : Room) [.ref a0, .int p1] [(a0, .inr (0, [.ref a1, .int eb])), (a1, .inr (4, [.int er.1, .ref a2, .int er.2.2.2])), (a2, .inl (cI, er.2.1, .inl er.2.2.1))] [(a0, .inr (0, [.ref a1, .int eb])), (a1, .inr (4, [.int out.1, .ref a2, .int out.2.2.2])), (a2, .inl (cI, out.2.1, .inl out.2.2.1))] := by
  intro sz
  refine Met.ofW (cc := cX0_endHeldBy) (maxL := 2) (ret := none) (by decide) rfl ?_
  intro p e s m args below meth c s₁ B hml hv
  obtain ⟨rfl, hsz, hP, hK, hD0⟩ := hv
  have hx := B.exec
  have hb := B.bytes
  have hr := B.returns
  have hts := atoms_spec (ws := wsX0_endHeldBy) B.pre
  have hown : s.vm.findClass RX0 = some m.cls := findClass_of_methodNamed B.named
  have hlocks := B.notSynchronized
  subst hsz
  have hD := hD0.self (sz := s.heap.size)
  generalize hAe : va_A ([(a0, .inr (0, [.ref a1, .int eb])), (a1, .inr (4, [.int er.1, .ref a2, .int er.2.2.2])), (a2, .inl (cI, er.2.1, .inl er.2.2.1))]) s.heap.size = A at hD ⊢
  have hA : ∀ q : Nat, s.heap.size ≤ q → A q := fun q h => by rw [← hAe]; exact Or.inr h
  have hS : va_S A s.heap s.heap [] := va_S.rf
  have hw0 := hts (.fieldLink RX0 16 "SpeedTurns$Effects" "rows" "LSpeedTurns$Table;") (List.mem_of_getElem? (i := 1) rfl)
  show W p l e ({ frames := 2, cells := 0, slots := 0, locals := 83 } : Room) s m _ below meth c s.heap [] 0 0 _ _
  refine W_genQ (fun Q hQ => ?_)
  have h := hf
  rw [fX0_endHeldBy] at h
  have hl := lv_entry ([.ref a0, .int p1]) (n := 2) (Nat.le_of_ble_eq_true rfl)
  rw [lg_entry_eq]
  generalize (lg_sl ([.ref a0, .int p1]) ++ List.replicate (2 - (lg_sl ([.ref a0, .int p1])).length) Slot.unset).toArray = ls at hl ⊢
  have hl : lv_has ls 2 [(0, .ref a0), (1, .int p1)] := hl
  refine lv_aload_n hx hb dX0_endHeldBy_0 rfl (lv_at hl 0 rfl) ?_
  refine va_get (D := G) (ci := 0) (v := .ref a1) (C := RX0) (T := TX0) (N := 2) hx hb hts huX0_endHeldBy_X0 hown hK.1 hP 0 rfl rfl 0 (by decide) hw0 (fun _ h9 => h9) rfl dX0_endHeldBy_1 ?_
  refine lv_aload_n hx hb dX0_endHeldBy_4 rfl (lv_at hl 0 rfl) ?_
  refine lv_iload_n hx hb dX0_endHeldBy_5 rfl (lv_at hl 1 rfl) ?_
  obtain ⟨x1, ex1, h⟩ := o_b h
  refine call_iV (As := [.int p1]) (rest := [.ref a1]) (ws2 := [(a0, .inr (0, [.ref a1, .int eb])), (a1, .inr (4, [.int er.1, .ref a2, .int er.2.2.2])), (a2, .inl (cI, er.2.1, .inl er.2.2.1))]) ⟨hx, hb, hml, hown, hts⟩ (cX0_heldBy_ok l G cI cG a0 a1 a2 fu er eb p1 x1 ex1) (cwV 1 hts gX0_endHeldBy_X0_heldBy_47 rfl rfl rfl hdX0_heldBy ⟨Nat.le_of_ble_eq_true rfl, Nat.le_of_ble_eq_true rfl⟩) hP hD hS hA hK 0 rfl rfl rfl [0, 1, 2] rfl rfl rfl rfl rfl rfl rfl rfl hl.1 (Nat.le_of_ble_eq_true rfl) dX0_endHeldBy_6 ⟨Nat.zero_le _, Nat.zero_le _⟩ (fun H locs hP hD hS => ?_)
  obtain ⟨x2, ex2, h⟩ := o_b h
  refine call_vV (As := [.int x1]) (rest := []) (ws2 := [(a0, .inr (0, [.ref a1, .int eb])), (a1, .inr (4, [.int x2.1, .ref a2, .int x2.2.2.2])), (a2, .inl (cI, x2.2.1, .inl x2.2.2.1))]) ⟨hx, hb, hml, hown, hts⟩ (cX4_remove_ok l G cI cG a1 a2 er x1 x2 ex2) (cwV 1 hts gX0_endHeldBy_X4_remove_51 rfl rfl rfl hdX4_remove ⟨Nat.le_of_ble_eq_true rfl, Nat.le_of_ble_eq_true rfl⟩) hP hD hS hA hK 4 rfl rfl rfl [1, 2] rfl rfl rfl rfl rfl rfl rfl rfl hl.1 (Nat.le_of_ble_eq_true rfl) dX0_endHeldBy_9 ⟨Nat.zero_le _, Nat.zero_le _⟩ (fun H locs hP hD hS => ?_)
  obtain rfl := o_s h
  rw [hQ]
  exact end_v hx hb hr hP hD hS dX0_endHeldBy_12 hlocks
theorem hdX0_begin : yX0_begin.cls = RX0 ∧ yX0_begin.cls ≠ "java/lang/invoke/MethodHandle" ∧ yX0_begin.cls ≠ "java/lang/invoke/VarHandle" ∧ (parseMethodDescriptor yX0_begin.desc).map (fun d => d.parameters.length) = some 6 := by decide +kernel
set_option maxHeartbeats 4000000 in
set_option maxRecDepth 100000 in
theorem cX0_begin_ok (l : Launch) (G : va_G) (cI cG : ClassId) (a0 a1 a2 : Nat) (fu : Nat) (er : Tab) (eb : Int32) (p1 : Int32) (p2 : Int32) (p3 : Int32) (p4 : Int32) (p5 : Int32) (p6 : Int32) (out : Tab × Int32) (hf : fX0_begin fu er eb p1 p2 p3 p4 p5 p6 = some out) : CV l G (tyz cI cG) yX0_begin wsX0_begin ({ frames := 3, cells := 0, slots := 0, locals := 104 } : Room) [.ref a0, .int p1, .int p2, .int p3, .int p4, .int p5, .int p6] [(a0, .inr (0, [.ref a1, .int eb])), (a1, .inr (4, [.int er.1, .ref a2, .int er.2.2.2])), (a2, .inl (cI, er.2.1, .inl er.2.2.1))] [(a0, .inr (0, [.ref a1, .int out.2])), (a1, .inr (4, [.int out.1.1, .ref a2, .int out.1.2.2.2])), (a2, .inl (cI, out.1.2.1, .inl out.1.2.2.1))] := by
  intro sz
  refine Met.ofW (cc := cX0_begin) (maxL := 9) (ret := none) (by decide) rfl ?_
  intro p e s m args below meth c s₁ B hml hv
  obtain ⟨rfl, hsz, hP, hK, hD0⟩ := hv
  have hx := B.exec
  have hb := B.bytes
  have hr := B.returns
  have hts := atoms_spec (ws := wsX0_begin) B.pre
  have hown : s.vm.findClass RX0 = some m.cls := findClass_of_methodNamed B.named
  have hlocks := B.notSynchronized
  subst hsz
  have hD := hD0.self (sz := s.heap.size)
  generalize hAe : va_A ([(a0, .inr (0, [.ref a1, .int eb])), (a1, .inr (4, [.int er.1, .ref a2, .int er.2.2.2])), (a2, .inl (cI, er.2.1, .inl er.2.2.1))]) s.heap.size = A at hD ⊢
  have hA : ∀ q : Nat, s.heap.size ≤ q → A q := fun q h => by rw [← hAe]; exact Or.inr h
  have hS : va_S A s.heap s.heap [] := va_S.rf
  have hw0 := hts (.fieldLink RX0 16 "SpeedTurns$Effects" "rows" "LSpeedTurns$Table;") (List.mem_of_getElem? (i := 1) rfl)
  have hw1 := hts (.fieldLink RX0 20 "SpeedTurns$Effects" "born" "I") (List.mem_of_getElem? (i := 15) rfl)
  show W p l e ({ frames := 3, cells := 0, slots := 0, locals := 104 } : Room) s m _ below meth c s.heap [] 0 0 _ _
  refine W_genQ (fun Q hQ => ?_)
  have J17 : ∀ (er : Tab) (v7 : Int32) (H : Heap) (locs : List Loc) (ls : Array Slot), fX0_begin_J17 fu eb p1 p2 p3 p4 p5 p6 er v7 = some out → va_P G vwCl ([(a0, .inr (0, [.ref a1, .int eb])), (a1, .inr (4, [.int er.1, .ref a2, .int er.2.2.2])), (a2, .inl (cI, er.2.1, .inl er.2.2.1))]) H → va_D A ([(a0, .inr (0, [.ref a1, .int eb])), (a1, .inr (4, [.int er.1, .ref a2, .int er.2.2.2])), (a2, .inl (cI, er.2.1, .inl er.2.2.1))]) → va_S A s.heap H locs → lv_has ls 9 [(0, .ref a0), (1, .int p1), (2, .int p2), (3, .int p3), (4, .int p4), (5, .int p5), (6, .int p6), (7, .int v7)] → W p l e ({ frames := 3, cells := 0, slots := 0, locals := 104 } : Room) s m ([.ref a0, .int p1, .int p2, .int p3, .int p4, .int p5, .int p6] : List Value).toArray below meth c H locs 0 0 Q (F0 m 17 ls []) := by
    intro er v7 H locs ls h hP hD hS hl
    rw [fX0_begin_J17] at h
    refine lv_aload_n hx hb dX0_begin_17 rfl (lv_at hl 0 rfl) ?_
    refine va_get (D := G) (ci := 0) (v := .ref a1) (C := RX0) (T := TX0) (N := 2) hx hb hts huX0_begin_X0 hown hK.1 hP 0 rfl rfl 0 (by decide) hw0 (fun _ h9 => h9) rfl dX0_begin_18 ?_
    obtain ⟨x1, ex1, h⟩ := o_b h
    refine call_iV (As := []) (rest := []) (ws2 := [(a0, .inr (0, [.ref a1, .int eb])), (a1, .inr (4, [.int er.1, .ref a2, .int er.2.2.2])), (a2, .inl (cI, er.2.1, .inl er.2.2.1))]) ⟨hx, hb, hml, hown, hts⟩ (cX4_isFull_ok l G cI cG a1 a2 er x1 ex1) (cwV 0 hts gX0_begin_X4_isFull_36 rfl rfl rfl hdX4_isFull ⟨Nat.le_of_ble_eq_true rfl, Nat.le_of_ble_eq_true rfl⟩) hP hD hS hA hK 4 rfl rfl rfl [1, 2] rfl rfl rfl rfl rfl rfl rfl rfl hl.1 (Nat.le_of_ble_eq_true rfl) dX0_begin_21 ⟨Nat.zero_le _, Nat.zero_le _⟩ (fun H locs hP hD hS => ?_)
    refine lv_if_eq (tgt := 28) hx hb dX0_begin_24 (by decide) (fun hc => ?_) (fun hc => ?_)
    · have h := o_t h hc
      refine lv_aload_n hx hb dX0_begin_28 rfl (lv_at hl 0 rfl) ?_
      refine va_get (D := G) (ci := 0) (v := .ref a1) (C := RX0) (T := TX0) (N := 2) hx hb hts huX0_begin_X0 hown hK.1 hP 0 rfl rfl 0 (by decide) hw0 (fun _ h9 => h9) rfl dX0_begin_29 ?_
      obtain ⟨x2, ex2, h⟩ := o_b h
      refine call_iV (As := []) (rest := []) (ws2 := [(a0, .inr (0, [.ref a1, .int eb])), (a1, .inr (4, [.int er.1, .ref a2, .int er.2.2.2])), (a2, .inl (cI, er.2.1, .inl er.2.2.1))]) ⟨hx, hb, hml, hown, hts⟩ (cX4_count_ok l G cI cG a1 a2 er x2 ex2) (cwV 0 hts gX0_begin_X4_count_24 rfl rfl rfl hdX4_count ⟨Nat.le_of_ble_eq_true rfl, Nat.le_of_ble_eq_true rfl⟩) hP hD hS hA hK 4 rfl rfl rfl [1, 2] rfl rfl rfl rfl rfl rfl rfl rfl hl.1 (Nat.le_of_ble_eq_true rfl) dX0_begin_32 ⟨Nat.zero_le _, Nat.zero_le _⟩ (fun H locs hP hD hS => ?_)
      refine lv_istore (lv' := [(8, .int x2), (0, .ref a0), (1, .int p1), (2, .int p2), (3, .int p3), (4, .int p4), (5, .int p5), (6, .int p6), (7, .int v7)]) hx hb dX0_begin_35 hl (by decide) rfl (fun ls hl => ?_)
      refine lv_aload_n hx hb dX0_begin_37 rfl (lv_at hl 1 rfl) ?_
      refine va_get (D := G) (ci := 0) (v := .ref a1) (C := RX0) (T := TX0) (N := 2) hx hb hts huX0_begin_X0 hown hK.1 hP 0 rfl rfl 0 (by decide) hw0 (fun _ h9 => h9) rfl dX0_begin_38 ?_
      refine lv_iload hx hb dX0_begin_41 (lv_at hl 0 rfl) ?_
      obtain ⟨x3, ex3, h⟩ := o_b h
      refine call_vV (As := [.int x2]) (rest := []) (ws2 := [(a0, .inr (0, [.ref a1, .int eb])), (a1, .inr (4, [.int x3.1, .ref a2, .int x3.2.2.2])), (a2, .inl (cI, x3.2.1, .inl x3.2.2.1))]) ⟨hx, hb, hml, hown, hts⟩ (cX4_insert_ok l G cI cG a1 a2 fu er x2 x3 ex3) (cwV 1 hts gX0_begin_X4_insert_40 rfl rfl rfl hdX4_insert ⟨Nat.le_of_ble_eq_true rfl, Nat.le_of_ble_eq_true rfl⟩) hP hD hS hA hK 4 rfl rfl rfl [1, 2] rfl rfl rfl rfl rfl rfl rfl rfl hl.1 (Nat.le_of_ble_eq_true rfl) dX0_begin_43 ⟨Nat.zero_le _, Nat.zero_le _⟩ (fun H locs hP hD hS => ?_)
      refine lv_aload_n hx hb dX0_begin_46 rfl (lv_at hl 1 rfl) ?_
      refine va_get (D := G) (ci := 0) (v := .ref a1) (C := RX0) (T := TX0) (N := 2) hx hb hts huX0_begin_X0 hown hK.1 hP 0 rfl rfl 0 (by decide) hw0 (fun _ h9 => h9) rfl dX0_begin_47 ?_
      refine lv_iload hx hb dX0_begin_50 (lv_at hl 0 rfl) ?_
      refine lv_iconst (v := 0) hx hb dX0_begin_52 (by decide) ?_
      refine lv_iload_n hx hb dX0_begin_53 rfl (lv_at hl 2 rfl) ?_
      obtain ⟨x4, ex4, h⟩ := o_b h
      refine call_vV (As := [.int x2, .int (0 : Int32), .int p1]) (rest := []) (ws2 := [(a0, .inr (0, [.ref a1, .int eb])), (a1, .inr (4, [.int x4.1, .ref a2, .int x4.2.2.2])), (a2, .inl (cI, x4.2.1, .inl x4.2.2.1))]) ⟨hx, hb, hml, hown, hts⟩ (cX4_put_ok l G cI cG a1 a2 x3 x2 (0 : Int32) p1 x4 ex4) (cwV 3 hts gX0_begin_X4_put_43 rfl rfl rfl hdX4_put ⟨Nat.le_of_ble_eq_true rfl, Nat.le_of_ble_eq_true rfl⟩) hP hD hS hA hK 4 rfl rfl rfl [1, 2] rfl rfl rfl rfl rfl rfl rfl rfl hl.1 (Nat.le_of_ble_eq_true rfl) dX0_begin_54 ⟨Nat.zero_le _, Nat.zero_le _⟩ (fun H locs hP hD hS => ?_)
      refine lv_aload_n hx hb dX0_begin_57 rfl (lv_at hl 1 rfl) ?_
      refine va_get (D := G) (ci := 0) (v := .ref a1) (C := RX0) (T := TX0) (N := 2) hx hb hts huX0_begin_X0 hown hK.1 hP 0 rfl rfl 0 (by decide) hw0 (fun _ h9 => h9) rfl dX0_begin_58 ?_
      refine lv_iload hx hb dX0_begin_61 (lv_at hl 0 rfl) ?_
      refine lv_iconst (v := 1) hx hb dX0_begin_63 (by decide) ?_
      refine lv_iload_n hx hb dX0_begin_64 rfl (lv_at hl 3 rfl) ?_
      obtain ⟨x5, ex5, h⟩ := o_b h
      refine call_vV (As := [.int x2, .int (1 : Int32), .int p2]) (rest := []) (ws2 := [(a0, .inr (0, [.ref a1, .int eb])), (a1, .inr (4, [.int x5.1, .ref a2, .int x5.2.2.2])), (a2, .inl (cI, x5.2.1, .inl x5.2.2.1))]) ⟨hx, hb, hml, hown, hts⟩ (cX4_put_ok l G cI cG a1 a2 x4 x2 (1 : Int32) p2 x5 ex5) (cwV 3 hts gX0_begin_X4_put_43 rfl rfl rfl hdX4_put ⟨Nat.le_of_ble_eq_true rfl, Nat.le_of_ble_eq_true rfl⟩) hP hD hS hA hK 4 rfl rfl rfl [1, 2] rfl rfl rfl rfl rfl rfl rfl rfl hl.1 (Nat.le_of_ble_eq_true rfl) dX0_begin_65 ⟨Nat.zero_le _, Nat.zero_le _⟩ (fun H locs hP hD hS => ?_)
      refine lv_aload_n hx hb dX0_begin_68 rfl (lv_at hl 1 rfl) ?_
      refine va_get (D := G) (ci := 0) (v := .ref a1) (C := RX0) (T := TX0) (N := 2) hx hb hts huX0_begin_X0 hown hK.1 hP 0 rfl rfl 0 (by decide) hw0 (fun _ h9 => h9) rfl dX0_begin_69 ?_
      refine lv_iload hx hb dX0_begin_72 (lv_at hl 0 rfl) ?_
      refine lv_iconst (v := 2) hx hb dX0_begin_74 (by decide) ?_
      refine lv_iload_n hx hb dX0_begin_75 rfl (lv_at hl 4 rfl) ?_
      obtain ⟨x6, ex6, h⟩ := o_b h
      refine call_vV (As := [.int x2, .int (2 : Int32), .int p3]) (rest := []) (ws2 := [(a0, .inr (0, [.ref a1, .int eb])), (a1, .inr (4, [.int x6.1, .ref a2, .int x6.2.2.2])), (a2, .inl (cI, x6.2.1, .inl x6.2.2.1))]) ⟨hx, hb, hml, hown, hts⟩ (cX4_put_ok l G cI cG a1 a2 x5 x2 (2 : Int32) p3 x6 ex6) (cwV 3 hts gX0_begin_X4_put_43 rfl rfl rfl hdX4_put ⟨Nat.le_of_ble_eq_true rfl, Nat.le_of_ble_eq_true rfl⟩) hP hD hS hA hK 4 rfl rfl rfl [1, 2] rfl rfl rfl rfl rfl rfl rfl rfl hl.1 (Nat.le_of_ble_eq_true rfl) dX0_begin_76 ⟨Nat.zero_le _, Nat.zero_le _⟩ (fun H locs hP hD hS => ?_)
      refine lv_aload_n hx hb dX0_begin_79 rfl (lv_at hl 1 rfl) ?_
      refine va_get (D := G) (ci := 0) (v := .ref a1) (C := RX0) (T := TX0) (N := 2) hx hb hts huX0_begin_X0 hown hK.1 hP 0 rfl rfl 0 (by decide) hw0 (fun _ h9 => h9) rfl dX0_begin_80 ?_
      refine lv_iload hx hb dX0_begin_83 (lv_at hl 0 rfl) ?_
      refine lv_iconst (v := 3) hx hb dX0_begin_85 (by decide) ?_
      refine lv_iload hx hb dX0_begin_86 (lv_at hl 5 rfl) ?_
      obtain ⟨x7, ex7, h⟩ := o_b h
      refine call_vV (As := [.int x2, .int (3 : Int32), .int p4]) (rest := []) (ws2 := [(a0, .inr (0, [.ref a1, .int eb])), (a1, .inr (4, [.int x7.1, .ref a2, .int x7.2.2.2])), (a2, .inl (cI, x7.2.1, .inl x7.2.2.1))]) ⟨hx, hb, hml, hown, hts⟩ (cX4_put_ok l G cI cG a1 a2 x6 x2 (3 : Int32) p4 x7 ex7) (cwV 3 hts gX0_begin_X4_put_43 rfl rfl rfl hdX4_put ⟨Nat.le_of_ble_eq_true rfl, Nat.le_of_ble_eq_true rfl⟩) hP hD hS hA hK 4 rfl rfl rfl [1, 2] rfl rfl rfl rfl rfl rfl rfl rfl hl.1 (Nat.le_of_ble_eq_true rfl) dX0_begin_88 ⟨Nat.zero_le _, Nat.zero_le _⟩ (fun H locs hP hD hS => ?_)
      refine lv_aload_n hx hb dX0_begin_91 rfl (lv_at hl 1 rfl) ?_
      refine va_get (D := G) (ci := 0) (v := .ref a1) (C := RX0) (T := TX0) (N := 2) hx hb hts huX0_begin_X0 hown hK.1 hP 0 rfl rfl 0 (by decide) hw0 (fun _ h9 => h9) rfl dX0_begin_92 ?_
      refine lv_iload hx hb dX0_begin_95 (lv_at hl 0 rfl) ?_
      refine lv_iconst (v := 4) hx hb dX0_begin_97 (by decide) ?_
      refine lv_iload hx hb dX0_begin_98 (lv_at hl 6 rfl) ?_
      obtain ⟨x8, ex8, h⟩ := o_b h
      refine call_vV (As := [.int x2, .int (4 : Int32), .int p5]) (rest := []) (ws2 := [(a0, .inr (0, [.ref a1, .int eb])), (a1, .inr (4, [.int x8.1, .ref a2, .int x8.2.2.2])), (a2, .inl (cI, x8.2.1, .inl x8.2.2.1))]) ⟨hx, hb, hml, hown, hts⟩ (cX4_put_ok l G cI cG a1 a2 x7 x2 (4 : Int32) p5 x8 ex8) (cwV 3 hts gX0_begin_X4_put_43 rfl rfl rfl hdX4_put ⟨Nat.le_of_ble_eq_true rfl, Nat.le_of_ble_eq_true rfl⟩) hP hD hS hA hK 4 rfl rfl rfl [1, 2] rfl rfl rfl rfl rfl rfl rfl rfl hl.1 (Nat.le_of_ble_eq_true rfl) dX0_begin_100 ⟨Nat.zero_le _, Nat.zero_le _⟩ (fun H locs hP hD hS => ?_)
      refine lv_aload_n hx hb dX0_begin_103 rfl (lv_at hl 1 rfl) ?_
      refine va_get (D := G) (ci := 0) (v := .ref a1) (C := RX0) (T := TX0) (N := 2) hx hb hts huX0_begin_X0 hown hK.1 hP 0 rfl rfl 0 (by decide) hw0 (fun _ h9 => h9) rfl dX0_begin_104 ?_
      refine lv_iload hx hb dX0_begin_107 (lv_at hl 0 rfl) ?_
      refine lv_iconst (v := 5) hx hb dX0_begin_109 (by decide) ?_
      refine lv_iload hx hb dX0_begin_110 (lv_at hl 7 rfl) ?_
      refine lv_iconst (v := 2) hx hb dX0_begin_112 (by decide) ?_
      refine lv_idiv hx hb dX0_begin_113 (by decide) ?_
      obtain ⟨x9, ex9, h⟩ := o_b h
      refine call_vV (As := [.int x2, .int (5 : Int32), .int (p6 / (2 : Int32))]) (rest := []) (ws2 := [(a0, .inr (0, [.ref a1, .int eb])), (a1, .inr (4, [.int x9.1, .ref a2, .int x9.2.2.2])), (a2, .inl (cI, x9.2.1, .inl x9.2.2.1))]) ⟨hx, hb, hml, hown, hts⟩ (cX4_put_ok l G cI cG a1 a2 x8 x2 (5 : Int32) (p6 / (2 : Int32)) x9 ex9) (cwV 3 hts gX0_begin_X4_put_43 rfl rfl rfl hdX4_put ⟨Nat.le_of_ble_eq_true rfl, Nat.le_of_ble_eq_true rfl⟩) hP hD hS hA hK 4 rfl rfl rfl [1, 2] rfl rfl rfl rfl rfl rfl rfl rfl hl.1 (Nat.le_of_ble_eq_true rfl) dX0_begin_114 ⟨Nat.zero_le _, Nat.zero_le _⟩ (fun H locs hP hD hS => ?_)
      refine lv_aload_n hx hb dX0_begin_117 rfl (lv_at hl 1 rfl) ?_
      refine va_get (D := G) (ci := 0) (v := .ref a1) (C := RX0) (T := TX0) (N := 2) hx hb hts huX0_begin_X0 hown hK.1 hP 0 rfl rfl 0 (by decide) hw0 (fun _ h9 => h9) rfl dX0_begin_118 ?_
      refine lv_iload hx hb dX0_begin_121 (lv_at hl 0 rfl) ?_
      refine lv_bipush (v := 6) hx hb dX0_begin_123 (by decide) ?_
      refine lv_iload hx hb dX0_begin_125 (lv_at hl 8 rfl) ?_
      obtain ⟨x10, ex10, h⟩ := o_b h
      refine call_vV (As := [.int x2, .int (6 : Int32), .int v7]) (rest := []) (ws2 := [(a0, .inr (0, [.ref a1, .int eb])), (a1, .inr (4, [.int x10.1, .ref a2, .int x10.2.2.2])), (a2, .inl (cI, x10.2.1, .inl x10.2.2.1))]) ⟨hx, hb, hml, hown, hts⟩ (cX4_put_ok l G cI cG a1 a2 x9 x2 (6 : Int32) v7 x10 ex10) (cwV 3 hts gX0_begin_X4_put_43 rfl rfl rfl hdX4_put ⟨Nat.le_of_ble_eq_true rfl, Nat.le_of_ble_eq_true rfl⟩) hP hD hS hA hK 4 rfl rfl rfl [1, 2] rfl rfl rfl rfl rfl rfl rfl rfl hl.1 (Nat.le_of_ble_eq_true rfl) dX0_begin_127 ⟨Nat.zero_le _, Nat.zero_le _⟩ (fun H locs hP hD hS => ?_)
      refine lv_aload_n hx hb dX0_begin_130 rfl (lv_at hl 1 rfl) ?_
      refine va_get (D := G) (ci := 0) (v := .ref a1) (C := RX0) (T := TX0) (N := 2) hx hb hts huX0_begin_X0 hown hK.1 hP 0 rfl rfl 0 (by decide) hw0 (fun _ h9 => h9) rfl dX0_begin_131 ?_
      refine lv_iload hx hb dX0_begin_134 (lv_at hl 0 rfl) ?_
      refine lv_bipush (v := 7) hx hb dX0_begin_136 (by decide) ?_
      refine lv_aload_n hx hb dX0_begin_138 rfl (lv_at hl 1 rfl) ?_
      refine va_get (D := G) (ci := 0) (v := .int eb) (C := RX0) (T := TX0) (N := 2) hx hb hts huX0_begin_X0 hown hK.1 hP 0 rfl rfl 1 (by decide) hw1 (fun _ h9 => h9) rfl dX0_begin_139 ?_
      obtain ⟨x11, ex11, h⟩ := o_b h
      refine call_vV (As := [.int x2, .int (7 : Int32), .int eb]) (rest := []) (ws2 := [(a0, .inr (0, [.ref a1, .int eb])), (a1, .inr (4, [.int x11.1, .ref a2, .int x11.2.2.2])), (a2, .inl (cI, x11.2.1, .inl x11.2.2.1))]) ⟨hx, hb, hml, hown, hts⟩ (cX4_put_ok l G cI cG a1 a2 x10 x2 (7 : Int32) eb x11 ex11) (cwV 3 hts gX0_begin_X4_put_43 rfl rfl rfl hdX4_put ⟨Nat.le_of_ble_eq_true rfl, Nat.le_of_ble_eq_true rfl⟩) hP hD hS hA hK 4 rfl rfl rfl [1, 2] rfl rfl rfl rfl rfl rfl rfl rfl hl.1 (Nat.le_of_ble_eq_true rfl) dX0_begin_142 ⟨Nat.zero_le _, Nat.zero_le _⟩ (fun H locs hP hD hS => ?_)
      refine lv_aload_n hx hb dX0_begin_145 rfl (lv_at hl 1 rfl) ?_
      refine lv_dup hx hb dX0_begin_146 rfl ?_
      refine va_get (D := G) (ci := 0) (v := .int eb) (C := RX0) (T := TX0) (N := 2) hx hb hts huX0_begin_X0 hown hK.1 hP 0 rfl rfl 1 (by decide) hw1 (fun _ h9 => h9) rfl dX0_begin_147 ?_
      refine lv_iconst (v := 1) hx hb dX0_begin_150 (by decide) ?_
      refine lv_iadd hx hb dX0_begin_151 ?_
      refine va_put (D := G) (ci := 0) (v := .int (eb + (1 : Int32))) (ty := .int) (C := RX0) (T := TX0) (N := 2) hx hb hts huX0_begin_X0 tyX0 tyX0_ok nmX0 hown hK.1 hP hD hS 0 rfl rfl 1 (by decide) hw1 (fun _ h9 => h9) rfl (by decide +kernel) rfl rfl (Nat.le_of_ble_eq_true rfl) dX0_begin_152 (fun H locs hP hD hS => ?_)
      have hP : va_P G vwCl ([(a0, .inr (0, [.ref a1, .int (eb + (1 : Int32))])), (a1, .inr (4, [.int x11.1, .ref a2, .int x11.2.2.2])), (a2, .inl (cI, x11.2.1, .inl x11.2.2.1))]) H := hP
      have hD : va_D A ([(a0, .inr (0, [.ref a1, .int (eb + (1 : Int32))])), (a1, .inr (4, [.int x11.1, .ref a2, .int x11.2.2.2])), (a2, .inl (cI, x11.2.1, .inl x11.2.2.1))]) := hD
      obtain rfl := o_s h
      rw [hQ]
      exact end_v hx hb hr hP hD hS dX0_begin_155 hlocks
    · have h := o_f h hc
      obtain rfl := o_s h
      rw [hQ]
      exact end_v hx hb hr hP hD hS dX0_begin_27 hlocks
  have h := hf
  rw [fX0_begin] at h
  have hl := lv_entry ([.ref a0, .int p1, .int p2, .int p3, .int p4, .int p5, .int p6]) (n := 9) (Nat.le_of_ble_eq_true rfl)
  rw [lg_entry_eq]
  generalize (lg_sl ([.ref a0, .int p1, .int p2, .int p3, .int p4, .int p5, .int p6]) ++ List.replicate (9 - (lg_sl ([.ref a0, .int p1, .int p2, .int p3, .int p4, .int p5, .int p6])).length) Slot.unset).toArray = ls at hl ⊢
  have hl : lv_has ls 9 [(0, .ref a0), (1, .int p1), (2, .int p2), (3, .int p3), (4, .int p4), (5, .int p5), (6, .int p6)] := hl
  refine lv_iload hx hb dX0_begin_0 (lv_at hl 6 rfl) ?_
  refine lv_iconst (v := 2) hx hb dX0_begin_2 (by decide) ?_
  refine lv_irem hx hb dX0_begin_3 (by decide) ?_
  refine lv_istore (lv' := [(7, .int (p6 - p6 / (2 : Int32) * (2 : Int32))), (0, .ref a0), (1, .int p1), (2, .int p2), (3, .int p3), (4, .int p4), (5, .int p5), (6, .int p6)]) hx hb dX0_begin_4 hl (by decide) rfl (fun ls hl => ?_)
  refine lv_iload hx hb dX0_begin_6 (lv_at hl 0 rfl) ?_
  refine lv_iconst (v := 1) hx hb dX0_begin_8 (by decide) ?_
  refine lv_icmp_ne (tgt := 17) hx hb dX0_begin_9 (by decide) (fun hc => ?_) (fun hc => ?_)
  · have h := o_f h hc
    exact J17 er (p6 - p6 / (2 : Int32) * (2 : Int32)) _ _ _ h hP hD hS (lv_sub hl [1, 2, 3, 4, 5, 6, 7, 0] rfl)
  · have h := o_t h hc
    refine lv_aload_n hx hb dX0_begin_12 rfl (lv_at hl 1 rfl) ?_
    refine lv_iload_n hx hb dX0_begin_13 rfl (lv_at hl 4 rfl) ?_
    obtain ⟨x12, ex12, h⟩ := o_b h
    refine call_vV (As := [.int p3]) (rest := []) (ws2 := [(a0, .inr (0, [.ref a1, .int eb])), (a1, .inr (4, [.int x12.1, .ref a2, .int x12.2.2.2])), (a2, .inl (cI, x12.2.1, .inl x12.2.2.1))]) ⟨hx, hb, hml, hown, hts⟩ (cX0_endHeldBy_ok l G cI cG a0 a1 a2 fu er eb p3 x12 ex12) (cwV 1 hts gX0_begin_X0_endHeldBy_32 rfl rfl rfl hdX0_endHeldBy ⟨Nat.le_of_ble_eq_true rfl, Nat.le_of_ble_eq_true rfl⟩) hP hD hS hA hK 0 rfl rfl rfl [0, 1, 2] rfl rfl rfl rfl rfl rfl rfl rfl hl.1 (Nat.le_of_ble_eq_true rfl) dX0_begin_14 ⟨Nat.zero_le _, Nat.zero_le _⟩ (fun H locs hP hD hS => ?_)
    exact J17 x12 (p6 - p6 / (2 : Int32) * (2 : Int32)) _ _ _ h hP hD hS (lv_sub hl [1, 2, 3, 4, 5, 6, 7, 0] rfl)
theorem hdX0_endOfFallen : yX0_endOfFallen.cls = RX0 ∧ yX0_endOfFallen.cls ≠ "java/lang/invoke/MethodHandle" ∧ yX0_endOfFallen.cls ≠ "java/lang/invoke/VarHandle" ∧ (parseMethodDescriptor yX0_endOfFallen.desc).map (fun d => d.parameters.length) = some 1 := by decide +kernel
set_option maxHeartbeats 4000000 in
set_option maxRecDepth 100000 in
theorem cX0_endOfFallen_ok (l : Launch) (G : va_G) (cI cG : ClassId) (a0 a1 a2 : Nat) (fu : Nat) (er : Tab) (eb : Int32) (p1 : Int32) (out : Tab) (hf : fX0_endOfFallen fu er p1 = some out) : CV l G (tyz cI cG) yX0_endOfFallen wsX0_endOfFallen ({ frames := 2, cells := 0, slots := 0, locals := 83 } : Room) [.ref a0, .int p1] [(a0, .inr (0, [.ref a1, .int eb])), (a1, .inr (4, [.int er.1, .ref a2, .int er.2.2.2])), (a2, .inl (cI, er.2.1, .inl er.2.2.1))] [(a0, .inr (0, [.ref a1, .int eb])), (a1, .inr (4, [.int out.1, .ref a2, .int out.2.2.2])), (a2, .inl (cI, out.2.1, .inl out.2.2.1))] := by
  intro sz
  refine Met.ofW (cc := cX0_endOfFallen) (maxL := 4) (ret := none) (by decide) rfl ?_
  intro p e s m args below meth c s₁ B hml hv
  obtain ⟨rfl, hsz, hP, hK, hD0⟩ := hv
  have hx := B.exec
  have hb := B.bytes
  have hr := B.returns
  have hts := atoms_spec (ws := wsX0_endOfFallen) B.pre
  have hown : s.vm.findClass RX0 = some m.cls := findClass_of_methodNamed B.named
  have hlocks := B.notSynchronized
  subst hsz
  have hD := hD0.self (sz := s.heap.size)
  generalize hAe : va_A ([(a0, .inr (0, [.ref a1, .int eb])), (a1, .inr (4, [.int er.1, .ref a2, .int er.2.2.2])), (a2, .inl (cI, er.2.1, .inl er.2.2.1))]) s.heap.size = A at hD ⊢
  have hA : ∀ q : Nat, s.heap.size ≤ q → A q := fun q h => by rw [← hAe]; exact Or.inr h
  have hS : va_S A s.heap s.heap [] := va_S.rf
  have hw0 := hts (.fieldLink RX0 16 "SpeedTurns$Effects" "rows" "LSpeedTurns$Table;") (List.mem_of_getElem? (i := 1) rfl)
  show W p l e ({ frames := 2, cells := 0, slots := 0, locals := 83 } : Room) s m _ below meth c s.heap [] 0 0 _ _
  refine W_genQ (fun Q hQ => ?_)
  have J76 : ∀ (er : Tab) (v2 : Int32) (rec : Tab → Int32 → Option (Tab)), (∀ (er : Tab) (v2 : Int32) (H : Heap) (locs : List Loc) (ls : Array Slot), rec er v2 = some out → va_P G vwCl ([(a0, .inr (0, [.ref a1, .int eb])), (a1, .inr (4, [.int er.1, .ref a2, .int er.2.2.2])), (a2, .inl (cI, er.2.1, .inl er.2.2.1))]) H → va_D A ([(a0, .inr (0, [.ref a1, .int eb])), (a1, .inr (4, [.int er.1, .ref a2, .int er.2.2.2])), (a2, .inl (cI, er.2.1, .inl er.2.2.1))]) → va_S A s.heap H locs → lv_has ls 4 [(0, .ref a0), (1, .int p1), (2, .int v2)] → W p l e ({ frames := 2, cells := 0, slots := 0, locals := 83 } : Room) s m ([.ref a0, .int p1] : List Value).toArray below meth c H locs 0 0 Q (F0 m 10 ls [])) → ∀ (H : Heap) (locs : List Loc) (ls : Array Slot), fX0_endOfFallen_J76 fu p1 er v2 rec = some out → va_P G vwCl ([(a0, .inr (0, [.ref a1, .int eb])), (a1, .inr (4, [.int er.1, .ref a2, .int er.2.2.2])), (a2, .inl (cI, er.2.1, .inl er.2.2.1))]) H → va_D A ([(a0, .inr (0, [.ref a1, .int eb])), (a1, .inr (4, [.int er.1, .ref a2, .int er.2.2.2])), (a2, .inl (cI, er.2.1, .inl er.2.2.1))]) → va_S A s.heap H locs → lv_has ls 4 [(0, .ref a0), (1, .int p1), (2, .int v2)] → W p l e ({ frames := 2, cells := 0, slots := 0, locals := 83 } : Room) s m ([.ref a0, .int p1] : List Value).toArray below meth c H locs 0 0 Q (F0 m 76 ls []) := by
    intro er v2 rec hrec H locs ls h hP hD hS hl
    rw [fX0_endOfFallen_J76] at h
    refine lv_aload_n hx hb dX0_endOfFallen_76 rfl (lv_at hl 0 rfl) ?_
    refine va_get (D := G) (ci := 0) (v := .ref a1) (C := RX0) (T := TX0) (N := 2) hx hb hts huX0_endOfFallen_X0 hown hK.1 hP 0 rfl rfl 0 (by decide) hw0 (fun _ h9 => h9) rfl dX0_endOfFallen_77 ?_
    refine lv_iload_n hx hb dX0_endOfFallen_80 rfl (lv_at hl 2 rfl) ?_
    obtain ⟨x4, ex4, h⟩ := o_b h
    refine call_vV (As := [.int v2]) (rest := []) (ws2 := [(a0, .inr (0, [.ref a1, .int eb])), (a1, .inr (4, [.int x4.1, .ref a2, .int x4.2.2.2])), (a2, .inl (cI, x4.2.1, .inl x4.2.2.1))]) ⟨hx, hb, hml, hown, hts⟩ (cX4_remove_ok l G cI cG a1 a2 er v2 x4 ex4) (cwV 1 hts gX0_endOfFallen_X4_remove_51 rfl rfl rfl hdX4_remove ⟨Nat.le_of_ble_eq_true rfl, Nat.le_of_ble_eq_true rfl⟩) hP hD hS hA hK 4 rfl rfl rfl [1, 2] rfl rfl rfl rfl rfl rfl rfl rfl hl.1 (Nat.le_of_ble_eq_true rfl) dX0_endOfFallen_81 ⟨Nat.zero_le _, Nat.zero_le _⟩ (fun H locs hP hD hS => ?_)
    refine lv_iinc (v := (v2 + (-1))) (lv' := [(2, .int (v2 + (-1))), (0, .ref a0), (1, .int p1)]) hx hb dX0_endOfFallen_84 hl (k := 2) rfl rfl (by decide) rfl (fun ls hl => ?_)
    refine lv_goto (tgt := 10) hx hb dX0_endOfFallen_87 (by decide) ?_
    exact hrec x4 (v2 + (-1)) _ _ _ h hP hD hS (lv_sub hl [1, 2, 0] rfl)
  have J45 : ∀ (er : Tab) (v2 : Int32) (t0 : Bool) (rec : Tab → Int32 → Option (Tab)), (∀ (er : Tab) (v2 : Int32) (H : Heap) (locs : List Loc) (ls : Array Slot), rec er v2 = some out → va_P G vwCl ([(a0, .inr (0, [.ref a1, .int eb])), (a1, .inr (4, [.int er.1, .ref a2, .int er.2.2.2])), (a2, .inl (cI, er.2.1, .inl er.2.2.1))]) H → va_D A ([(a0, .inr (0, [.ref a1, .int eb])), (a1, .inr (4, [.int er.1, .ref a2, .int er.2.2.2])), (a2, .inl (cI, er.2.1, .inl er.2.2.1))]) → va_S A s.heap H locs → lv_has ls 4 [(0, .ref a0), (1, .int p1), (2, .int v2)] → W p l e ({ frames := 2, cells := 0, slots := 0, locals := 83 } : Room) s m ([.ref a0, .int p1] : List Value).toArray below meth c H locs 0 0 Q (F0 m 10 ls [])) → ∀ (H : Heap) (locs : List Loc) (ls : Array Slot), fX0_endOfFallen_J45 fu p1 er v2 t0 rec = some out → va_P G vwCl ([(a0, .inr (0, [.ref a1, .int eb])), (a1, .inr (4, [.int er.1, .ref a2, .int er.2.2.2])), (a2, .inl (cI, er.2.1, .inl er.2.2.1))]) H → va_D A ([(a0, .inr (0, [.ref a1, .int eb])), (a1, .inr (4, [.int er.1, .ref a2, .int er.2.2.2])), (a2, .inl (cI, er.2.1, .inl er.2.2.1))]) → va_S A s.heap H locs → lv_has ls 4 [(0, .ref a0), (1, .int p1), (2, .int v2)] → W p l e ({ frames := 2, cells := 0, slots := 0, locals := 83 } : Room) s m ([.ref a0, .int p1] : List Value).toArray below meth c H locs 0 0 Q (F0 m 45 ls [.int (bI t0)]) := by
    intro er v2 t0 rec hrec H locs ls h hP hD hS hl
    rw [fX0_endOfFallen_J45] at h
    refine lv_istore_n (lv' := [(3, .int (bI t0)), (0, .ref a0), (1, .int p1), (2, .int v2)]) hx hb dX0_endOfFallen_45 rfl hl (by decide) rfl (fun ls hl => ?_)
    refine lv_aload_n hx hb dX0_endOfFallen_46 rfl (lv_at hl 1 rfl) ?_
    refine va_get (D := G) (ci := 0) (v := .ref a1) (C := RX0) (T := TX0) (N := 2) hx hb hts huX0_endOfFallen_X0 hown hK.1 hP 0 rfl rfl 0 (by decide) hw0 (fun _ h9 => h9) rfl dX0_endOfFallen_47 ?_
    refine lv_iload_n hx hb dX0_endOfFallen_50 rfl (lv_at hl 3 rfl) ?_
    refine lv_iconst (v := 3) hx hb dX0_endOfFallen_51 (by decide) ?_
    obtain ⟨x3, ex3, h⟩ := o_b h
    refine call_iV (As := [.int v2, .int (3 : Int32)]) (rest := []) (ws2 := [(a0, .inr (0, [.ref a1, .int eb])), (a1, .inr (4, [.int er.1, .ref a2, .int er.2.2.2])), (a2, .inl (cI, er.2.1, .inl er.2.2.1))]) ⟨hx, hb, hml, hown, hts⟩ (cX4_at_ok l G cI cG a1 a2 er v2 (3 : Int32) x3 ex3) (cwV 2 hts gX0_endOfFallen_X4_at_28 rfl rfl rfl hdX4_at ⟨Nat.le_of_ble_eq_true rfl, Nat.le_of_ble_eq_true rfl⟩) hP hD hS hA hK 4 rfl rfl rfl [1, 2] rfl rfl rfl rfl rfl rfl rfl rfl hl.1 (Nat.le_of_ble_eq_true rfl) dX0_endOfFallen_52 ⟨Nat.zero_le _, Nat.zero_le _⟩ (fun H locs hP hD hS => ?_)
    refine lv_iload_n hx hb dX0_endOfFallen_55 rfl (lv_at hl 2 rfl) ?_
    refine lv_icmp_eq (tgt := 76) hx hb dX0_endOfFallen_56 (by decide) (fun hc => ?_) (fun hc => ?_)
    · have h := o_t h hc
      exact J76 er v2 rec hrec _ _ _ h hP hD hS (lv_sub hl [1, 2, 3] rfl)
    · have h := o_f h hc
      refine lv_iload_n hx hb dX0_endOfFallen_59 rfl (lv_at hl 0 rfl) ?_
      refine lv_if_eq (tgt := 84) hx hb dX0_endOfFallen_60 (by decide) (fun hc => ?_) (fun hc => ?_)
      · have h := o_t h hc
        refine lv_iinc (v := (v2 + (-1))) (lv' := [(2, .int (v2 + (-1))), (3, .int (bI t0)), (0, .ref a0), (1, .int p1)]) hx hb dX0_endOfFallen_84 hl (k := 3) rfl rfl (by decide) rfl (fun ls hl => ?_)
        refine lv_goto (tgt := 10) hx hb dX0_endOfFallen_87 (by decide) ?_
        exact hrec er (v2 + (-1)) _ _ _ h hP hD hS (lv_sub hl [2, 3, 0] rfl)
      · have h := o_f h hc
        refine lv_aload_n hx hb dX0_endOfFallen_63 rfl (lv_at hl 1 rfl) ?_
        refine va_get (D := G) (ci := 0) (v := .ref a1) (C := RX0) (T := TX0) (N := 2) hx hb hts huX0_endOfFallen_X0 hown hK.1 hP 0 rfl rfl 0 (by decide) hw0 (fun _ h9 => h9) rfl dX0_endOfFallen_64 ?_
        refine lv_iload_n hx hb dX0_endOfFallen_67 rfl (lv_at hl 3 rfl) ?_
        refine lv_iconst (v := 2) hx hb dX0_endOfFallen_68 (by decide) ?_
        obtain ⟨x5, ex5, h⟩ := o_b h
        refine call_iV (As := [.int v2, .int (2 : Int32)]) (rest := []) (ws2 := [(a0, .inr (0, [.ref a1, .int eb])), (a1, .inr (4, [.int er.1, .ref a2, .int er.2.2.2])), (a2, .inl (cI, er.2.1, .inl er.2.2.1))]) ⟨hx, hb, hml, hown, hts⟩ (cX4_at_ok l G cI cG a1 a2 er v2 (2 : Int32) x5 ex5) (cwV 2 hts gX0_endOfFallen_X4_at_28 rfl rfl rfl hdX4_at ⟨Nat.le_of_ble_eq_true rfl, Nat.le_of_ble_eq_true rfl⟩) hP hD hS hA hK 4 rfl rfl rfl [1, 2] rfl rfl rfl rfl rfl rfl rfl rfl hl.1 (Nat.le_of_ble_eq_true rfl) dX0_endOfFallen_69 ⟨Nat.zero_le _, Nat.zero_le _⟩ (fun H locs hP hD hS => ?_)
        refine lv_iload_n hx hb dX0_endOfFallen_72 rfl (lv_at hl 2 rfl) ?_
        refine lv_icmp_ne (tgt := 84) hx hb dX0_endOfFallen_73 (by decide) (fun hc => ?_) (fun hc => ?_)
        · have h := o_f h hc
          refine lv_iinc (v := (v2 + (-1))) (lv' := [(2, .int (v2 + (-1))), (3, .int (bI t0)), (0, .ref a0), (1, .int p1)]) hx hb dX0_endOfFallen_84 hl (k := 3) rfl rfl (by decide) rfl (fun ls hl => ?_)
          refine lv_goto (tgt := 10) hx hb dX0_endOfFallen_87 (by decide) ?_
          exact hrec er (v2 + (-1)) _ _ _ h hP hD hS (lv_sub hl [2, 3, 0] rfl)
        · have h := o_t h hc
          exact J76 er v2 rec hrec _ _ _ h hP hD hS (lv_sub hl [1, 2, 3] rfl)
  have J40 : ∀ (er : Tab) (v2 : Int32) (rec : Tab → Int32 → Option (Tab)), (∀ (er : Tab) (v2 : Int32) (H : Heap) (locs : List Loc) (ls : Array Slot), rec er v2 = some out → va_P G vwCl ([(a0, .inr (0, [.ref a1, .int eb])), (a1, .inr (4, [.int er.1, .ref a2, .int er.2.2.2])), (a2, .inl (cI, er.2.1, .inl er.2.2.1))]) H → va_D A ([(a0, .inr (0, [.ref a1, .int eb])), (a1, .inr (4, [.int er.1, .ref a2, .int er.2.2.2])), (a2, .inl (cI, er.2.1, .inl er.2.2.1))]) → va_S A s.heap H locs → lv_has ls 4 [(0, .ref a0), (1, .int p1), (2, .int v2)] → W p l e ({ frames := 2, cells := 0, slots := 0, locals := 83 } : Room) s m ([.ref a0, .int p1] : List Value).toArray below meth c H locs 0 0 Q (F0 m 10 ls [])) → ∀ (H : Heap) (locs : List Loc) (ls : Array Slot), fX0_endOfFallen_J40 fu p1 er v2 rec = some out → va_P G vwCl ([(a0, .inr (0, [.ref a1, .int eb])), (a1, .inr (4, [.int er.1, .ref a2, .int er.2.2.2])), (a2, .inl (cI, er.2.1, .inl er.2.2.1))]) H → va_D A ([(a0, .inr (0, [.ref a1, .int eb])), (a1, .inr (4, [.int er.1, .ref a2, .int er.2.2.2])), (a2, .inl (cI, er.2.1, .inl er.2.2.1))]) → va_S A s.heap H locs → lv_has ls 4 [(0, .ref a0), (1, .int p1), (2, .int v2)] → W p l e ({ frames := 2, cells := 0, slots := 0, locals := 83 } : Room) s m ([.ref a0, .int p1] : List Value).toArray below meth c H locs 0 0 Q (F0 m 40 ls []) := by
    intro er v2 rec hrec H locs ls h hP hD hS hl
    rw [fX0_endOfFallen_J40] at h
    refine lv_iconst (v := 1) hx hb dX0_endOfFallen_40 (by decide) ?_
    refine lv_goto (tgt := 45) hx hb dX0_endOfFallen_41 (by decide) ?_
    exact J45 er v2 true rec hrec _ _ _ h hP hD hS (lv_sub hl [0, 1, 2] rfl)
  have L10 : ∀  (k : Nat) (er : Tab) (v2 : Int32) (H : Heap) (locs : List Loc) (ls : Array Slot), fX0_endOfFallen_L10 fu p1 k er v2 = some out → va_P G vwCl ([(a0, .inr (0, [.ref a1, .int eb])), (a1, .inr (4, [.int er.1, .ref a2, .int er.2.2.2])), (a2, .inl (cI, er.2.1, .inl er.2.2.1))]) H → va_D A ([(a0, .inr (0, [.ref a1, .int eb])), (a1, .inr (4, [.int er.1, .ref a2, .int er.2.2.2])), (a2, .inl (cI, er.2.1, .inl er.2.2.1))]) → va_S A s.heap H locs → lv_has ls 4 [(0, .ref a0), (1, .int p1), (2, .int v2)] → W p l e ({ frames := 2, cells := 0, slots := 0, locals := 83 } : Room) s m ([.ref a0, .int p1] : List Value).toArray below meth c H locs 0 0 Q (F0 m 10 ls []) := by
    intro  k
    induction k with
    | zero => intro er v2 H locs ls h hP hD hS hl; rw [fX0_endOfFallen_L10] at h; exact o_n h
    | succ k ih =>
      intro er v2 H locs ls h hP hD hS hl
      rw [fX0_endOfFallen_L10] at h
      refine lv_iload_n hx hb dX0_endOfFallen_10 rfl (lv_at hl 2 rfl) ?_
      refine lv_if_lt (tgt := 90) hx hb dX0_endOfFallen_11 (by decide) (fun hc => ?_) (fun hc => ?_)
      · have h := o_t h hc
        obtain rfl := o_s h
        rw [hQ]
        exact end_v hx hb hr hP hD hS dX0_endOfFallen_90 hlocks
      · have h := o_f h hc
        refine lv_aload_n hx hb dX0_endOfFallen_14 rfl (lv_at hl 0 rfl) ?_
        refine va_get (D := G) (ci := 0) (v := .ref a1) (C := RX0) (T := TX0) (N := 2) hx hb hts huX0_endOfFallen_X0 hown hK.1 hP 0 rfl rfl 0 (by decide) hw0 (fun _ h9 => h9) rfl dX0_endOfFallen_15 ?_
        refine lv_iload_n hx hb dX0_endOfFallen_18 rfl (lv_at hl 2 rfl) ?_
        refine lv_bipush (v := 6) hx hb dX0_endOfFallen_19 (by decide) ?_
        obtain ⟨x2, ex2, h⟩ := o_b h
        refine call_iV (As := [.int v2, .int (6 : Int32)]) (rest := []) (ws2 := [(a0, .inr (0, [.ref a1, .int eb])), (a1, .inr (4, [.int er.1, .ref a2, .int er.2.2.2])), (a2, .inl (cI, er.2.1, .inl er.2.2.1))]) ⟨hx, hb, hml, hown, hts⟩ (cX4_at_ok l G cI cG a1 a2 er v2 (6 : Int32) x2 ex2) (cwV 2 hts gX0_endOfFallen_X4_at_28 rfl rfl rfl hdX4_at ⟨Nat.le_of_ble_eq_true rfl, Nat.le_of_ble_eq_true rfl⟩) hP hD hS hA hK 4 rfl rfl rfl [1, 2] rfl rfl rfl rfl rfl rfl rfl rfl hl.1 (Nat.le_of_ble_eq_true rfl) dX0_endOfFallen_21 ⟨Nat.zero_le _, Nat.zero_le _⟩ (fun H locs hP hD hS => ?_)
        refine lv_iconst (v := 1) hx hb dX0_endOfFallen_24 (by decide) ?_
        refine lv_icmp_eq (tgt := 40) hx hb dX0_endOfFallen_25 (by decide) (fun hc => ?_) (fun hc => ?_)
        · have h := o_t h hc
          exact J40 er v2 (fun er v2 => fX0_endOfFallen_L10 fu p1 k er v2) (fun er v2 H locs ls h hP hD hS hl => ih er v2 H locs ls h hP hD hS hl) _ _ _ h hP hD hS (lv_sub hl [0, 1, 2] rfl)
        · have h := o_f h hc
          refine lv_aload_n hx hb dX0_endOfFallen_28 rfl (lv_at hl 0 rfl) ?_
          refine va_get (D := G) (ci := 0) (v := .ref a1) (C := RX0) (T := TX0) (N := 2) hx hb hts huX0_endOfFallen_X0 hown hK.1 hP 0 rfl rfl 0 (by decide) hw0 (fun _ h9 => h9) rfl dX0_endOfFallen_29 ?_
          refine lv_iload_n hx hb dX0_endOfFallen_32 rfl (lv_at hl 2 rfl) ?_
          refine lv_iconst (v := 5) hx hb dX0_endOfFallen_33 (by decide) ?_
          obtain ⟨x6, ex6, h⟩ := o_b h
          refine call_iV (As := [.int v2, .int (5 : Int32)]) (rest := []) (ws2 := [(a0, .inr (0, [.ref a1, .int eb])), (a1, .inr (4, [.int er.1, .ref a2, .int er.2.2.2])), (a2, .inl (cI, er.2.1, .inl er.2.2.1))]) ⟨hx, hb, hml, hown, hts⟩ (cX4_at_ok l G cI cG a1 a2 er v2 (5 : Int32) x6 ex6) (cwV 2 hts gX0_endOfFallen_X4_at_28 rfl rfl rfl hdX4_at ⟨Nat.le_of_ble_eq_true rfl, Nat.le_of_ble_eq_true rfl⟩) hP hD hS hA hK 4 rfl rfl rfl [1, 2] rfl rfl rfl rfl rfl rfl rfl rfl hl.1 (Nat.le_of_ble_eq_true rfl) dX0_endOfFallen_34 ⟨Nat.zero_le _, Nat.zero_le _⟩ (fun H locs hP hD hS => ?_)
          refine lv_if_ne (tgt := 44) hx hb dX0_endOfFallen_37 (by decide) (fun hc => ?_) (fun hc => ?_)
          · have h := o_f h hc
            refine lv_iconst (v := 0) hx hb dX0_endOfFallen_44 (by decide) ?_
            exact J45 er v2 false (fun er v2 => fX0_endOfFallen_L10 fu p1 k er v2) (fun er v2 H locs ls h hP hD hS hl => ih er v2 H locs ls h hP hD hS hl) _ _ _ h hP hD hS (lv_sub hl [0, 1, 2] rfl)
          · have h := o_t h hc
            exact J40 er v2 (fun er v2 => fX0_endOfFallen_L10 fu p1 k er v2) (fun er v2 H locs ls h hP hD hS hl => ih er v2 H locs ls h hP hD hS hl) _ _ _ h hP hD hS (lv_sub hl [0, 1, 2] rfl)
  have h := hf
  rw [fX0_endOfFallen] at h
  have hl := lv_entry ([.ref a0, .int p1]) (n := 4) (Nat.le_of_ble_eq_true rfl)
  rw [lg_entry_eq]
  generalize (lg_sl ([.ref a0, .int p1]) ++ List.replicate (4 - (lg_sl ([.ref a0, .int p1])).length) Slot.unset).toArray = ls at hl ⊢
  have hl : lv_has ls 4 [(0, .ref a0), (1, .int p1)] := hl
  refine lv_aload_n hx hb dX0_endOfFallen_0 rfl (lv_at hl 0 rfl) ?_
  refine va_get (D := G) (ci := 0) (v := .ref a1) (C := RX0) (T := TX0) (N := 2) hx hb hts huX0_endOfFallen_X0 hown hK.1 hP 0 rfl rfl 0 (by decide) hw0 (fun _ h9 => h9) rfl dX0_endOfFallen_1 ?_
  obtain ⟨x1, ex1, h⟩ := o_b h
  refine call_iV (As := []) (rest := []) (ws2 := [(a0, .inr (0, [.ref a1, .int eb])), (a1, .inr (4, [.int er.1, .ref a2, .int er.2.2.2])), (a2, .inl (cI, er.2.1, .inl er.2.2.1))]) ⟨hx, hb, hml, hown, hts⟩ (cX4_count_ok l G cI cG a1 a2 er x1 ex1) (cwV 0 hts gX0_endOfFallen_X4_count_24 rfl rfl rfl hdX4_count ⟨Nat.le_of_ble_eq_true rfl, Nat.le_of_ble_eq_true rfl⟩) hP hD hS hA hK 4 rfl rfl rfl [1, 2] rfl rfl rfl rfl rfl rfl rfl rfl hl.1 (Nat.le_of_ble_eq_true rfl) dX0_endOfFallen_4 ⟨Nat.zero_le _, Nat.zero_le _⟩ (fun H locs hP hD hS => ?_)
  refine lv_iconst (v := 1) hx hb dX0_endOfFallen_7 (by decide) ?_
  refine lv_isub hx hb dX0_endOfFallen_8 ?_
  refine lv_istore_n (lv' := [(2, .int (x1 - (1 : Int32))), (0, .ref a0), (1, .int p1)]) hx hb dX0_endOfFallen_9 rfl hl (by decide) rfl (fun ls hl => ?_)
  exact L10 fu er (x1 - (1 : Int32)) _ _ _ h hP hD hS (lv_sub hl [1, 2, 0] rfl)
theorem hdX0_countDown : yX0_countDown.cls = RX0 ∧ yX0_countDown.cls ≠ "java/lang/invoke/MethodHandle" ∧ yX0_countDown.cls ≠ "java/lang/invoke/VarHandle" ∧ (parseMethodDescriptor yX0_countDown.desc).map (fun d => d.parameters.length) = some 1 := by decide +kernel
set_option maxHeartbeats 4000000 in
set_option maxRecDepth 100000 in
theorem cX0_countDown_ok (l : Launch) (G : va_G) (cI cG : ClassId) (a0 a1 a2 : Nat) (fu : Nat) (er : Tab) (eb : Int32) (p1 : Int32) (out : Int32 × Tab) (hf : fX0_countDown fu er p1 = some out) : CI l G (tyz cI cG) yX0_countDown wsX0_countDown ({ frames := 2, cells := 0, slots := 0, locals := 83 } : Room) [.ref a0, .int p1] [(a0, .inr (0, [.ref a1, .int eb])), (a1, .inr (4, [.int er.1, .ref a2, .int er.2.2.2])), (a2, .inl (cI, er.2.1, .inl er.2.2.1))] out.1 [(a0, .inr (0, [.ref a1, .int eb])), (a1, .inr (4, [.int out.2.1, .ref a2, .int out.2.2.2.2])), (a2, .inl (cI, out.2.2.1, .inl out.2.2.2.1))] := by
  intro sz
  refine Met.ofW (cc := cX0_countDown) (maxL := 6) (ret := (some .int)) (by decide) rfl ?_
  intro p e s m args below meth c s₁ B hml hv
  obtain ⟨rfl, hsz, hP, hK, hD0⟩ := hv
  have hx := B.exec
  have hb := B.bytes
  have hr := B.returns
  have hts := atoms_spec (ws := wsX0_countDown) B.pre
  have hown : s.vm.findClass RX0 = some m.cls := findClass_of_methodNamed B.named
  have hlocks := B.notSynchronized
  subst hsz
  have hD := hD0.self (sz := s.heap.size)
  generalize hAe : va_A ([(a0, .inr (0, [.ref a1, .int eb])), (a1, .inr (4, [.int er.1, .ref a2, .int er.2.2.2])), (a2, .inl (cI, er.2.1, .inl er.2.2.1))]) s.heap.size = A at hD ⊢
  have hA : ∀ q : Nat, s.heap.size ≤ q → A q := fun q h => by rw [← hAe]; exact Or.inr h
  have hS : va_S A s.heap s.heap [] := va_S.rf
  have hw0 := hts (.fieldLink RX0 16 "SpeedTurns$Effects" "rows" "LSpeedTurns$Table;") (List.mem_of_getElem? (i := 1) rfl)
  show W p l e ({ frames := 2, cells := 0, slots := 0, locals := 83 } : Room) s m _ below meth c s.heap [] 0 0 _ _
  refine W_genQ (fun Q hQ => ?_)
  have J33 : ∀ (er : Tab) (v2 : Int32) (v3 : Int32) (t0 : Int32) (rec : Tab → Int32 → Option (Int32 × Tab)), (∀ (er : Tab) (v3 : Int32) (H : Heap) (locs : List Loc) (ls : Array Slot), rec er v3 = some out → va_P G vwCl ([(a0, .inr (0, [.ref a1, .int eb])), (a1, .inr (4, [.int er.1, .ref a2, .int er.2.2.2])), (a2, .inl (cI, er.2.1, .inl er.2.2.1))]) H → va_D A ([(a0, .inr (0, [.ref a1, .int eb])), (a1, .inr (4, [.int er.1, .ref a2, .int er.2.2.2])), (a2, .inl (cI, er.2.1, .inl er.2.2.1))]) → va_S A s.heap H locs → lv_has ls 6 [(0, .ref a0), (1, .int p1), (2, .int v2), (3, .int v3)] → W p l e ({ frames := 2, cells := 0, slots := 0, locals := 83 } : Room) s m ([.ref a0, .int p1] : List Value).toArray below meth c H locs 0 0 Q (F0 m 12 ls [])) → ∀ (H : Heap) (locs : List Loc) (ls : Array Slot), fX0_countDown_J33 fu p1 er v2 v3 t0 rec = some out → va_P G vwCl ([(a0, .inr (0, [.ref a1, .int eb])), (a1, .inr (4, [.int er.1, .ref a2, .int er.2.2.2])), (a2, .inl (cI, er.2.1, .inl er.2.2.1))]) H → va_D A ([(a0, .inr (0, [.ref a1, .int eb])), (a1, .inr (4, [.int er.1, .ref a2, .int er.2.2.2])), (a2, .inl (cI, er.2.1, .inl er.2.2.1))]) → va_S A s.heap H locs → lv_has ls 6 [(0, .ref a0), (1, .int p1), (2, .int v2), (3, .int v3)] → W p l e ({ frames := 2, cells := 0, slots := 0, locals := 83 } : Room) s m ([.ref a0, .int p1] : List Value).toArray below meth c H locs 0 0 Q (F0 m 33 ls [.int t0]) := by
    intro er v2 v3 t0 rec hrec H locs ls h hP hD hS hl
    rw [fX0_countDown_J33] at h
    refine lv_istore (lv' := [(4, .int t0), (0, .ref a0), (1, .int p1), (2, .int v2), (3, .int v3)]) hx hb dX0_countDown_33 hl (by decide) rfl (fun ls hl => ?_)
    refine lv_aload_n hx hb dX0_countDown_35 rfl (lv_at hl 1 rfl) ?_
    refine va_get (D := G) (ci := 0) (v := .ref a1) (C := RX0) (T := TX0) (N := 2) hx hb hts huX0_countDown_X0 hown hK.1 hP 0 rfl rfl 0 (by decide) hw0 (fun _ h9 => h9) rfl dX0_countDown_36 ?_
    refine lv_iload_n hx hb dX0_countDown_39 rfl (lv_at hl 4 rfl) ?_
    refine lv_iload hx hb dX0_countDown_40 (lv_at hl 0 rfl) ?_
    obtain ⟨x4, ex4, h⟩ := o_b h
    refine call_iV (As := [.int v3, .int t0]) (rest := []) (ws2 := [(a0, .inr (0, [.ref a1, .int eb])), (a1, .inr (4, [.int er.1, .ref a2, .int er.2.2.2])), (a2, .inl (cI, er.2.1, .inl er.2.2.1))]) ⟨hx, hb, hml, hown, hts⟩ (cX4_at_ok l G cI cG a1 a2 er v3 t0 x4 ex4) (cwV 2 hts gX0_countDown_X4_at_28 rfl rfl rfl hdX4_at ⟨Nat.le_of_ble_eq_true rfl, Nat.le_of_ble_eq_true rfl⟩) hP hD hS hA hK 4 rfl rfl rfl [1, 2] rfl rfl rfl rfl rfl rfl rfl rfl hl.1 (Nat.le_of_ble_eq_true rfl) dX0_countDown_42 ⟨Nat.zero_le _, Nat.zero_le _⟩ (fun H locs hP hD hS => ?_)
    refine lv_iload_n hx hb dX0_countDown_45 rfl (lv_at hl 2 rfl) ?_
    refine lv_icmp_ne (tgt := 86) hx hb dX0_countDown_46 (by decide) (fun hc => ?_) (fun hc => ?_)
    · have h := o_f h hc
      refine lv_iinc (v := (v3 + (-1))) (lv' := [(3, .int (v3 + (-1))), (4, .int t0), (0, .ref a0), (1, .int p1), (2, .int v2)]) hx hb dX0_countDown_86 hl (k := 4) rfl rfl (by decide) rfl (fun ls hl => ?_)
      refine lv_goto (tgt := 12) hx hb dX0_countDown_89 (by decide) ?_
      exact hrec er (v3 + (-1)) _ _ _ h hP hD hS (lv_sub hl [2, 3, 4, 0] rfl)
    · have h := o_t h hc
      refine lv_aload_n hx hb dX0_countDown_49 rfl (lv_at hl 1 rfl) ?_
      refine va_get (D := G) (ci := 0) (v := .ref a1) (C := RX0) (T := TX0) (N := 2) hx hb hts huX0_countDown_X0 hown hK.1 hP 0 rfl rfl 0 (by decide) hw0 (fun _ h9 => h9) rfl dX0_countDown_50 ?_
      refine lv_iload_n hx hb dX0_countDown_53 rfl (lv_at hl 4 rfl) ?_
      refine lv_iconst (v := 4) hx hb dX0_countDown_54 (by decide) ?_
      obtain ⟨x5, ex5, h⟩ := o_b h
      refine call_iV (As := [.int v3, .int (4 : Int32)]) (rest := []) (ws2 := [(a0, .inr (0, [.ref a1, .int eb])), (a1, .inr (4, [.int er.1, .ref a2, .int er.2.2.2])), (a2, .inl (cI, er.2.1, .inl er.2.2.1))]) ⟨hx, hb, hml, hown, hts⟩ (cX4_at_ok l G cI cG a1 a2 er v3 (4 : Int32) x5 ex5) (cwV 2 hts gX0_countDown_X4_at_28 rfl rfl rfl hdX4_at ⟨Nat.le_of_ble_eq_true rfl, Nat.le_of_ble_eq_true rfl⟩) hP hD hS hA hK 4 rfl rfl rfl [1, 2] rfl rfl rfl rfl rfl rfl rfl rfl hl.1 (Nat.le_of_ble_eq_true rfl) dX0_countDown_55 ⟨Nat.zero_le _, Nat.zero_le _⟩ (fun H locs hP hD hS => ?_)
      refine lv_iconst (v := 1) hx hb dX0_countDown_58 (by decide) ?_
      refine lv_isub hx hb dX0_countDown_59 ?_
      refine lv_istore (lv' := [(5, .int (x5 - (1 : Int32))), (4, .int t0), (0, .ref a0), (1, .int p1), (2, .int v2), (3, .int v3)]) hx hb dX0_countDown_60 hl (by decide) rfl (fun ls hl => ?_)
      refine lv_aload_n hx hb dX0_countDown_62 rfl (lv_at hl 2 rfl) ?_
      refine va_get (D := G) (ci := 0) (v := .ref a1) (C := RX0) (T := TX0) (N := 2) hx hb hts huX0_countDown_X0 hown hK.1 hP 0 rfl rfl 0 (by decide) hw0 (fun _ h9 => h9) rfl dX0_countDown_63 ?_
      refine lv_iload_n hx hb dX0_countDown_66 rfl (lv_at hl 5 rfl) ?_
      refine lv_iconst (v := 4) hx hb dX0_countDown_67 (by decide) ?_
      refine lv_iload hx hb dX0_countDown_68 (lv_at hl 0 rfl) ?_
      obtain ⟨x6, ex6, h⟩ := o_b h
      refine call_vV (As := [.int v3, .int (4 : Int32), .int (x5 - (1 : Int32))]) (rest := []) (ws2 := [(a0, .inr (0, [.ref a1, .int eb])), (a1, .inr (4, [.int x6.1, .ref a2, .int x6.2.2.2])), (a2, .inl (cI, x6.2.1, .inl x6.2.2.1))]) ⟨hx, hb, hml, hown, hts⟩ (cX4_put_ok l G cI cG a1 a2 er v3 (4 : Int32) (x5 - (1 : Int32)) x6 ex6) (cwV 3 hts gX0_countDown_X4_put_43 rfl rfl rfl hdX4_put ⟨Nat.le_of_ble_eq_true rfl, Nat.le_of_ble_eq_true rfl⟩) hP hD hS hA hK 4 rfl rfl rfl [1, 2] rfl rfl rfl rfl rfl rfl rfl rfl hl.1 (Nat.le_of_ble_eq_true rfl) dX0_countDown_70 ⟨Nat.zero_le _, Nat.zero_le _⟩ (fun H locs hP hD hS => ?_)
      refine lv_iload hx hb dX0_countDown_73 (lv_at hl 0 rfl) ?_
      refine lv_if_gt (tgt := 86) hx hb dX0_countDown_75 (by decide) (fun hc => ?_) (fun hc => ?_)
      · have h := o_t h hc
        refine lv_iinc (v := (v3 + (-1))) (lv' := [(3, .int (v3 + (-1))), (5, .int (x5 - (1 : Int32))), (4, .int t0), (0, .ref a0), (1, .int p1), (2, .int v2)]) hx hb dX0_countDown_86 hl (k := 5) rfl rfl (by decide) rfl (fun ls hl => ?_)
        refine lv_goto (tgt := 12) hx hb dX0_countDown_89 (by decide) ?_
        exact hrec x6 (v3 + (-1)) _ _ _ h hP hD hS (lv_sub hl [3, 4, 5, 0] rfl)
      · have h := o_f h hc
        refine lv_aload_n hx hb dX0_countDown_78 rfl (lv_at hl 2 rfl) ?_
        refine va_get (D := G) (ci := 0) (v := .ref a1) (C := RX0) (T := TX0) (N := 2) hx hb hts huX0_countDown_X0 hown hK.1 hP 0 rfl rfl 0 (by decide) hw0 (fun _ h9 => h9) rfl dX0_countDown_79 ?_
        refine lv_iload_n hx hb dX0_countDown_82 rfl (lv_at hl 5 rfl) ?_
        obtain ⟨x7, ex7, h⟩ := o_b h
        refine call_vV (As := [.int v3]) (rest := []) (ws2 := [(a0, .inr (0, [.ref a1, .int eb])), (a1, .inr (4, [.int x7.1, .ref a2, .int x7.2.2.2])), (a2, .inl (cI, x7.2.1, .inl x7.2.2.1))]) ⟨hx, hb, hml, hown, hts⟩ (cX4_remove_ok l G cI cG a1 a2 x6 v3 x7 ex7) (cwV 1 hts gX0_countDown_X4_remove_51 rfl rfl rfl hdX4_remove ⟨Nat.le_of_ble_eq_true rfl, Nat.le_of_ble_eq_true rfl⟩) hP hD hS hA hK 4 rfl rfl rfl [1, 2] rfl rfl rfl rfl rfl rfl rfl rfl hl.1 (Nat.le_of_ble_eq_true rfl) dX0_countDown_83 ⟨Nat.zero_le _, Nat.zero_le _⟩ (fun H locs hP hD hS => ?_)
        refine lv_iinc (v := (v3 + (-1))) (lv' := [(3, .int (v3 + (-1))), (5, .int (x5 - (1 : Int32))), (4, .int t0), (0, .ref a0), (1, .int p1), (2, .int v2)]) hx hb dX0_countDown_86 hl (k := 5) rfl rfl (by decide) rfl (fun ls hl => ?_)
        refine lv_goto (tgt := 12) hx hb dX0_countDown_89 (by decide) ?_
        exact hrec x7 (v3 + (-1)) _ _ _ h hP hD hS (lv_sub hl [3, 4, 5, 0] rfl)
  have L12 : ∀ (v2 : Int32) (k : Nat) (er : Tab) (v3 : Int32) (H : Heap) (locs : List Loc) (ls : Array Slot), fX0_countDown_L12 fu p1 v2 k er v3 = some out → va_P G vwCl ([(a0, .inr (0, [.ref a1, .int eb])), (a1, .inr (4, [.int er.1, .ref a2, .int er.2.2.2])), (a2, .inl (cI, er.2.1, .inl er.2.2.1))]) H → va_D A ([(a0, .inr (0, [.ref a1, .int eb])), (a1, .inr (4, [.int er.1, .ref a2, .int er.2.2.2])), (a2, .inl (cI, er.2.1, .inl er.2.2.1))]) → va_S A s.heap H locs → lv_has ls 6 [(0, .ref a0), (1, .int p1), (2, .int v2), (3, .int v3)] → W p l e ({ frames := 2, cells := 0, slots := 0, locals := 83 } : Room) s m ([.ref a0, .int p1] : List Value).toArray below meth c H locs 0 0 Q (F0 m 12 ls []) := by
    intro v2 k
    induction k with
    | zero => intro er v3 H locs ls h hP hD hS hl; rw [fX0_countDown_L12] at h; exact o_n h
    | succ k ih =>
      intro er v3 H locs ls h hP hD hS hl
      rw [fX0_countDown_L12] at h
      refine lv_iload_n hx hb dX0_countDown_12 rfl (lv_at hl 3 rfl) ?_
      refine lv_if_lt (tgt := 92) hx hb dX0_countDown_13 (by decide) (fun hc => ?_) (fun hc => ?_)
      · have h := o_t h hc
        refine lv_iload_n hx hb dX0_countDown_92 rfl (lv_at hl 2 rfl) ?_
        refine lv_aload_n hx hb dX0_countDown_93 rfl (lv_at hl 0 rfl) ?_
        refine va_get (D := G) (ci := 0) (v := .ref a1) (C := RX0) (T := TX0) (N := 2) hx hb hts huX0_countDown_X0 hown hK.1 hP 0 rfl rfl 0 (by decide) hw0 (fun _ h9 => h9) rfl dX0_countDown_94 ?_
        obtain ⟨x2, ex2, h⟩ := o_b h
        refine call_iV (As := []) (rest := [.int v2]) (ws2 := [(a0, .inr (0, [.ref a1, .int eb])), (a1, .inr (4, [.int er.1, .ref a2, .int er.2.2.2])), (a2, .inl (cI, er.2.1, .inl er.2.2.1))]) ⟨hx, hb, hml, hown, hts⟩ (cX4_count_ok l G cI cG a1 a2 er x2 ex2) (cwV 0 hts gX0_countDown_X4_count_24 rfl rfl rfl hdX4_count ⟨Nat.le_of_ble_eq_true rfl, Nat.le_of_ble_eq_true rfl⟩) hP hD hS hA hK 4 rfl rfl rfl [1, 2] rfl rfl rfl rfl rfl rfl rfl rfl hl.1 (Nat.le_of_ble_eq_true rfl) dX0_countDown_97 ⟨Nat.zero_le _, Nat.zero_le _⟩ (fun H locs hP hD hS => ?_)
        refine lv_isub hx hb dX0_countDown_100 ?_
        obtain rfl := o_s h
        rw [hQ]
        exact end_i hx hb hr rfl hP hD hS dX0_countDown_101 hlocks
      · have h := o_f h hc
        refine lv_aload_n hx hb dX0_countDown_16 rfl (lv_at hl 0 rfl) ?_
        refine va_get (D := G) (ci := 0) (v := .ref a1) (C := RX0) (T := TX0) (N := 2) hx hb hts huX0_countDown_X0 hown hK.1 hP 0 rfl rfl 0 (by decide) hw0 (fun _ h9 => h9) rfl dX0_countDown_17 ?_
        refine lv_iload_n hx hb dX0_countDown_20 rfl (lv_at hl 3 rfl) ?_
        refine lv_iconst (v := 5) hx hb dX0_countDown_21 (by decide) ?_
        obtain ⟨x3, ex3, h⟩ := o_b h
        refine call_iV (As := [.int v3, .int (5 : Int32)]) (rest := []) (ws2 := [(a0, .inr (0, [.ref a1, .int eb])), (a1, .inr (4, [.int er.1, .ref a2, .int er.2.2.2])), (a2, .inl (cI, er.2.1, .inl er.2.2.1))]) ⟨hx, hb, hml, hown, hts⟩ (cX4_at_ok l G cI cG a1 a2 er v3 (5 : Int32) x3 ex3) (cwV 2 hts gX0_countDown_X4_at_28 rfl rfl rfl hdX4_at ⟨Nat.le_of_ble_eq_true rfl, Nat.le_of_ble_eq_true rfl⟩) hP hD hS hA hK 4 rfl rfl rfl [1, 2] rfl rfl rfl rfl rfl rfl rfl rfl hl.1 (Nat.le_of_ble_eq_true rfl) dX0_countDown_22 ⟨Nat.zero_le _, Nat.zero_le _⟩ (fun H locs hP hD hS => ?_)
        refine lv_if_ne (tgt := 32) hx hb dX0_countDown_25 (by decide) (fun hc => ?_) (fun hc => ?_)
        · have h := o_f h hc
          refine lv_iconst (v := 3) hx hb dX0_countDown_32 (by decide) ?_
          exact J33 er v2 v3 (3 : Int32) (fun er v3 => fX0_countDown_L12 fu p1 v2 k er v3) (fun er v3 H locs ls h hP hD hS hl => ih er v3 H locs ls h hP hD hS hl) _ _ _ h hP hD hS (lv_sub hl [0, 1, 2, 3] rfl)
        · have h := o_t h hc
          refine lv_iconst (v := 2) hx hb dX0_countDown_28 (by decide) ?_
          refine lv_goto (tgt := 33) hx hb dX0_countDown_29 (by decide) ?_
          exact J33 er v2 v3 (2 : Int32) (fun er v3 => fX0_countDown_L12 fu p1 v2 k er v3) (fun er v3 H locs ls h hP hD hS hl => ih er v3 H locs ls h hP hD hS hl) _ _ _ h hP hD hS (lv_sub hl [0, 1, 2, 3] rfl)
  have h := hf
  rw [fX0_countDown] at h
  have hl := lv_entry ([.ref a0, .int p1]) (n := 6) (Nat.le_of_ble_eq_true rfl)
  rw [lg_entry_eq]
  generalize (lg_sl ([.ref a0, .int p1]) ++ List.replicate (6 - (lg_sl ([.ref a0, .int p1])).length) Slot.unset).toArray = ls at hl ⊢
  have hl : lv_has ls 6 [(0, .ref a0), (1, .int p1)] := hl
  refine lv_aload_n hx hb dX0_countDown_0 rfl (lv_at hl 0 rfl) ?_
  refine va_get (D := G) (ci := 0) (v := .ref a1) (C := RX0) (T := TX0) (N := 2) hx hb hts huX0_countDown_X0 hown hK.1 hP 0 rfl rfl 0 (by decide) hw0 (fun _ h9 => h9) rfl dX0_countDown_1 ?_
  obtain ⟨x1, ex1, h⟩ := o_b h
  refine call_iV (As := []) (rest := []) (ws2 := [(a0, .inr (0, [.ref a1, .int eb])), (a1, .inr (4, [.int er.1, .ref a2, .int er.2.2.2])), (a2, .inl (cI, er.2.1, .inl er.2.2.1))]) ⟨hx, hb, hml, hown, hts⟩ (cX4_count_ok l G cI cG a1 a2 er x1 ex1) (cwV 0 hts gX0_countDown_X4_count_24 rfl rfl rfl hdX4_count ⟨Nat.le_of_ble_eq_true rfl, Nat.le_of_ble_eq_true rfl⟩) hP hD hS hA hK 4 rfl rfl rfl [1, 2] rfl rfl rfl rfl rfl rfl rfl rfl hl.1 (Nat.le_of_ble_eq_true rfl) dX0_countDown_4 ⟨Nat.zero_le _, Nat.zero_le _⟩ (fun H locs hP hD hS => ?_)
  refine lv_istore_n (lv' := [(2, .int x1), (0, .ref a0), (1, .int p1)]) hx hb dX0_countDown_7 rfl hl (by decide) rfl (fun ls hl => ?_)
  refine lv_iload_n hx hb dX0_countDown_8 rfl (lv_at hl 0 rfl) ?_
  refine lv_iconst (v := 1) hx hb dX0_countDown_9 (by decide) ?_
  refine lv_isub hx hb dX0_countDown_10 ?_
  refine lv_istore_n (lv' := [(3, .int (x1 - (1 : Int32))), (2, .int x1), (0, .ref a0), (1, .int p1)]) hx hb dX0_countDown_11 rfl hl (by decide) rfl (fun ls hl => ?_)
  exact L12 x1 fu er (x1 - (1 : Int32)) _ _ _ h hP hD hS (lv_sub hl [2, 3, 1, 0] rfl)
theorem hdX0_copyFrom : yX0_copyFrom.cls = RX0 ∧ yX0_copyFrom.cls ≠ "java/lang/invoke/MethodHandle" ∧ yX0_copyFrom.cls ≠ "java/lang/invoke/VarHandle" ∧ (parseMethodDescriptor yX0_copyFrom.desc).map (fun d => d.parameters.length) = some 1 := by decide +kernel
set_option maxHeartbeats 4000000 in
set_option maxRecDepth 100000 in
theorem cX0_copyFrom_ok (l : Launch) (G : va_G) (cI cG : ClassId) (a0 a1 a2 b0 b1 b2 : Nat) (er : Tab) (eb : Int32) (o_er : Tab) (o_eb : Int32) (out : Tab × Int32) (hf : fX0_copyFrom er eb o_er o_eb = some out) : CV l G (tyz cI cG) yX0_copyFrom wsX0_copyFrom ({ frames := 2, cells := 0, slots := 0, locals := 81 } : Room) [.ref a0, .ref b0] [(a0, .inr (0, [.ref a1, .int eb])), (a1, .inr (4, [.int er.1, .ref a2, .int er.2.2.2])), (a2, .inl (cI, er.2.1, .inl er.2.2.1)), (b0, .inr (0, [.ref b1, .int o_eb])), (b1, .inr (4, [.int o_er.1, .ref b2, .int o_er.2.2.2])), (b2, .inl (cI, o_er.2.1, .inl o_er.2.2.1))] [(a0, .inr (0, [.ref a1, .int out.2])), (a1, .inr (4, [.int out.1.1, .ref a2, .int out.1.2.2.2])), (a2, .inl (cI, out.1.2.1, .inl out.1.2.2.1)), (b0, .inr (0, [.ref b1, .int o_eb])), (b1, .inr (4, [.int o_er.1, .ref b2, .int o_er.2.2.2])), (b2, .inl (cI, o_er.2.1, .inl o_er.2.2.1))] := by
  intro sz
  refine Met.ofW (cc := cX0_copyFrom) (maxL := 2) (ret := none) (by decide) rfl ?_
  intro p e s m args below meth c s₁ B hml hv
  obtain ⟨rfl, hsz, hP, hK, hD0⟩ := hv
  have hx := B.exec
  have hb := B.bytes
  have hr := B.returns
  have hts := atoms_spec (ws := wsX0_copyFrom) B.pre
  have hown : s.vm.findClass RX0 = some m.cls := findClass_of_methodNamed B.named
  have hlocks := B.notSynchronized
  subst hsz
  have hD := hD0.self (sz := s.heap.size)
  generalize hAe : va_A ([(a0, .inr (0, [.ref a1, .int eb])), (a1, .inr (4, [.int er.1, .ref a2, .int er.2.2.2])), (a2, .inl (cI, er.2.1, .inl er.2.2.1)), (b0, .inr (0, [.ref b1, .int o_eb])), (b1, .inr (4, [.int o_er.1, .ref b2, .int o_er.2.2.2])), (b2, .inl (cI, o_er.2.1, .inl o_er.2.2.1))]) s.heap.size = A at hD ⊢
  have hA : ∀ q : Nat, s.heap.size ≤ q → A q := fun q h => by rw [← hAe]; exact Or.inr h
  have hS : va_S A s.heap s.heap [] := va_S.rf
  have hw0 := hts (.fieldLink RX0 16 "SpeedTurns$Effects" "rows" "LSpeedTurns$Table;") (List.mem_of_getElem? (i := 1) rfl)
  have hw1 := hts (.fieldLink RX0 20 "SpeedTurns$Effects" "born" "I") (List.mem_of_getElem? (i := 6) rfl)
  show W p l e ({ frames := 2, cells := 0, slots := 0, locals := 81 } : Room) s m _ below meth c s.heap [] 0 0 _ _
  refine W_genQ (fun Q hQ => ?_)
  have h := hf
  rw [fX0_copyFrom] at h
  have hl := lv_entry ([.ref a0, .ref b0]) (n := 2) (Nat.le_of_ble_eq_true rfl)
  rw [lg_entry_eq]
  generalize (lg_sl ([.ref a0, .ref b0]) ++ List.replicate (2 - (lg_sl ([.ref a0, .ref b0])).length) Slot.unset).toArray = ls at hl ⊢
  have hl : lv_has ls 2 [(0, .ref a0), (1, .ref b0)] := hl
  refine lv_aload_n hx hb dX0_copyFrom_0 rfl (lv_at hl 0 rfl) ?_
  refine va_get (D := G) (ci := 0) (v := .ref a1) (C := RX0) (T := TX0) (N := 2) hx hb hts huX0_copyFrom_X0 hown hK.1 hP 0 rfl rfl 0 (by decide) hw0 (fun _ h9 => h9) rfl dX0_copyFrom_1 ?_
  refine lv_aload_n hx hb dX0_copyFrom_4 rfl (lv_at hl 1 rfl) ?_
  refine va_get (D := G) (ci := 0) (v := .ref b1) (C := RX0) (T := TX0) (N := 2) hx hb hts huX0_copyFrom_X0 hown hK.1 hP 3 rfl rfl 0 (by decide) hw0 (fun _ h9 => h9) rfl dX0_copyFrom_5 ?_
  obtain ⟨x1, ex1, h⟩ := o_b h
  refine call_vV (As := [.ref b1]) (rest := []) (ws2 := [(a0, .inr (0, [.ref a1, .int eb])), (a1, .inr (4, [.int x1.1, .ref a2, .int x1.2.2.2])), (a2, .inl (cI, x1.2.1, .inl x1.2.2.1)), (b0, .inr (0, [.ref b1, .int o_eb])), (b1, .inr (4, [.int o_er.1, .ref b2, .int o_er.2.2.2])), (b2, .inl (cI, o_er.2.1, .inl o_er.2.2.1))]) ⟨hx, hb, hml, hown, hts⟩ (cX4_copyFrom_ok l G cI cG a1 a2 b1 b2 er o_er x1 ex1) (cwV 1 hts gX0_copyFrom_X4_copyFrom_54 rfl rfl rfl hdX4_copyFrom ⟨Nat.le_of_ble_eq_true rfl, Nat.le_of_ble_eq_true rfl⟩) hP hD hS hA hK 4 rfl rfl rfl [1, 2, 4, 5] rfl rfl rfl rfl rfl rfl rfl rfl hl.1 (Nat.le_of_ble_eq_true rfl) dX0_copyFrom_8 ⟨Nat.zero_le _, Nat.zero_le _⟩ (fun H locs hP hD hS => ?_)
  refine lv_aload_n hx hb dX0_copyFrom_11 rfl (lv_at hl 0 rfl) ?_
  refine lv_aload_n hx hb dX0_copyFrom_12 rfl (lv_at hl 1 rfl) ?_
  refine va_get (D := G) (ci := 0) (v := .int o_eb) (C := RX0) (T := TX0) (N := 2) hx hb hts huX0_copyFrom_X0 hown hK.1 hP 3 rfl rfl 1 (by decide) hw1 (fun _ h9 => h9) rfl dX0_copyFrom_13 ?_
  refine va_put (D := G) (ci := 0) (v := .int o_eb) (ty := .int) (C := RX0) (T := TX0) (N := 2) hx hb hts huX0_copyFrom_X0 tyX0 tyX0_ok nmX0 hown hK.1 hP hD hS 0 rfl rfl 1 (by decide) hw1 (fun _ h9 => h9) rfl (by decide +kernel) rfl rfl (Nat.le_of_ble_eq_true rfl) dX0_copyFrom_16 (fun H locs hP hD hS => ?_)
  have hP : va_P G vwCl ([(a0, .inr (0, [.ref a1, .int o_eb])), (a1, .inr (4, [.int x1.1, .ref a2, .int x1.2.2.2])), (a2, .inl (cI, x1.2.1, .inl x1.2.2.1)), (b0, .inr (0, [.ref b1, .int o_eb])), (b1, .inr (4, [.int o_er.1, .ref b2, .int o_er.2.2.2])), (b2, .inl (cI, o_er.2.1, .inl o_er.2.2.1))]) H := hP
  have hD : va_D A ([(a0, .inr (0, [.ref a1, .int o_eb])), (a1, .inr (4, [.int x1.1, .ref a2, .int x1.2.2.2])), (a2, .inl (cI, x1.2.1, .inl x1.2.2.1)), (b0, .inr (0, [.ref b1, .int o_eb])), (b1, .inr (4, [.int o_er.1, .ref b2, .int o_er.2.2.2])), (b2, .inl (cI, o_er.2.1, .inl o_er.2.2.1))]) := hD
  obtain rfl := o_s h
  rw [hQ]
  exact end_v hx hb hr hP hD hS dX0_copyFrom_19 hlocks
