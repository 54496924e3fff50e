theorem hdX5_within : yX5_within.cls ≠ "java/lang/invoke/MethodHandle" ∧ yX5_within.cls ≠ "java/lang/invoke/VarHandle" ∧ (parseMethodDescriptor yX5_within.desc).map (fun d => d.parameters.length) = some 3 := by decide +kernel
set_option maxHeartbeats 4000000 in
set_option maxRecDepth 100000 in
theorem cX5_within_ok (l : Launch) (G : va_G) (cI cG : ClassId) (p0 : Int32) (p1 : Int32) (p2 : Int32) (out : Bool) (hf : fX5_within p0 p1 p2 = some out) : CI l G (tyz cI cG) yX5_within wsX5_within ({ frames := 0, cells := 0, slots := 0, locals := 0 } : Room) [.int p0, .int p1, .int p2] (([] : List va_W).flatten) (bI out) (([] : List va_W).flatten) := by
  intro sz
  refine Met.ofW (cc := cX5_within) (maxL := 3) (ret := (some .boolean)) (by decide) rfl ?_
  intro p e s m args below meth c s₁ B hml hv
  obtain ⟨rfl, hsz, hP, hK, hD0⟩ := hv
  have hx := B.exec
  have hb := B.bytes
  have hr := B.returns
  have hts := atoms_spec (ws := wsX5_within) B.pre
  have hown : s.vm.findClass RX5 = some m.cls := findClass_of_methodNamed B.named
  have hlocks := B.notSynchronized
  subst hsz
  have hD := hD0.self (sz := s.heap.size)
  generalize hAe : va_A (([] : List va_W).flatten) s.heap.size = A at hD ⊢
  have hA : ∀ q : Nat, s.heap.size ≤ q → A q := fun q h => by rw [← hAe]; exact Or.inr h
  have hS : va_S A s.heap s.heap [] := va_S.rf
  show W p l e ({ frames := 0, cells := 0, slots := 0, locals := 0 } : Room) s m _ below meth c s.heap [] 0 0 _ _
  refine W_genQ (fun Q hQ => ?_)
  have h := hf
  rw [fX5_within] at h
  have hl := lv_entry ([.int p0, .int p1, .int p2]) (n := 3) (Nat.le_of_ble_eq_true rfl)
  rw [lg_entry_eq]
  generalize (lg_sl ([.int p0, .int p1, .int p2]) ++ List.replicate (3 - (lg_sl ([.int p0, .int p1, .int p2])).length) Slot.unset).toArray = ls at hl ⊢
  have hl : lv_has ls 3 [(0, .int p0), (1, .int p1), (2, .int p2)] := hl
  refine lv_iload_n hx hb dX5_within_0 rfl (lv_at hl 0 rfl) ?_
  refine lv_iload_n hx hb dX5_within_1 rfl (lv_at hl 1 rfl) ?_
  refine lv_icmp_lt (tgt := 14) hx hb dX5_within_2 (by decide) (fun hc => ?_) (fun hc => ?_)
  · have h := o_t h hc
    refine lv_iconst (v := 0) hx hb dX5_within_14 (by decide) ?_
    obtain rfl := o_s h
    rw [hQ]
    exact end_z hx hb hr rfl rfl hP hD hS dX5_within_15 hlocks
  · have h := o_f h hc
    refine lv_iload_n hx hb dX5_within_5 rfl (lv_at hl 0 rfl) ?_
    refine lv_iload_n hx hb dX5_within_6 rfl (lv_at hl 2 rfl) ?_
    refine lv_icmp_gt (tgt := 14) hx hb dX5_within_7 (by decide) (fun hc => ?_) (fun hc => ?_)
    · have h := o_t h hc
      refine lv_iconst (v := 0) hx hb dX5_within_14 (by decide) ?_
      obtain rfl := o_s h
      rw [hQ]
      exact end_z hx hb hr rfl rfl hP hD hS dX5_within_15 hlocks
    · have h := o_f h hc
      refine lv_iconst (v := 1) hx hb dX5_within_10 (by decide) ?_
      refine lv_goto (tgt := 15) hx hb dX5_within_11 (by decide) ?_
      obtain rfl := o_s h
      rw [hQ]
      exact end_z hx hb hr rfl rfl hP hD hS dX5_within_15 hlocks
theorem hdX3_length : yX3_length.cls = RX3 ∧ yX3_length.cls ≠ "java/lang/invoke/MethodHandle" ∧ yX3_length.cls ≠ "java/lang/invoke/VarHandle" ∧ (parseMethodDescriptor yX3_length.desc).map (fun d => d.parameters.length) = some 0 := by decide +kernel
set_option maxHeartbeats 4000000 in
set_option maxRecDepth 100000 in
theorem cX3_length_ok (l : Launch) (G : va_G) (cI cG : ClassId) (a0 a1 a2 a3 a4 : Nat) (tx : Tab) (cm : Tab) (out : Int32) (hf : fX3_length tx = some out) : CI l G (tyz cI cG) yX3_length wsX3_length ({ frames := 1, cells := 0, slots := 0, locals := 20 } : Room) [.ref a0] [(a0, .inr (3, [.ref a1, .ref a3])), (a1, .inr (4, [.int tx.1, .ref a2, .int tx.2.2.2])), (a2, .inl (cI, tx.2.1, .inl tx.2.2.1)), (a3, .inr (4, [.int cm.1, .ref a4, .int cm.2.2.2])), (a4, .inl (cI, cm.2.1, .inl cm.2.2.1))] out [(a0, .inr (3, [.ref a1, .ref a3])), (a1, .inr (4, [.int tx.1, .ref a2, .int tx.2.2.2])), (a2, .inl (cI, tx.2.1, .inl tx.2.2.1)), (a3, .inr (4, [.int cm.1, .ref a4, .int cm.2.2.2])), (a4, .inl (cI, cm.2.1, .inl cm.2.2.1))] := by
  intro sz
  refine Met.ofW (cc := cX3_length) (maxL := 1) (ret := (some .int)) (by decide) rfl ?_
  intro p e s m args below meth c s₁ B hml hv
  obtain ⟨rfl, hsz, hP, hK, hD0⟩ := hv
  have hx := B.exec
  have hb := B.bytes
  have hr := B.returns
  have hts := atoms_spec (ws := wsX3_length) B.pre
  have hown : s.vm.findClass RX3 = some m.cls := findClass_of_methodNamed B.named
  have hlocks := B.notSynchronized
  subst hsz
  have hD := hD0.self (sz := s.heap.size)
  generalize hAe : va_A ([(a0, .inr (3, [.ref a1, .ref a3])), (a1, .inr (4, [.int tx.1, .ref a2, .int tx.2.2.2])), (a2, .inl (cI, tx.2.1, .inl tx.2.2.1)), (a3, .inr (4, [.int cm.1, .ref a4, .int cm.2.2.2])), (a4, .inl (cI, cm.2.1, .inl cm.2.2.1))]) s.heap.size = A at hD ⊢
  have hA : ∀ q : Nat, s.heap.size ≤ q → A q := fun q h => by rw [← hAe]; exact Or.inr h
  have hS : va_S A s.heap s.heap [] := va_S.rf
  have hw0 := hts (.fieldLink RX3 14 "SpeedTurns$Script" "text" "LSpeedTurns$Table;") (List.mem_of_getElem? (i := 1) rfl)
  show W p l e ({ frames := 1, cells := 0, slots := 0, locals := 20 } : Room) s m _ below meth c s.heap [] 0 0 _ _
  refine W_genQ (fun Q hQ => ?_)
  have h := hf
  rw [fX3_length] at h
  have hl := lv_entry ([.ref a0]) (n := 1) (Nat.le_of_ble_eq_true rfl)
  rw [lg_entry_eq]
  generalize (lg_sl ([.ref a0]) ++ List.replicate (1 - (lg_sl ([.ref a0])).length) Slot.unset).toArray = ls at hl ⊢
  have hl : lv_has ls 1 [(0, .ref a0)] := hl
  refine lv_aload_n hx hb dX3_length_0 rfl (lv_at hl 0 rfl) ?_
  refine va_get (D := G) (ci := 3) (v := .ref a1) (C := RX3) (T := TX3) (N := 2) hx hb hts huX3_length_X3 hown hK.1 hP 0 rfl rfl 0 (by decide) hw0 (fun _ h9 => h9) rfl dX3_length_1 ?_
  obtain ⟨x1, ex1, h⟩ := o_b h
  refine call_iV (As := []) (rest := []) (ws2 := [(a0, .inr (3, [.ref a1, .ref a3])), (a1, .inr (4, [.int tx.1, .ref a2, .int tx.2.2.2])), (a2, .inl (cI, tx.2.1, .inl tx.2.2.1)), (a3, .inr (4, [.int cm.1, .ref a4, .int cm.2.2.2])), (a4, .inl (cI, cm.2.1, .inl cm.2.2.1))]) ⟨hx, hb, hml, hown, hts⟩ (cX4_count_ok l G cI cG a1 a2 tx x1 ex1) (cwV 0 hts gX3_length_X4_count_23 rfl rfl rfl hdX4_count ⟨Nat.le_of_ble_eq_true rfl, Nat.le_of_ble_eq_true rfl⟩) hP hD hS hA hK 4 rfl rfl rfl [1, 2] rfl rfl rfl rfl rfl rfl rfl rfl hl.1 (Nat.le_of_ble_eq_true rfl) dX3_length_4 ⟨Nat.zero_le _, Nat.zero_le _⟩ (fun H locs hP hD hS => ?_)
  obtain rfl := o_s h
  rw [hQ]
  exact end_i hx hb hr rfl hP hD hS dX3_length_7 hlocks
theorem hdX3_commandCount : yX3_commandCount.cls = RX3 ∧ yX3_commandCount.cls ≠ "java/lang/invoke/MethodHandle" ∧ yX3_commandCount.cls ≠ "java/lang/invoke/VarHandle" ∧ (parseMethodDescriptor yX3_commandCount.desc).map (fun d => d.parameters.length) = some 0 := by decide +kernel
set_option maxHeartbeats 4000000 in
set_option maxRecDepth 100000 in
theorem cX3_commandCount_ok (l : Launch) (G : va_G) (cI cG : ClassId) (a0 a1 a2 a3 a4 : Nat) (tx : Tab) (cm : Tab) (out : Int32) (hf : fX3_commandCount cm = some out) : CI l G (tyz cI cG) yX3_commandCount wsX3_commandCount ({ frames := 1, cells := 0, slots := 0, locals := 20 } : Room) [.ref a0] [(a0, .inr (3, [.ref a1, .ref a3])), (a1, .inr (4, [.int tx.1, .ref a2, .int tx.2.2.2])), (a2, .inl (cI, tx.2.1, .inl tx.2.2.1)), (a3, .inr (4, [.int cm.1, .ref a4, .int cm.2.2.2])), (a4, .inl (cI, cm.2.1, .inl cm.2.2.1))] out [(a0, .inr (3, [.ref a1, .ref a3])), (a1, .inr (4, [.int tx.1, .ref a2, .int tx.2.2.2])), (a2, .inl (cI, tx.2.1, .inl tx.2.2.1)), (a3, .inr (4, [.int cm.1, .ref a4, .int cm.2.2.2])), (a4, .inl (cI, cm.2.1, .inl cm.2.2.1))] := by
  intro sz
  refine Met.ofW (cc := cX3_commandCount) (maxL := 1) (ret := (some .int)) (by decide) rfl ?_
  intro p e s m args below meth c s₁ B hml hv
  obtain ⟨rfl, hsz, hP, hK, hD0⟩ := hv
  have hx := B.exec
  have hb := B.bytes
  have hr := B.returns
  have hts := atoms_spec (ws := wsX3_commandCount) B.pre
  have hown : s.vm.findClass RX3 = some m.cls := findClass_of_methodNamed B.named
  have hlocks := B.notSynchronized
  subst hsz
  have hD := hD0.self (sz := s.heap.size)
  generalize hAe : va_A ([(a0, .inr (3, [.ref a1, .ref a3])), (a1, .inr (4, [.int tx.1, .ref a2, .int tx.2.2.2])), (a2, .inl (cI, tx.2.1, .inl tx.2.2.1)), (a3, .inr (4, [.int cm.1, .ref a4, .int cm.2.2.2])), (a4, .inl (cI, cm.2.1, .inl cm.2.2.1))]) s.heap.size = A at hD ⊢
  have hA : ∀ q : Nat, s.heap.size ≤ q → A q := fun q h => by rw [← hAe]; exact Or.inr h
  have hS : va_S A s.heap s.heap [] := va_S.rf
  have hw0 := hts (.fieldLink RX3 20 "SpeedTurns$Script" "commands" "LSpeedTurns$Table;") (List.mem_of_getElem? (i := 1) rfl)
  show W p l e ({ frames := 1, cells := 0, slots := 0, locals := 20 } : Room) s m _ below meth c s.heap [] 0 0 _ _
  refine W_genQ (fun Q hQ => ?_)
  have h := hf
  rw [fX3_commandCount] at h
  have hl := lv_entry ([.ref a0]) (n := 1) (Nat.le_of_ble_eq_true rfl)
  rw [lg_entry_eq]
  generalize (lg_sl ([.ref a0]) ++ List.replicate (1 - (lg_sl ([.ref a0])).length) Slot.unset).toArray = ls at hl ⊢
  have hl : lv_has ls 1 [(0, .ref a0)] := hl
  refine lv_aload_n hx hb dX3_commandCount_0 rfl (lv_at hl 0 rfl) ?_
  refine va_get (D := G) (ci := 3) (v := .ref a3) (C := RX3) (T := TX3) (N := 2) hx hb hts huX3_commandCount_X3 hown hK.1 hP 0 rfl rfl 1 (by decide) hw0 (fun _ h9 => h9) rfl dX3_commandCount_1 ?_
  obtain ⟨x1, ex1, h⟩ := o_b h
  refine call_iV (As := []) (rest := []) (ws2 := [(a0, .inr (3, [.ref a1, .ref a3])), (a1, .inr (4, [.int tx.1, .ref a2, .int tx.2.2.2])), (a2, .inl (cI, tx.2.1, .inl tx.2.2.1)), (a3, .inr (4, [.int cm.1, .ref a4, .int cm.2.2.2])), (a4, .inl (cI, cm.2.1, .inl cm.2.2.1))]) ⟨hx, hb, hml, hown, hts⟩ (cX4_count_ok l G cI cG a3 a4 cm x1 ex1) (cwV 0 hts gX3_commandCount_X4_count_23 rfl rfl rfl hdX4_count ⟨Nat.le_of_ble_eq_true rfl, Nat.le_of_ble_eq_true rfl⟩) hP hD hS hA hK 4 rfl rfl rfl [3, 4] rfl rfl rfl rfl rfl rfl rfl rfl hl.1 (Nat.le_of_ble_eq_true rfl) dX3_commandCount_4 ⟨Nat.zero_le _, Nat.zero_le _⟩ (fun H locs hP hD hS => ?_)
  obtain rfl := o_s h
  rw [hQ]
  exact end_i hx hb hr rfl hP hD hS dX3_commandCount_7 hlocks
theorem hdX3_wantBehindLetter : yX3_wantBehindLetter.cls ≠ "java/lang/invoke/MethodHandle" ∧ yX3_wantBehindLetter.cls ≠ "java/lang/invoke/VarHandle" ∧ (parseMethodDescriptor yX3_wantBehindLetter.desc).map (fun d => d.parameters.length) = some 1 := by decide +kernel
set_option maxHeartbeats 4000000 in
set_option maxRecDepth 100000 in
theorem cX3_wantBehindLetter_ok (l : Launch) (G : va_G) (cI cG : ClassId) (p0 : Int32) (out : Int32) (hf : fX3_wantBehindLetter p0 = some out) : CI l G (tyz cI cG) yX3_wantBehindLetter wsX3_wantBehindLetter ({ frames := 0, cells := 0, slots := 0, locals := 0 } : Room) [.int p0] [] out [] := by
  intro sz
  refine Met.ofW (cc := cX3_wantBehindLetter) (maxL := 1) (ret := (some .int)) (by decide) rfl ?_
  intro p e s m args below meth c s₁ B hml hv
  obtain ⟨rfl, hsz, hP, hK, hD0⟩ := hv
  have hx := B.exec
  have hb := B.bytes
  have hr := B.returns
  have hts := atoms_spec (ws := wsX3_wantBehindLetter) B.pre
  have hown : s.vm.findClass RX3 = some m.cls := findClass_of_methodNamed B.named
  have hlocks := B.notSynchronized
  subst hsz
  have hD := hD0.self (sz := s.heap.size)
  generalize hAe : va_A ([]) s.heap.size = A at hD ⊢
  have hA : ∀ q : Nat, s.heap.size ≤ q → A q := fun q h => by rw [← hAe]; exact Or.inr h
  have hS : va_S A s.heap s.heap [] := va_S.rf
  show W p l e ({ frames := 0, cells := 0, slots := 0, locals := 0 } : Room) s m _ below meth c s.heap [] 0 0 _ _
  refine W_genQ (fun Q hQ => ?_)
  have h := hf
  rw [fX3_wantBehindLetter] at h
  have hl := lv_entry ([.int p0]) (n := 1) (Nat.le_of_ble_eq_true rfl)
  rw [lg_entry_eq]
  generalize (lg_sl ([.int p0]) ++ List.replicate (1 - (lg_sl ([.int p0])).length) Slot.unset).toArray = ls at hl ⊢
  have hl : lv_has ls 1 [(0, .int p0)] := hl
  refine lv_iload_n hx hb dX3_wantBehindLetter_0 rfl (lv_at hl 0 rfl) ?_
  by_cases c1 : p0 = 99
  · have h := o_t h c1
    refine lv_tableIn (off := 86) (tgt := 87) hx hb dX3_wantBehindLetter_1 (by rw [c1]; decide) (by rw [c1]; decide) (by rw [c1]; rfl) (by decide) ?_
    refine lv_iconst (v := 1) hx hb dX3_wantBehindLetter_87 (by decide) ?_
    obtain rfl := o_s h
    rw [hQ]
    exact end_i hx hb hr rfl hP hD hS dX3_wantBehindLetter_88 hlocks
  have h := o_f h c1
  by_cases c2 : p0 = 100
  · have h := o_t h c2
    refine lv_tableIn (off := 83) (tgt := 84) hx hb dX3_wantBehindLetter_1 (by rw [c2]; decide) (by rw [c2]; decide) (by rw [c2]; rfl) (by decide) ?_
    refine lv_bipush (v := 6) hx hb dX3_wantBehindLetter_84 (by decide) ?_
    obtain rfl := o_s h
    rw [hQ]
    exact end_i hx hb hr rfl hP hD hS dX3_wantBehindLetter_86 hlocks
  have h := o_f h c2
  by_cases c3 : p0 = 101
  · have h := o_t h c3
    refine lv_tableIn (off := 83) (tgt := 84) hx hb dX3_wantBehindLetter_1 (by rw [c3]; decide) (by rw [c3]; decide) (by rw [c3]; rfl) (by decide) ?_
    refine lv_bipush (v := 6) hx hb dX3_wantBehindLetter_84 (by decide) ?_
    obtain rfl := o_s h
    rw [hQ]
    exact end_i hx hb hr rfl hP hD hS dX3_wantBehindLetter_86 hlocks
  have h := o_f h c3
  by_cases c4 : p0 = 102
  · have h := o_t h c4
    refine lv_tableIn (off := 90) (tgt := 91) hx hb dX3_wantBehindLetter_1 (by rw [c4]; decide) (by rw [c4]; decide) (by rw [c4]; rfl) (by decide) ?_
    refine lv_iconst (v := (-1)) hx hb dX3_wantBehindLetter_91 (by decide) ?_
    obtain rfl := o_s h
    rw [hQ]
    exact end_i hx hb hr rfl hP hD hS dX3_wantBehindLetter_92 hlocks
  have h := o_f h c4
  by_cases c5 : p0 = 103
  · have h := o_t h c5
    refine lv_tableIn (off := 90) (tgt := 91) hx hb dX3_wantBehindLetter_1 (by rw [c5]; decide) (by rw [c5]; decide) (by rw [c5]; rfl) (by decide) ?_
    refine lv_iconst (v := (-1)) hx hb dX3_wantBehindLetter_91 (by decide) ?_
    obtain rfl := o_s h
    rw [hQ]
    exact end_i hx hb hr rfl hP hD hS dX3_wantBehindLetter_92 hlocks
  have h := o_f h c5
  by_cases c6 : p0 = 104
  · have h := o_t h c6
    refine lv_tableIn (off := 88) (tgt := 89) hx hb dX3_wantBehindLetter_1 (by rw [c6]; decide) (by rw [c6]; decide) (by rw [c6]; rfl) (by decide) ?_
    refine lv_iconst (v := 2) hx hb dX3_wantBehindLetter_89 (by decide) ?_
    obtain rfl := o_s h
    rw [hQ]
    exact end_i hx hb hr rfl hP hD hS dX3_wantBehindLetter_90 hlocks
  have h := o_f h c6
  by_cases c7 : p0 = 105
  · have h := o_t h c7
    refine lv_tableIn (off := 90) (tgt := 91) hx hb dX3_wantBehindLetter_1 (by rw [c7]; decide) (by rw [c7]; decide) (by rw [c7]; rfl) (by decide) ?_
    refine lv_iconst (v := (-1)) hx hb dX3_wantBehindLetter_91 (by decide) ?_
    obtain rfl := o_s h
    rw [hQ]
    exact end_i hx hb hr rfl hP hD hS dX3_wantBehindLetter_92 hlocks
  have h := o_f h c7
  by_cases c8 : p0 = 106
  · have h := o_t h c8
    refine lv_tableIn (off := 90) (tgt := 91) hx hb dX3_wantBehindLetter_1 (by rw [c8]; decide) (by rw [c8]; decide) (by rw [c8]; rfl) (by decide) ?_
    refine lv_iconst (v := (-1)) hx hb dX3_wantBehindLetter_91 (by decide) ?_
    obtain rfl := o_s h
    rw [hQ]
    exact end_i hx hb hr rfl hP hD hS dX3_wantBehindLetter_92 hlocks
  have h := o_f h c8
  by_cases c9 : p0 = 107
  · have h := o_t h c9
    refine lv_tableIn (off := 90) (tgt := 91) hx hb dX3_wantBehindLetter_1 (by rw [c9]; decide) (by rw [c9]; decide) (by rw [c9]; rfl) (by decide) ?_
    refine lv_iconst (v := (-1)) hx hb dX3_wantBehindLetter_91 (by decide) ?_
    obtain rfl := o_s h
    rw [hQ]
    exact end_i hx hb hr rfl hP hD hS dX3_wantBehindLetter_92 hlocks
  have h := o_f h c9
  by_cases c10 : p0 = 108
  · have h := o_t h c10
    refine lv_tableIn (off := 90) (tgt := 91) hx hb dX3_wantBehindLetter_1 (by rw [c10]; decide) (by rw [c10]; decide) (by rw [c10]; rfl) (by decide) ?_
    refine lv_iconst (v := (-1)) hx hb dX3_wantBehindLetter_91 (by decide) ?_
    obtain rfl := o_s h
    rw [hQ]
    exact end_i hx hb hr rfl hP hD hS dX3_wantBehindLetter_92 hlocks
  have h := o_f h c10
  by_cases c11 : p0 = 109
  · have h := o_t h c11
    refine lv_tableIn (off := 90) (tgt := 91) hx hb dX3_wantBehindLetter_1 (by rw [c11]; decide) (by rw [c11]; decide) (by rw [c11]; rfl) (by decide) ?_
    refine lv_iconst (v := (-1)) hx hb dX3_wantBehindLetter_91 (by decide) ?_
    obtain rfl := o_s h
    rw [hQ]
    exact end_i hx hb hr rfl hP hD hS dX3_wantBehindLetter_92 hlocks
  have h := o_f h c11
  by_cases c12 : p0 = 110
  · have h := o_t h c12
    refine lv_tableIn (off := 83) (tgt := 84) hx hb dX3_wantBehindLetter_1 (by rw [c12]; decide) (by rw [c12]; decide) (by rw [c12]; rfl) (by decide) ?_
    refine lv_bipush (v := 6) hx hb dX3_wantBehindLetter_84 (by decide) ?_
    obtain rfl := o_s h
    rw [hQ]
    exact end_i hx hb hr rfl hP hD hS dX3_wantBehindLetter_86 hlocks
  have h := o_f h c12
  by_cases c13 : p0 = 111
  · have h := o_t h c13
    refine lv_tableIn (off := 90) (tgt := 91) hx hb dX3_wantBehindLetter_1 (by rw [c13]; decide) (by rw [c13]; decide) (by rw [c13]; rfl) (by decide) ?_
    refine lv_iconst (v := (-1)) hx hb dX3_wantBehindLetter_91 (by decide) ?_
    obtain rfl := o_s h
    rw [hQ]
    exact end_i hx hb hr rfl hP hD hS dX3_wantBehindLetter_92 hlocks
  have h := o_f h c13
  by_cases c14 : p0 = 112
  · have h := o_t h c14
    refine lv_tableIn (off := 90) (tgt := 91) hx hb dX3_wantBehindLetter_1 (by rw [c14]; decide) (by rw [c14]; decide) (by rw [c14]; rfl) (by decide) ?_
    refine lv_iconst (v := (-1)) hx hb dX3_wantBehindLetter_91 (by decide) ?_
    obtain rfl := o_s h
    rw [hQ]
    exact end_i hx hb hr rfl hP hD hS dX3_wantBehindLetter_92 hlocks
  have h := o_f h c14
  by_cases c15 : p0 = 113
  · have h := o_t h c15
    refine lv_tableIn (off := 90) (tgt := 91) hx hb dX3_wantBehindLetter_1 (by rw [c15]; decide) (by rw [c15]; decide) (by rw [c15]; rfl) (by decide) ?_
    refine lv_iconst (v := (-1)) hx hb dX3_wantBehindLetter_91 (by decide) ?_
    obtain rfl := o_s h
    rw [hQ]
    exact end_i hx hb hr rfl hP hD hS dX3_wantBehindLetter_92 hlocks
  have h := o_f h c15
  by_cases c16 : p0 = 114
  · have h := o_t h c16
    refine lv_tableIn (off := 83) (tgt := 84) hx hb dX3_wantBehindLetter_1 (by rw [c16]; decide) (by rw [c16]; decide) (by rw [c16]; rfl) (by decide) ?_
    refine lv_bipush (v := 6) hx hb dX3_wantBehindLetter_84 (by decide) ?_
    obtain rfl := o_s h
    rw [hQ]
    exact end_i hx hb hr rfl hP hD hS dX3_wantBehindLetter_86 hlocks
  have h := o_f h c16
  by_cases c17 : p0 = 115
  · have h := o_t h c17
    refine lv_tableIn (off := 88) (tgt := 89) hx hb dX3_wantBehindLetter_1 (by rw [c17]; decide) (by rw [c17]; decide) (by rw [c17]; rfl) (by decide) ?_
    refine lv_iconst (v := 2) hx hb dX3_wantBehindLetter_89 (by decide) ?_
    obtain rfl := o_s h
    rw [hQ]
    exact end_i hx hb hr rfl hP hD hS dX3_wantBehindLetter_90 hlocks
  have h := o_f h c17
  have kc1 := ne_ti c1 (z := 99) (by decide)
  have kc2 := ne_ti c2 (z := 100) (by decide)
  have kc3 := ne_ti c3 (z := 101) (by decide)
  have kc4 := ne_ti c4 (z := 102) (by decide)
  have kc5 := ne_ti c5 (z := 103) (by decide)
  have kc6 := ne_ti c6 (z := 104) (by decide)
  have kc7 := ne_ti c7 (z := 105) (by decide)
  have kc8 := ne_ti c8 (z := 106) (by decide)
  have kc9 := ne_ti c9 (z := 107) (by decide)
  have kc10 := ne_ti c10 (z := 108) (by decide)
  have kc11 := ne_ti c11 (z := 109) (by decide)
  have kc12 := ne_ti c12 (z := 110) (by decide)
  have kc13 := ne_ti c13 (z := 111) (by decide)
  have kc14 := ne_ti c14 (z := 112) (by decide)
  have kc15 := ne_ti c15 (z := 113) (by decide)
  have kc16 := ne_ti c16 (z := 114) (by decide)
  have kc17 := ne_ti c17 (z := 115) (by decide)
  refine lv_tableOut (tgt := 91) hx hb dX3_wantBehindLetter_1 (by omega) (by decide) ?_
  refine lv_iconst (v := (-1)) hx hb dX3_wantBehindLetter_91 (by decide) ?_
  obtain rfl := o_s h
  rw [hQ]
  exact end_i hx hb hr rfl hP hD hS dX3_wantBehindLetter_92 hlocks
theorem hdX3_isDigit : yX3_isDigit.cls ≠ "java/lang/invoke/MethodHandle" ∧ yX3_isDigit.cls ≠ "java/lang/invoke/VarHandle" ∧ (parseMethodDescriptor yX3_isDigit.desc).map (fun d => d.parameters.length) = some 1 := by decide +kernel
set_option maxHeartbeats 4000000 in
set_option maxRecDepth 100000 in
theorem cX3_isDigit_ok (l : Launch) (G : va_G) (cI cG : ClassId) (p0 : Int32) (out : Bool) (hf : fX3_isDigit p0 = some out) : CI l G (tyz cI cG) yX3_isDigit wsX3_isDigit ({ frames := 0, cells := 0, slots := 0, locals := 0 } : Room) [.int p0] [] (bI out) [] := by
  intro sz
  refine Met.ofW (cc := cX3_isDigit) (maxL := 1) (ret := (some .boolean)) (by decide) rfl ?_
  intro p e s m args below meth c s₁ B hml hv
  obtain ⟨rfl, hsz, hP, hK, hD0⟩ := hv
  have hx := B.exec
  have hb := B.bytes
  have hr := B.returns
  have hts := atoms_spec (ws := wsX3_isDigit) B.pre
  have hown : s.vm.findClass RX3 = some m.cls := findClass_of_methodNamed B.named
  have hlocks := B.notSynchronized
  subst hsz
  have hD := hD0.self (sz := s.heap.size)
  generalize hAe : va_A ([]) s.heap.size = A at hD ⊢
  have hA : ∀ q : Nat, s.heap.size ≤ q → A q := fun q h => by rw [← hAe]; exact Or.inr h
  have hS : va_S A s.heap s.heap [] := va_S.rf
  show W p l e ({ frames := 0, cells := 0, slots := 0, locals := 0 } : Room) s m _ below meth c s.heap [] 0 0 _ _
  refine W_genQ (fun Q hQ => ?_)
  have h := hf
  rw [fX3_isDigit] at h
  have hl := lv_entry ([.int p0]) (n := 1) (Nat.le_of_ble_eq_true rfl)
  rw [lg_entry_eq]
  generalize (lg_sl ([.int p0]) ++ List.replicate (1 - (lg_sl ([.int p0])).length) Slot.unset).toArray = ls at hl ⊢
  have hl : lv_has ls 1 [(0, .int p0)] := hl
  refine lv_iload_n hx hb dX3_isDigit_0 rfl (lv_at hl 0 rfl) ?_
  refine lv_bipush (v := 48) hx hb dX3_isDigit_1 (by decide) ?_
  refine lv_icmp_lt (tgt := 16) hx hb dX3_isDigit_3 (by decide) (fun hc => ?_) (fun hc => ?_)
  · have h := o_t h hc
    refine lv_iconst (v := 0) hx hb dX3_isDigit_16 (by decide) ?_
    obtain rfl := o_s h
    rw [hQ]
    exact end_z hx hb hr rfl rfl hP hD hS dX3_isDigit_17 hlocks
  · have h := o_f h hc
    refine lv_iload_n hx hb dX3_isDigit_6 rfl (lv_at hl 0 rfl) ?_
    refine lv_bipush (v := 57) hx hb dX3_isDigit_7 (by decide) ?_
    refine lv_icmp_gt (tgt := 16) hx hb dX3_isDigit_9 (by decide) (fun hc => ?_) (fun hc => ?_)
    · have h := o_t h hc
      refine lv_iconst (v := 0) hx hb dX3_isDigit_16 (by decide) ?_
      obtain rfl := o_s h
      rw [hQ]
      exact end_z hx hb hr rfl rfl hP hD hS dX3_isDigit_17 hlocks
    · have h := o_f h hc
      refine lv_iconst (v := 1) hx hb dX3_isDigit_12 (by decide) ?_
      refine lv_goto (tgt := 17) hx hb dX3_isDigit_13 (by decide) ?_
      obtain rfl := o_s h
      rw [hQ]
      exact end_z hx hb hr rfl rfl hP hD hS dX3_isDigit_17 hlocks
theorem hdX3_wantBehindEnd : yX3_wantBehindEnd.cls ≠ "java/lang/invoke/MethodHandle" ∧ yX3_wantBehindEnd.cls ≠ "java/lang/invoke/VarHandle" ∧ (parseMethodDescriptor yX3_wantBehindEnd.desc).map (fun d => d.parameters.length) = some 1 := by decide +kernel
set_option maxHeartbeats 4000000 in
set_option maxRecDepth 100000 in
theorem cX3_wantBehindEnd_ok (l : Launch) (G : va_G) (cI cG : ClassId) (p0 : Int32) (out : Int32) (hf : fX3_wantBehindEnd p0 = some out) : CI l G (tyz cI cG) yX3_wantBehindEnd wsX3_wantBehindEnd ({ frames := 0, cells := 0, slots := 0, locals := 0 } : Room) [.int p0] [] out [] := by
  intro sz
  refine Met.ofW (cc := cX3_wantBehindEnd) (maxL := 1) (ret := (some .int)) (by decide) rfl ?_
  intro p e s m args below meth c s₁ B hml hv
  obtain ⟨rfl, hsz, hP, hK, hD0⟩ := hv
  have hx := B.exec
  have hb := B.bytes
  have hr := B.returns
  have hts := atoms_spec (ws := wsX3_wantBehindEnd) B.pre
  have hown : s.vm.findClass RX3 = some m.cls := findClass_of_methodNamed B.named
  have hlocks := B.notSynchronized
  subst hsz
  have hD := hD0.self (sz := s.heap.size)
  generalize hAe : va_A ([]) s.heap.size = A at hD ⊢
  have hA : ∀ q : Nat, s.heap.size ≤ q → A q := fun q h => by rw [← hAe]; exact Or.inr h
  have hS : va_S A s.heap s.heap [] := va_S.rf
  show W p l e ({ frames := 0, cells := 0, slots := 0, locals := 0 } : Room) s m _ below meth c s.heap [] 0 0 _ _
  refine W_genQ (fun Q hQ => ?_)
  have h := hf
  rw [fX3_wantBehindEnd] at h
  have hl := lv_entry ([.int p0]) (n := 1) (Nat.le_of_ble_eq_true rfl)
  rw [lg_entry_eq]
  generalize (lg_sl ([.int p0]) ++ List.replicate (1 - (lg_sl ([.int p0])).length) Slot.unset).toArray = ls at hl ⊢
  have hl : lv_has ls 1 [(0, .int p0)] := hl
  refine lv_iload_n hx hb dX3_wantBehindEnd_0 rfl (lv_at hl 0 rfl) ?_
  refine lv_bipush (v := 59) hx hb dX3_wantBehindEnd_1 (by decide) ?_
  refine lv_icmp_ne (tgt := 10) hx hb dX3_wantBehindEnd_3 (by decide) (fun hc => ?_) (fun hc => ?_)
  · have h := o_f h hc
    refine lv_iconst (v := (-1)) hx hb dX3_wantBehindEnd_10 (by decide) ?_
    obtain rfl := o_s h
    rw [hQ]
    exact end_i hx hb hr rfl hP hD hS dX3_wantBehindEnd_11 hlocks
  · have h := o_t h hc
    refine lv_iconst (v := 0) hx hb dX3_wantBehindEnd_6 (by decide) ?_
    refine lv_goto (tgt := 11) hx hb dX3_wantBehindEnd_7 (by decide) ?_
    obtain rfl := o_s h
    rw [hQ]
    exact end_i hx hb hr rfl hP hD hS dX3_wantBehindEnd_11 hlocks
theorem hdX3_wantBehind : yX3_wantBehind.cls ≠ "java/lang/invoke/MethodHandle" ∧ yX3_wantBehind.cls ≠ "java/lang/invoke/VarHandle" ∧ (parseMethodDescriptor yX3_wantBehind.desc).map (fun d => d.parameters.length) = some 2 := by decide +kernel
set_option maxHeartbeats 4000000 in
set_option maxRecDepth 100000 in
theorem cX3_wantBehind_ok (l : Launch) (G : va_G) (cI cG : ClassId) (p0 : Int32) (p1 : Int32) (out : Int32) (hf : fX3_wantBehind p0 p1 = some out) : CI l G (tyz cI cG) yX3_wantBehind wsX3_wantBehind ({ frames := 1, cells := 0, slots := 0, locals := 20 } : Room) [.int p0, .int p1] [] out [] := by
  intro sz
  refine Met.ofW (cc := cX3_wantBehind) (maxL := 2) (ret := (some .int)) (by decide) rfl ?_
  intro p e s m args below meth c s₁ B hml hv
  obtain ⟨rfl, hsz, hP, hK, hD0⟩ := hv
  have hx := B.exec
  have hb := B.bytes
  have hr := B.returns
  have hts := atoms_spec (ws := wsX3_wantBehind) B.pre
  have hown : s.vm.findClass RX3 = some m.cls := findClass_of_methodNamed B.named
  have hlocks := B.notSynchronized
  subst hsz
  have hD := hD0.self (sz := s.heap.size)
  generalize hAe : va_A ([]) s.heap.size = A at hD ⊢
  have hA : ∀ q : Nat, s.heap.size ≤ q → A q := fun q h => by rw [← hAe]; exact Or.inr h
  have hS : va_S A s.heap s.heap [] := va_S.rf
  show W p l e ({ frames := 1, cells := 0, slots := 0, locals := 20 } : Room) s m _ below meth c s.heap [] 0 0 _ _
  refine W_genQ (fun Q hQ => ?_)
  have h := hf
  rw [fX3_wantBehind] at h
  have hl := lv_entry ([.int p0, .int p1]) (n := 2) (Nat.le_of_ble_eq_true rfl)
  rw [lg_entry_eq]
  generalize (lg_sl ([.int p0, .int p1]) ++ List.replicate (2 - (lg_sl ([.int p0, .int p1])).length) Slot.unset).toArray = ls at hl ⊢
  have hl : lv_has ls 2 [(0, .int p0), (1, .int p1)] := hl
  refine lv_iload_n hx hb dX3_wantBehind_0 rfl (lv_at hl 0 rfl) ?_
  by_cases c1 : p0 = 0
  · have h := o_t h c1
    refine lv_tableIn (off := 39) (tgt := 40) hx hb dX3_wantBehind_1 (by rw [c1]; decide) (by rw [c1]; decide) (by rw [c1]; rfl) (by decide) ?_
    refine lv_iload_n hx hb dX3_wantBehind_40 rfl (lv_at hl 1 rfl) ?_
    obtain ⟨x2, ex2, h⟩ := o_b h
    refine call_iS (As := [.int p1]) (rest := []) (ws2 := []) ⟨hx, hb, hml, hown, hts⟩ (cX3_wantBehindLetter_ok l G cI cG p1 x2 ex2) (va_cwS 1 hts gX3_wantBehind_X3_wantBehindLetter_48 rfl rfl rfl hdX3_wantBehindLetter ⟨Nat.le_of_ble_eq_true rfl, Nat.le_of_ble_eq_true rfl⟩) hP hD hS hA hK [] rfl rfl rfl rfl rfl rfl rfl rfl hl.1 (Nat.le_of_ble_eq_true rfl) dX3_wantBehind_41 ⟨Nat.zero_le _, Nat.zero_le _⟩ (fun H locs hP hD hS => ?_)
    obtain rfl := o_s h
    rw [hQ]
    exact end_i hx hb hr rfl hP hD hS dX3_wantBehind_44 hlocks
  have h := o_f h c1
  by_cases c3 : p0 = 1
  · have h := o_t h c3
    refine lv_tableIn (off := 44) (tgt := 45) hx hb dX3_wantBehind_1 (by rw [c3]; decide) (by rw [c3]; decide) (by rw [c3]; rfl) (by decide) ?_
    refine lv_iload_n hx hb dX3_wantBehind_45 rfl (lv_at hl 1 rfl) ?_
    obtain ⟨x4, ex4, h⟩ := o_b h
    refine call_iS (As := [.int p1]) (rest := []) (ws2 := []) ⟨hx, hb, hml, hown, hts⟩ (cX3_isDigit_ok l G cI cG p1 x4 ex4) (va_cwS 1 hts gX3_wantBehind_X3_isDigit_52 rfl rfl rfl hdX3_isDigit ⟨Nat.le_of_ble_eq_true rfl, Nat.le_of_ble_eq_true rfl⟩) hP hD hS hA hK [] rfl rfl rfl rfl rfl rfl rfl rfl hl.1 (Nat.le_of_ble_eq_true rfl) dX3_wantBehind_46 ⟨Nat.zero_le _, Nat.zero_le _⟩ (fun H locs hP hD hS => ?_)
    refine lv_if_eq (tgt := 57) hx hb dX3_wantBehind_49 (by decide) (fun hc => ?_) (fun hc => ?_)
    · have h := o_t h hc
      refine lv_iconst (v := (-1)) hx hb dX3_wantBehind_57 (by decide) ?_
      obtain rfl := o_s h
      rw [hQ]
      exact end_i hx hb hr rfl hP hD hS dX3_wantBehind_58 hlocks
    · have h := o_f h hc
      refine lv_bipush (v := 6) hx hb dX3_wantBehind_52 (by decide) ?_
      refine lv_goto (tgt := 58) hx hb dX3_wantBehind_54 (by decide) ?_
      obtain rfl := o_s h
      rw [hQ]
      exact end_i hx hb hr rfl hP hD hS dX3_wantBehind_58 hlocks
  have h := o_f h c3
  by_cases c5 : p0 = 2
  · have h := o_t h c5
    refine lv_tableIn (off := 58) (tgt := 59) hx hb dX3_wantBehind_1 (by rw [c5]; decide) (by rw [c5]; decide) (by rw [c5]; rfl) (by decide) ?_
    refine lv_iload_n hx hb dX3_wantBehind_59 rfl (lv_at hl 1 rfl) ?_
    obtain ⟨x6, ex6, h⟩ := o_b h
    refine call_iS (As := [.int p1]) (rest := []) (ws2 := []) ⟨hx, hb, hml, hown, hts⟩ (cX3_isDigit_ok l G cI cG p1 x6 ex6) (va_cwS 1 hts gX3_wantBehind_X3_isDigit_52 rfl rfl rfl hdX3_isDigit ⟨Nat.le_of_ble_eq_true rfl, Nat.le_of_ble_eq_true rfl⟩) hP hD hS hA hK [] rfl rfl rfl rfl rfl rfl rfl rfl hl.1 (Nat.le_of_ble_eq_true rfl) dX3_wantBehind_60 ⟨Nat.zero_le _, Nat.zero_le _⟩ (fun H locs hP hD hS => ?_)
    refine lv_if_eq (tgt := 70) hx hb dX3_wantBehind_63 (by decide) (fun hc => ?_) (fun hc => ?_)
    · have h := o_t h hc
      refine lv_iconst (v := (-1)) hx hb dX3_wantBehind_70 (by decide) ?_
      obtain rfl := o_s h
      rw [hQ]
      exact end_i hx hb hr rfl hP hD hS dX3_wantBehind_71 hlocks
    · have h := o_f h hc
      refine lv_iconst (v := 3) hx hb dX3_wantBehind_66 (by decide) ?_
      refine lv_goto (tgt := 71) hx hb dX3_wantBehind_67 (by decide) ?_
      obtain rfl := o_s h
      rw [hQ]
      exact end_i hx hb hr rfl hP hD hS dX3_wantBehind_71 hlocks
  have h := o_f h c5
  by_cases c7 : p0 = 3
  · have h := o_t h c7
    refine lv_tableIn (off := 71) (tgt := 72) hx hb dX3_wantBehind_1 (by rw [c7]; decide) (by rw [c7]; decide) (by rw [c7]; rfl) (by decide) ?_
    refine lv_iload_n hx hb dX3_wantBehind_72 rfl (lv_at hl 1 rfl) ?_
    refine lv_bipush (v := 44) hx hb dX3_wantBehind_73 (by decide) ?_
    refine lv_icmp_ne (tgt := 82) hx hb dX3_wantBehind_75 (by decide) (fun hc => ?_) (fun hc => ?_)
    · have h := o_f h hc
      refine lv_iconst (v := (-1)) hx hb dX3_wantBehind_82 (by decide) ?_
      obtain rfl := o_s h
      rw [hQ]
      exact end_i hx hb hr rfl hP hD hS dX3_wantBehind_83 hlocks
    · have h := o_t h hc
      refine lv_iconst (v := 4) hx hb dX3_wantBehind_78 (by decide) ?_
      refine lv_goto (tgt := 83) hx hb dX3_wantBehind_79 (by decide) ?_
      obtain rfl := o_s h
      rw [hQ]
      exact end_i hx hb hr rfl hP hD hS dX3_wantBehind_83 hlocks
  have h := o_f h c7
  by_cases c8 : p0 = 4
  · have h := o_t h c8
    refine lv_tableIn (off := 83) (tgt := 84) hx hb dX3_wantBehind_1 (by rw [c8]; decide) (by rw [c8]; decide) (by rw [c8]; rfl) (by decide) ?_
    refine lv_iload_n hx hb dX3_wantBehind_84 rfl (lv_at hl 1 rfl) ?_
    obtain ⟨x9, ex9, h⟩ := o_b h
    refine call_iS (As := [.int p1]) (rest := []) (ws2 := []) ⟨hx, hb, hml, hown, hts⟩ (cX3_isDigit_ok l G cI cG p1 x9 ex9) (va_cwS 1 hts gX3_wantBehind_X3_isDigit_52 rfl rfl rfl hdX3_isDigit ⟨Nat.le_of_ble_eq_true rfl, Nat.le_of_ble_eq_true rfl⟩) hP hD hS hA hK [] rfl rfl rfl rfl rfl rfl rfl rfl hl.1 (Nat.le_of_ble_eq_true rfl) dX3_wantBehind_85 ⟨Nat.zero_le _, Nat.zero_le _⟩ (fun H locs hP hD hS => ?_)
    refine lv_if_eq (tgt := 95) hx hb dX3_wantBehind_88 (by decide) (fun hc => ?_) (fun hc => ?_)
    · have h := o_t h hc
      refine lv_iconst (v := (-1)) hx hb dX3_wantBehind_95 (by decide) ?_
      obtain rfl := o_s h
      rw [hQ]
      exact end_i hx hb hr rfl hP hD hS dX3_wantBehind_96 hlocks
    · have h := o_f h hc
      refine lv_iconst (v := 5) hx hb dX3_wantBehind_91 (by decide) ?_
      refine lv_goto (tgt := 96) hx hb dX3_wantBehind_92 (by decide) ?_
      obtain rfl := o_s h
      rw [hQ]
      exact end_i hx hb hr rfl hP hD hS dX3_wantBehind_96 hlocks
  have h := o_f h c8
  by_cases c10 : p0 = 5
  · have h := o_t h c10
    refine lv_tableIn (off := 96) (tgt := 97) hx hb dX3_wantBehind_1 (by rw [c10]; decide) (by rw [c10]; decide) (by rw [c10]; rfl) (by decide) ?_
    refine lv_iload_n hx hb dX3_wantBehind_97 rfl (lv_at hl 1 rfl) ?_
    obtain ⟨x11, ex11, h⟩ := o_b h
    refine call_iS (As := [.int p1]) (rest := []) (ws2 := []) ⟨hx, hb, hml, hown, hts⟩ (cX3_isDigit_ok l G cI cG p1 x11 ex11) (va_cwS 1 hts gX3_wantBehind_X3_isDigit_52 rfl rfl rfl hdX3_isDigit ⟨Nat.le_of_ble_eq_true rfl, Nat.le_of_ble_eq_true rfl⟩) hP hD hS hA hK [] rfl rfl rfl rfl rfl rfl rfl rfl hl.1 (Nat.le_of_ble_eq_true rfl) dX3_wantBehind_98 ⟨Nat.zero_le _, Nat.zero_le _⟩ (fun H locs hP hD hS => ?_)
    refine lv_if_eq (tgt := 109) hx hb dX3_wantBehind_101 (by decide) (fun hc => ?_) (fun hc => ?_)
    · have h := o_t h hc
      refine lv_iload_n hx hb dX3_wantBehind_109 rfl (lv_at hl 1 rfl) ?_
      obtain ⟨x12, ex12, h⟩ := o_b h
      refine call_iS (As := [.int p1]) (rest := []) (ws2 := []) ⟨hx, hb, hml, hown, hts⟩ (cX3_wantBehindEnd_ok l G cI cG p1 x12 ex12) (va_cwS 1 hts gX3_wantBehind_X3_wantBehindEnd_56 rfl rfl rfl hdX3_wantBehindEnd ⟨Nat.le_of_ble_eq_true rfl, Nat.le_of_ble_eq_true rfl⟩) hP hD hS hA hK [] rfl rfl rfl rfl rfl rfl rfl rfl hl.1 (Nat.le_of_ble_eq_true rfl) dX3_wantBehind_110 ⟨Nat.zero_le _, Nat.zero_le _⟩ (fun H locs hP hD hS => ?_)
      obtain rfl := o_s h
      rw [hQ]
      exact end_i hx hb hr rfl hP hD hS dX3_wantBehind_113 hlocks
    · have h := o_f h hc
      refine lv_bipush (v := 6) hx hb dX3_wantBehind_104 (by decide) ?_
      refine lv_goto (tgt := 113) hx hb dX3_wantBehind_106 (by decide) ?_
      obtain rfl := o_s h
      rw [hQ]
      exact end_i hx hb hr rfl hP hD hS dX3_wantBehind_113 hlocks
  have h := o_f h c10
  have kc1 := ne_ti c1 (z := 0) (by decide)
  have kc3 := ne_ti c3 (z := 1) (by decide)
  have kc5 := ne_ti c5 (z := 2) (by decide)
  have kc7 := ne_ti c7 (z := 3) (by decide)
  have kc8 := ne_ti c8 (z := 4) (by decide)
  have kc10 := ne_ti c10 (z := 5) (by decide)
  refine lv_tableOut (tgt := 114) hx hb dX3_wantBehind_1 (by omega) (by decide) ?_
  refine lv_iload_n hx hb dX3_wantBehind_114 rfl (lv_at hl 1 rfl) ?_
  obtain ⟨x13, ex13, h⟩ := o_b h
  refine call_iS (As := [.int p1]) (rest := []) (ws2 := []) ⟨hx, hb, hml, hown, hts⟩ (cX3_wantBehindEnd_ok l G cI cG p1 x13 ex13) (va_cwS 1 hts gX3_wantBehind_X3_wantBehindEnd_56 rfl rfl rfl hdX3_wantBehindEnd ⟨Nat.le_of_ble_eq_true rfl, Nat.le_of_ble_eq_true rfl⟩) hP hD hS hA hK [] rfl rfl rfl rfl rfl rfl rfl rfl hl.1 (Nat.le_of_ble_eq_true rfl) dX3_wantBehind_115 ⟨Nat.zero_le _, Nat.zero_le _⟩ (fun H locs hP hD hS => ?_)
  obtain rfl := o_s h
  rw [hQ]
  exact end_i hx hb hr rfl hP hD hS dX3_wantBehind_118 hlocks
theorem hdX3_note : yX3_note.cls = RX3 ∧ yX3_note.cls ≠ "java/lang/invoke/MethodHandle" ∧ yX3_note.cls ≠ "java/lang/invoke/VarHandle" ∧ (parseMethodDescriptor yX3_note.desc).map (fun d => d.parameters.length) = some 2 := by decide +kernel
set_option maxHeartbeats 4000000 in
set_option maxRecDepth 100000 in
theorem cX3_note_ok (l : Launch) (G : va_G) (cI cG : ClassId) (a0 a1 a2 a3 a4 : Nat) (fu : Nat) (tx : Tab) (cm : Tab) (p1 : Int32) (p2 : Int32) (out : Tab) (hf : fX3_note fu cm p1 p2 = some out) : CV l G (tyz cI cG) yX3_note wsX3_note ({ frames := 3, cells := 0, slots := 0, locals := 83 } : Room) [.ref a0, .int p1, .int p2] [(a0, .inr (3, [.ref a1, .ref a3])), (a1, .inr (4, [.int tx.1, .ref a2, .int tx.2.2.2])), (a2, .inl (cI, tx.2.1, .inl tx.2.2.1)), (a3, .inr (4, [.int cm.1, .ref a4, .int cm.2.2.2])), (a4, .inl (cI, cm.2.1, .inl cm.2.2.1))] [(a0, .inr (3, [.ref a1, .ref a3])), (a1, .inr (4, [.int tx.1, .ref a2, .int tx.2.2.2])), (a2, .inl (cI, tx.2.1, .inl tx.2.2.1)), (a3, .inr (4, [.int out.1, .ref a4, .int out.2.2.2])), (a4, .inl (cI, out.2.1, .inl out.2.2.1))] := by
  intro sz
  refine Met.ofW (cc := cX3_note) (maxL := 4) (ret := none) (by decide) rfl ?_
  intro p e s m args below meth c s₁ B hml hv
  obtain ⟨rfl, hsz, hP, hK, hD0⟩ := hv
  have hx := B.exec
  have hb := B.bytes
  have hr := B.returns
  have hts := atoms_spec (ws := wsX3_note) B.pre
  have hown : s.vm.findClass RX3 = some m.cls := findClass_of_methodNamed B.named
  have hlocks := B.notSynchronized
  subst hsz
  have hD := hD0.self (sz := s.heap.size)
  generalize hAe : va_A ([(a0, .inr (3, [.ref a1, .ref a3])), (a1, .inr (4, [.int tx.1, .ref a2, .int tx.2.2.2])), (a2, .inl (cI, tx.2.1, .inl tx.2.2.1)), (a3, .inr (4, [.int cm.1, .ref a4, .int cm.2.2.2])), (a4, .inl (cI, cm.2.1, .inl cm.2.2.1))]) s.heap.size = A at hD ⊢
  have hA : ∀ q : Nat, s.heap.size ≤ q → A q := fun q h => by rw [← hAe]; exact Or.inr h
  have hS : va_S A s.heap s.heap [] := va_S.rf
  have hw0 := hts (.fieldLink RX3 20 "SpeedTurns$Script" "commands" "LSpeedTurns$Table;") (List.mem_of_getElem? (i := 1) rfl)
  show W p l e ({ frames := 3, cells := 0, slots := 0, locals := 83 } : Room) s m _ below meth c s.heap [] 0 0 _ _
  refine W_genQ (fun Q hQ => ?_)
  have J55 : ∀ (cm : Tab) (v3 : Int32) (H : Heap) (locs : List Loc) (ls : Array Slot), fX3_note_J55 fu p2 cm v3 = some out → va_P G vwCl ([(a0, .inr (3, [.ref a1, .ref a3])), (a1, .inr (4, [.int tx.1, .ref a2, .int tx.2.2.2])), (a2, .inl (cI, tx.2.1, .inl tx.2.2.1)), (a3, .inr (4, [.int cm.1, .ref a4, .int cm.2.2.2])), (a4, .inl (cI, cm.2.1, .inl cm.2.2.1))]) H → va_D A ([(a0, .inr (3, [.ref a1, .ref a3])), (a1, .inr (4, [.int tx.1, .ref a2, .int tx.2.2.2])), (a2, .inl (cI, tx.2.1, .inl tx.2.2.1)), (a3, .inr (4, [.int cm.1, .ref a4, .int cm.2.2.2])), (a4, .inl (cI, cm.2.1, .inl cm.2.2.1))]) → va_S A s.heap H locs → lv_has ls 4 [(0, .ref a0), (2, .int p2), (3, .int v3)] → W p l e ({ frames := 3, cells := 0, slots := 0, locals := 83 } : Room) s m ([.ref a0, .int p1, .int p2] : List Value).toArray below meth c H locs 0 0 Q (F0 m 55 ls []) := by
    intro cm v3 H locs ls h hP hD hS hl
    rw [fX3_note_J55] at h
    refine lv_aload_n hx hb dX3_note_55 rfl (lv_at hl 0 rfl) ?_
    refine va_get (D := G) (ci := 3) (v := .ref a3) (C := RX3) (T := TX3) (N := 2) hx hb hts huX3_note_X3 hown hK.1 hP 0 rfl rfl 1 (by decide) hw0 (fun _ h9 => h9) rfl dX3_note_56 ?_
    refine lv_iload_n hx hb dX3_note_59 rfl (lv_at hl 2 rfl) ?_
    refine lv_iconst (v := 1) hx hb dX3_note_60 (by decide) ?_
    refine lv_iload_n hx hb dX3_note_61 rfl (lv_at hl 1 rfl) ?_
    refine lv_bipush (v := 48) hx hb dX3_note_62 (by decide) ?_
    refine lv_isub hx hb dX3_note_64 ?_
    obtain ⟨x2, ex2, h⟩ := o_b h
    refine call_vV (As := [.int v3, .int (1 : Int32), .int (p2 - (48 : Int32))]) (rest := []) (ws2 := [(a0, .inr (3, [.ref a1, .ref a3])), (a1, .inr (4, [.int tx.1, .ref a2, .int tx.2.2.2])), (a2, .inl (cI, tx.2.1, .inl tx.2.2.1)), (a3, .inr (4, [.int x2.1, .ref a4, .int x2.2.2.2])), (a4, .inl (cI, x2.2.1, .inl x2.2.2.1))]) ⟨hx, hb, hml, hown, hts⟩ (cX4_put_ok l G cI cG a3 a4 cm v3 (1 : Int32) (p2 - (48 : Int32)) x2 ex2) (cwV 3 hts gX3_note_X4_put_31 rfl rfl rfl hdX4_put ⟨Nat.le_of_ble_eq_true rfl, Nat.le_of_ble_eq_true rfl⟩) hP hD hS hA hK 4 rfl rfl rfl [3, 4] rfl rfl rfl rfl rfl rfl rfl rfl hl.1 (Nat.le_of_ble_eq_true rfl) dX3_note_65 ⟨Nat.zero_le _, Nat.zero_le _⟩ (fun H locs hP hD hS => ?_)
    refine lv_goto (tgt := 104) hx hb dX3_note_68 (by decide) ?_
    obtain rfl := o_s h
    rw [hQ]
    exact end_v hx hb hr hP hD hS dX3_note_104 hlocks
  have J18 : ∀ (cm : Tab) (H : Heap) (locs : List Loc) (ls : Array Slot), fX3_note_J18 fu p1 p2 cm = some out → va_P G vwCl ([(a0, .inr (3, [.ref a1, .ref a3])), (a1, .inr (4, [.int tx.1, .ref a2, .int tx.2.2.2])), (a2, .inl (cI, tx.2.1, .inl tx.2.2.1)), (a3, .inr (4, [.int cm.1, .ref a4, .int cm.2.2.2])), (a4, .inl (cI, cm.2.1, .inl cm.2.2.1))]) H → va_D A ([(a0, .inr (3, [.ref a1, .ref a3])), (a1, .inr (4, [.int tx.1, .ref a2, .int tx.2.2.2])), (a2, .inl (cI, tx.2.1, .inl tx.2.2.1)), (a3, .inr (4, [.int cm.1, .ref a4, .int cm.2.2.2])), (a4, .inl (cI, cm.2.1, .inl cm.2.2.1))]) → va_S A s.heap H locs → lv_has ls 4 [(0, .ref a0), (1, .int p1), (2, .int p2)] → W p l e ({ frames := 3, cells := 0, slots := 0, locals := 83 } : Room) s m ([.ref a0, .int p1, .int p2] : List Value).toArray below meth c H locs 0 0 Q (F0 m 18 ls []) := by
    intro cm H locs ls h hP hD hS hl
    rw [fX3_note_J18] at h
    refine lv_aload_n hx hb dX3_note_18 rfl (lv_at hl 0 rfl) ?_
    refine va_get (D := G) (ci := 3) (v := .ref a3) (C := RX3) (T := TX3) (N := 2) hx hb hts huX3_note_X3 hown hK.1 hP 0 rfl rfl 1 (by decide) hw0 (fun _ h9 => h9) rfl dX3_note_19 ?_
    obtain ⟨x1, ex1, h⟩ := o_b h
    refine call_iV (As := []) (rest := []) (ws2 := [(a0, .inr (3, [.ref a1, .ref a3])), (a1, .inr (4, [.int tx.1, .ref a2, .int tx.2.2.2])), (a2, .inl (cI, tx.2.1, .inl tx.2.2.1)), (a3, .inr (4, [.int cm.1, .ref a4, .int cm.2.2.2])), (a4, .inl (cI, cm.2.1, .inl cm.2.2.1))]) ⟨hx, hb, hml, hown, hts⟩ (cX4_count_ok l G cI cG a3 a4 cm x1 ex1) (cwV 0 hts gX3_note_X4_count_23 rfl rfl rfl hdX4_count ⟨Nat.le_of_ble_eq_true rfl, Nat.le_of_ble_eq_true rfl⟩) hP hD hS hA hK 4 rfl rfl rfl [3, 4] rfl rfl rfl rfl rfl rfl rfl rfl hl.1 (Nat.le_of_ble_eq_true rfl) dX3_note_22 ⟨Nat.zero_le _, Nat.zero_le _⟩ (fun H locs hP hD hS => ?_)
    refine lv_iconst (v := 1) hx hb dX3_note_25 (by decide) ?_
    refine lv_isub hx hb dX3_note_26 ?_
    refine lv_istore_n (lv' := [(3, .int (x1 - (1 : Int32))), (0, .ref a0), (1, .int p1), (2, .int p2)]) hx hb dX3_note_27 rfl hl (by decide) rfl (fun ls hl => ?_)
    refine lv_iload_n hx hb dX3_note_28 rfl (lv_at hl 2 rfl) ?_
    refine lv_if_ne (tgt := 45) hx hb dX3_note_29 (by decide) (fun hc => ?_) (fun hc => ?_)
    · have h := o_f h hc
      refine lv_iload_n hx hb dX3_note_45 rfl (lv_at hl 2 rfl) ?_
      refine lv_iconst (v := 1) hx hb dX3_note_46 (by decide) ?_
      refine lv_icmp_eq (tgt := 55) hx hb dX3_note_47 (by decide) (fun hc => ?_) (fun hc => ?_)
      · have h := o_t h hc
        exact J55 cm (x1 - (1 : Int32)) _ _ _ h hP hD hS (lv_sub hl [1, 3, 0] rfl)
      · have h := o_f h hc
        refine lv_iload_n hx hb dX3_note_50 rfl (lv_at hl 2 rfl) ?_
        refine lv_iconst (v := 2) hx hb dX3_note_51 (by decide) ?_
        refine lv_icmp_ne (tgt := 71) hx hb dX3_note_52 (by decide) (fun hc => ?_) (fun hc => ?_)
        · have h := o_f h hc
          refine lv_iload_n hx hb dX3_note_71 rfl (lv_at hl 3 rfl) ?_
          obtain ⟨x3, ex3, h⟩ := o_b h
          refine call_iS (As := [.int p2]) (rest := []) (ws2 := [(a0, .inr (3, [.ref a1, .ref a3])), (a1, .inr (4, [.int tx.1, .ref a2, .int tx.2.2.2])), (a2, .inl (cI, tx.2.1, .inl tx.2.2.1)), (a3, .inr (4, [.int cm.1, .ref a4, .int cm.2.2.2])), (a4, .inl (cI, cm.2.1, .inl cm.2.2.1))]) ⟨hx, hb, hml, hown, hts⟩ (cX3_isDigit_ok l G cI cG p2 x3 ex3) (va_cwS 1 hts gX3_note_X3_isDigit_52 rfl rfl rfl hdX3_isDigit ⟨Nat.le_of_ble_eq_true rfl, Nat.le_of_ble_eq_true rfl⟩) hP hD hS hA hK [] rfl rfl rfl rfl rfl rfl rfl rfl hl.1 (Nat.le_of_ble_eq_true rfl) dX3_note_72 ⟨Nat.zero_le _, Nat.zero_le _⟩ (fun H locs hP hD hS => ?_)
          refine lv_if_eq (tgt := 104) hx hb dX3_note_75 (by decide) (fun hc => ?_) (fun hc => ?_)
          · have h := o_t h hc
            obtain rfl := o_s h
            rw [hQ]
            exact end_v hx hb hr hP hD hS dX3_note_104 hlocks
          · have h := o_f h hc
            refine lv_aload_n hx hb dX3_note_78 rfl (lv_at hl 1 rfl) ?_
            refine va_get (D := G) (ci := 3) (v := .ref a3) (C := RX3) (T := TX3) (N := 2) hx hb hts huX3_note_X3 hown hK.1 hP 0 rfl rfl 1 (by decide) hw0 (fun _ h9 => h9) rfl dX3_note_79 ?_
            refine lv_iload_n hx hb dX3_note_82 rfl (lv_at hl 0 rfl) ?_
            refine lv_iconst (v := 2) hx hb dX3_note_83 (by decide) ?_
            refine lv_bipush (v := 10) hx hb dX3_note_84 (by decide) ?_
            refine lv_aload_n hx hb dX3_note_86 rfl (lv_at hl 1 rfl) ?_
            refine va_get (D := G) (ci := 3) (v := .ref a3) (C := RX3) (T := TX3) (N := 2) hx hb hts huX3_note_X3 hown hK.1 hP 0 rfl rfl 1 (by decide) hw0 (fun _ h9 => h9) rfl dX3_note_87 ?_
            refine lv_iload_n hx hb dX3_note_90 rfl (lv_at hl 0 rfl) ?_
            refine lv_iconst (v := 2) hx hb dX3_note_91 (by decide) ?_
            obtain ⟨x4, ex4, h⟩ := o_b h
            refine call_iV (As := [.int (x1 - (1 : Int32)), .int (2 : Int32)]) (rest := [.int (10 : Int32), .int (2 : Int32), .int (x1 - (1 : Int32)), .ref a3]) (ws2 := [(a0, .inr (3, [.ref a1, .ref a3])), (a1, .inr (4, [.int tx.1, .ref a2, .int tx.2.2.2])), (a2, .inl (cI, tx.2.1, .inl tx.2.2.1)), (a3, .inr (4, [.int cm.1, .ref a4, .int cm.2.2.2])), (a4, .inl (cI, cm.2.1, .inl cm.2.2.1))]) ⟨hx, hb, hml, hown, hts⟩ (cX4_at_ok l G cI cG a3 a4 cm (x1 - (1 : Int32)) (2 : Int32) x4 ex4) (cwV 2 hts gX3_note_X4_at_38 rfl rfl rfl hdX4_at ⟨Nat.le_of_ble_eq_true rfl, Nat.le_of_ble_eq_true rfl⟩) hP hD hS hA hK 4 rfl rfl rfl [3, 4] rfl rfl rfl rfl rfl rfl rfl rfl hl.1 (Nat.le_of_ble_eq_true rfl) dX3_note_92 ⟨Nat.zero_le _, Nat.zero_le _⟩ (fun H locs hP hD hS => ?_)
            refine lv_imul hx hb dX3_note_95 ?_
            refine lv_iload_n hx hb dX3_note_96 rfl (lv_at hl 3 rfl) ?_
            refine lv_iadd hx hb dX3_note_97 ?_
            refine lv_bipush (v := 48) hx hb dX3_note_98 (by decide) ?_
            refine lv_isub hx hb dX3_note_100 ?_
            obtain ⟨x5, ex5, h⟩ := o_b h
            refine call_vV (As := [.int (x1 - (1 : Int32)), .int (2 : Int32), .int ((((10 : Int32) * x4) + p2) - (48 : Int32))]) (rest := []) (ws2 := [(a0, .inr (3, [.ref a1, .ref a3])), (a1, .inr (4, [.int tx.1, .ref a2, .int tx.2.2.2])), (a2, .inl (cI, tx.2.1, .inl tx.2.2.1)), (a3, .inr (4, [.int x5.1, .ref a4, .int x5.2.2.2])), (a4, .inl (cI, x5.2.1, .inl x5.2.2.1))]) ⟨hx, hb, hml, hown, hts⟩ (cX4_put_ok l G cI cG a3 a4 cm (x1 - (1 : Int32)) (2 : Int32) ((((10 : Int32) * x4) + p2) - (48 : Int32)) x5 ex5) (cwV 3 hts gX3_note_X4_put_31 rfl rfl rfl hdX4_put ⟨Nat.le_of_ble_eq_true rfl, Nat.le_of_ble_eq_true rfl⟩) hP hD hS hA hK 4 rfl rfl rfl [3, 4] rfl rfl rfl rfl rfl rfl rfl rfl hl.1 (Nat.le_of_ble_eq_true rfl) dX3_note_101 ⟨Nat.zero_le _, Nat.zero_le _⟩ (fun H locs hP hD hS => ?_)
            obtain rfl := o_s h
            rw [hQ]
            exact end_v hx hb hr hP hD hS dX3_note_104 hlocks
        · have h := o_t h hc
          exact J55 cm (x1 - (1 : Int32)) _ _ _ h hP hD hS (lv_sub hl [1, 3, 0] rfl)
    · have h := o_t h hc
      refine lv_aload_n hx hb dX3_note_32 rfl (lv_at hl 1 rfl) ?_
      refine va_get (D := G) (ci := 3) (v := .ref a3) (C := RX3) (T := TX3) (N := 2) hx hb hts huX3_note_X3 hown hK.1 hP 0 rfl rfl 1 (by decide) hw0 (fun _ h9 => h9) rfl dX3_note_33 ?_
      refine lv_iload_n hx hb dX3_note_36 rfl (lv_at hl 0 rfl) ?_
      refine lv_iconst (v := 0) hx hb dX3_note_37 (by decide) ?_
      refine lv_iload_n hx hb dX3_note_38 rfl (lv_at hl 3 rfl) ?_
      obtain ⟨x6, ex6, h⟩ := o_b h
      refine call_vV (As := [.int (x1 - (1 : Int32)), .int (0 : Int32), .int p2]) (rest := []) (ws2 := [(a0, .inr (3, [.ref a1, .ref a3])), (a1, .inr (4, [.int tx.1, .ref a2, .int tx.2.2.2])), (a2, .inl (cI, tx.2.1, .inl tx.2.2.1)), (a3, .inr (4, [.int x6.1, .ref a4, .int x6.2.2.2])), (a4, .inl (cI, x6.2.1, .inl x6.2.2.1))]) ⟨hx, hb, hml, hown, hts⟩ (cX4_put_ok l G cI cG a3 a4 cm (x1 - (1 : Int32)) (0 : Int32) p2 x6 ex6) (cwV 3 hts gX3_note_X4_put_31 rfl rfl rfl hdX4_put ⟨Nat.le_of_ble_eq_true rfl, Nat.le_of_ble_eq_true rfl⟩) hP hD hS hA hK 4 rfl rfl rfl [3, 4] rfl rfl rfl rfl rfl rfl rfl rfl hl.1 (Nat.le_of_ble_eq_true rfl) dX3_note_39 ⟨Nat.zero_le _, Nat.zero_le _⟩ (fun H locs hP hD hS => ?_)
      refine lv_goto (tgt := 104) hx hb dX3_note_42 (by decide) ?_
      obtain rfl := o_s h
      rw [hQ]
      exact end_v hx hb hr hP hD hS dX3_note_104 hlocks
  have h := hf
  rw [fX3_note] at h
  have hl := lv_entry ([.ref a0, .int p1, .int p2]) (n := 4) (Nat.le_of_ble_eq_true rfl)
  rw [lg_entry_eq]
  generalize (lg_sl ([.ref a0, .int p1, .int p2]) ++ List.replicate (4 - (lg_sl ([.ref a0, .int p1, .int p2])).length) Slot.unset).toArray = ls at hl ⊢
  have hl : lv_has ls 4 [(0, .ref a0), (1, .int p1), (2, .int p2)] := hl
  refine lv_iload_n hx hb dX3_note_0 rfl (lv_at hl 1 rfl) ?_
  refine lv_if_ne (tgt := 18) hx hb dX3_note_1 (by decide) (fun hc => ?_) (fun hc => ?_)
  · have h := o_f h hc
    exact J18 cm _ _ _ h hP hD hS (lv_sub hl [0, 1, 2] rfl)
  · have h := o_t h hc
    refine lv_aload_n hx hb dX3_note_4 rfl (lv_at hl 0 rfl) ?_
    refine va_get (D := G) (ci := 3) (v := .ref a3) (C := RX3) (T := TX3) (N := 2) hx hb hts huX3_note_X3 hown hK.1 hP 0 rfl rfl 1 (by decide) hw0 (fun _ h9 => h9) rfl dX3_note_5 ?_
    refine lv_aload_n hx hb dX3_note_8 rfl (lv_at hl 0 rfl) ?_
    refine va_get (D := G) (ci := 3) (v := .ref a3) (C := RX3) (T := TX3) (N := 2) hx hb hts huX3_note_X3 hown hK.1 hP 0 rfl rfl 1 (by decide) hw0 (fun _ h9 => h9) rfl dX3_note_9 ?_
    obtain ⟨x7, ex7, h⟩ := o_b h
    refine call_iV (As := []) (rest := [.ref a3]) (ws2 := [(a0, .inr (3, [.ref a1, .ref a3])), (a1, .inr (4, [.int tx.1, .ref a2, .int tx.2.2.2])), (a2, .inl (cI, tx.2.1, .inl tx.2.2.1)), (a3, .inr (4, [.int cm.1, .ref a4, .int cm.2.2.2])), (a4, .inl (cI, cm.2.1, .inl cm.2.2.1))]) ⟨hx, hb, hml, hown, hts⟩ (cX4_count_ok l G cI cG a3 a4 cm x7 ex7) (cwV 0 hts gX3_note_X4_count_23 rfl rfl rfl hdX4_count ⟨Nat.le_of_ble_eq_true rfl, Nat.le_of_ble_eq_true rfl⟩) hP hD hS hA hK 4 rfl rfl rfl [3, 4] rfl rfl rfl rfl rfl rfl rfl rfl hl.1 (Nat.le_of_ble_eq_true rfl) dX3_note_12 ⟨Nat.zero_le _, Nat.zero_le _⟩ (fun H locs hP hD hS => ?_)
    obtain ⟨x8, ex8, h⟩ := o_b h
    refine call_vV (As := [.int x7]) (rest := []) (ws2 := [(a0, .inr (3, [.ref a1, .ref a3])), (a1, .inr (4, [.int tx.1, .ref a2, .int tx.2.2.2])), (a2, .inl (cI, tx.2.1, .inl tx.2.2.1)), (a3, .inr (4, [.int x8.1, .ref a4, .int x8.2.2.2])), (a4, .inl (cI, x8.2.1, .inl x8.2.2.1))]) ⟨hx, hb, hml, hown, hts⟩ (cX4_insert_ok l G cI cG a3 a4 fu cm x7 x8 ex8) (cwV 1 hts gX3_note_X4_insert_27 rfl rfl rfl hdX4_insert ⟨Nat.le_of_ble_eq_true rfl, Nat.le_of_ble_eq_true rfl⟩) hP hD hS hA hK 4 rfl rfl rfl [3, 4] rfl rfl rfl rfl rfl rfl rfl rfl hl.1 (Nat.le_of_ble_eq_true rfl) dX3_note_15 ⟨Nat.zero_le _, Nat.zero_le _⟩ (fun H locs hP hD hS => ?_)
    exact J18 x8 _ _ _ h hP hD hS (lv_sub hl [0, 1, 2] rfl)
theorem hdX3_read : yX3_read.cls = RX3 ∧ yX3_read.cls ≠ "java/lang/invoke/MethodHandle" ∧ yX3_read.cls ≠ "java/lang/invoke/VarHandle" ∧ (parseMethodDescriptor yX3_read.desc).map (fun d => d.parameters.length) = some 0 := by decide +kernel
set_option maxHeartbeats 4000000 in
set_option maxRecDepth 100000 in
theorem cX3_read_ok (l : Launch) (G : va_G) (cI cG : ClassId) (a0 a1 a2 a3 a4 : Nat) (fu : Nat) (tx : Tab) (cm : Tab) (out : Int32 × Tab) (hf : fX3_read fu tx cm = some out) : CI l G (tyz cI cG) yX3_read wsX3_read ({ frames := 4, cells := 0, slots := 0, locals := 106 } : Room) [.ref a0] [(a0, .inr (3, [.ref a1, .ref a3])), (a1, .inr (4, [.int tx.1, .ref a2, .int tx.2.2.2])), (a2, .inl (cI, tx.2.1, .inl tx.2.2.1)), (a3, .inr (4, [.int cm.1, .ref a4, .int cm.2.2.2])), (a4, .inl (cI, cm.2.1, .inl cm.2.2.1))] out.1 [(a0, .inr (3, [.ref a1, .ref a3])), (a1, .inr (4, [.int tx.1, .ref a2, .int tx.2.2.2])), (a2, .inl (cI, tx.2.1, .inl tx.2.2.1)), (a3, .inr (4, [.int out.2.1, .ref a4, .int out.2.2.2.2])), (a4, .inl (cI, out.2.2.1, .inl out.2.2.2.1))] := by
  intro sz
  refine Met.ofW (cc := cX3_read) (maxL := 5) (ret := (some .int)) (by decide) rfl ?_
  intro p e s m args below meth c s₁ B hml hv
  obtain ⟨rfl, hsz, hP, hK, hD0⟩ := hv
  have hx := B.exec
  have hb := B.bytes
  have hr := B.returns
  have hts := atoms_spec (ws := wsX3_read) B.pre
  have hown : s.vm.findClass RX3 = some m.cls := findClass_of_methodNamed B.named
  have hlocks := B.notSynchronized
  subst hsz
  have hD := hD0.self (sz := s.heap.size)
  generalize hAe : va_A ([(a0, .inr (3, [.ref a1, .ref a3])), (a1, .inr (4, [.int tx.1, .ref a2, .int tx.2.2.2])), (a2, .inl (cI, tx.2.1, .inl tx.2.2.1)), (a3, .inr (4, [.int cm.1, .ref a4, .int cm.2.2.2])), (a4, .inl (cI, cm.2.1, .inl cm.2.2.1))]) s.heap.size = A at hD ⊢
  have hA : ∀ q : Nat, s.heap.size ≤ q → A q := fun q h => by rw [← hAe]; exact Or.inr h
  have hS : va_S A s.heap s.heap [] := va_S.rf
  have hw0 := hts (.fieldLink RX3 20 "SpeedTurns$Script" "commands" "LSpeedTurns$Table;") (List.mem_of_getElem? (i := 1) rfl)
  have hw1 := hts (.fieldLink RX3 14 "SpeedTurns$Script" "text" "LSpeedTurns$Table;") (List.mem_of_getElem? (i := 6) rfl)
  show W p l e ({ frames := 4, cells := 0, slots := 0, locals := 106 } : Room) s m _ below meth c s.heap [] 0 0 _ _
  refine W_genQ (fun Q hQ => ?_)
  have L11 : ∀  (k : Nat) (cm : Tab) (v1 : Int32) (v2 : Int32) (H : Heap) (locs : List Loc) (ls : Array Slot), fX3_read_L11 fu tx k cm v1 v2 = some out → va_P G vwCl ([(a0, .inr (3, [.ref a1, .ref a3])), (a1, .inr (4, [.int tx.1, .ref a2, .int tx.2.2.2])), (a2, .inl (cI, tx.2.1, .inl tx.2.2.1)), (a3, .inr (4, [.int cm.1, .ref a4, .int cm.2.2.2])), (a4, .inl (cI, cm.2.1, .inl cm.2.2.1))]) H → va_D A ([(a0, .inr (3, [.ref a1, .ref a3])), (a1, .inr (4, [.int tx.1, .ref a2, .int tx.2.2.2])), (a2, .inl (cI, tx.2.1, .inl tx.2.2.1)), (a3, .inr (4, [.int cm.1, .ref a4, .int cm.2.2.2])), (a4, .inl (cI, cm.2.1, .inl cm.2.2.1))]) → va_S A s.heap H locs → lv_has ls 5 [(0, .ref a0), (1, .int v1), (2, .int v2)] → W p l e ({ frames := 4, cells := 0, slots := 0, locals := 106 } : Room) s m ([.ref a0] : List Value).toArray below meth c H locs 0 0 Q (F0 m 11 ls []) := by
    intro  k
    induction k with
    | zero => intro cm v1 v2 H locs ls h hP hD hS hl; rw [fX3_read_L11] at h; exact o_n h
    | succ k ih =>
      intro cm v1 v2 H locs ls h hP hD hS hl
      rw [fX3_read_L11] at h
      refine lv_iload_n hx hb dX3_read_11 rfl (lv_at hl 2 rfl) ?_
      refine lv_aload_n hx hb dX3_read_12 rfl (lv_at hl 0 rfl) ?_
      refine va_get (D := G) (ci := 3) (v := .ref a1) (C := RX3) (T := TX3) (N := 2) hx hb hts huX3_read_X3 hown hK.1 hP 0 rfl rfl 0 (by decide) hw1 (fun _ h9 => h9) rfl dX3_read_13 ?_
      obtain ⟨x2, ex2, h⟩ := o_b h
      refine call_iV (As := []) (rest := [.int v2]) (ws2 := [(a0, .inr (3, [.ref a1, .ref a3])), (a1, .inr (4, [.int tx.1, .ref a2, .int tx.2.2.2])), (a2, .inl (cI, tx.2.1, .inl tx.2.2.1)), (a3, .inr (4, [.int cm.1, .ref a4, .int cm.2.2.2])), (a4, .inl (cI, cm.2.1, .inl cm.2.2.1))]) ⟨hx, hb, hml, hown, hts⟩ (cX4_count_ok l G cI cG a1 a2 tx x2 ex2) (cwV 0 hts gX3_read_X4_count_23 rfl rfl rfl hdX4_count ⟨Nat.le_of_ble_eq_true rfl, Nat.le_of_ble_eq_true rfl⟩) hP hD hS hA hK 4 rfl rfl rfl [1, 2] rfl rfl rfl rfl rfl rfl rfl rfl hl.1 (Nat.le_of_ble_eq_true rfl) dX3_read_16 ⟨Nat.zero_le _, Nat.zero_le _⟩ (fun H locs hP hD hS => ?_)
      refine lv_icmp_ge (tgt := 62) hx hb dX3_read_19 (by decide) (fun hc => ?_) (fun hc => ?_)
      · have h := o_t h hc
        refine lv_iload_n hx hb dX3_read_62 rfl (lv_at hl 1 rfl) ?_
        refine lv_if_ne (tgt := 70) hx hb dX3_read_63 (by decide) (fun hc => ?_) (fun hc => ?_)
        · have h := o_f h hc
          refine lv_aload_n hx hb dX3_read_70 rfl (lv_at hl 0 rfl) ?_
          refine va_get (D := G) (ci := 3) (v := .ref a1) (C := RX3) (T := TX3) (N := 2) hx hb hts huX3_read_X3 hown hK.1 hP 0 rfl rfl 0 (by decide) hw1 (fun _ h9 => h9) rfl dX3_read_71 ?_
          obtain ⟨x3, ex3, h⟩ := o_b h
          refine call_iV (As := []) (rest := []) (ws2 := [(a0, .inr (3, [.ref a1, .ref a3])), (a1, .inr (4, [.int tx.1, .ref a2, .int tx.2.2.2])), (a2, .inl (cI, tx.2.1, .inl tx.2.2.1)), (a3, .inr (4, [.int cm.1, .ref a4, .int cm.2.2.2])), (a4, .inl (cI, cm.2.1, .inl cm.2.2.1))]) ⟨hx, hb, hml, hown, hts⟩ (cX4_count_ok l G cI cG a1 a2 tx x3 ex3) (cwV 0 hts gX3_read_X4_count_23 rfl rfl rfl hdX4_count ⟨Nat.le_of_ble_eq_true rfl, Nat.le_of_ble_eq_true rfl⟩) hP hD hS hA hK 4 rfl rfl rfl [1, 2] rfl rfl rfl rfl rfl rfl rfl rfl hl.1 (Nat.le_of_ble_eq_true rfl) dX3_read_74 ⟨Nat.zero_le _, Nat.zero_le _⟩ (fun H locs hP hD hS => ?_)
          obtain rfl := o_s h
          rw [hQ]
          exact end_i hx hb hr rfl hP hD hS dX3_read_77 hlocks
        · have h := o_t h hc
          refine lv_iconst (v := (-1)) hx hb dX3_read_66 (by decide) ?_
          refine lv_goto (tgt := 77) hx hb dX3_read_67 (by decide) ?_
          obtain rfl := o_s h
          rw [hQ]
          exact end_i hx hb hr rfl hP hD hS dX3_read_77 hlocks
      · have h := o_f h hc
        refine lv_aload_n hx hb dX3_read_22 rfl (lv_at hl 0 rfl) ?_
        refine va_get (D := G) (ci := 3) (v := .ref a1) (C := RX3) (T := TX3) (N := 2) hx hb hts huX3_read_X3 hown hK.1 hP 0 rfl rfl 0 (by decide) hw1 (fun _ h9 => h9) rfl dX3_read_23 ?_
        refine lv_iload_n hx hb dX3_read_26 rfl (lv_at hl 2 rfl) ?_
        refine lv_iconst (v := 0) hx hb dX3_read_27 (by decide) ?_
        obtain ⟨x4, ex4, h⟩ := o_b h
        refine call_iV (As := [.int v2, .int (0 : Int32)]) (rest := []) (ws2 := [(a0, .inr (3, [.ref a1, .ref a3])), (a1, .inr (4, [.int tx.1, .ref a2, .int tx.2.2.2])), (a2, .inl (cI, tx.2.1, .inl tx.2.2.1)), (a3, .inr (4, [.int cm.1, .ref a4, .int cm.2.2.2])), (a4, .inl (cI, cm.2.1, .inl cm.2.2.1))]) ⟨hx, hb, hml, hown, hts⟩ (cX4_at_ok l G cI cG a1 a2 tx v2 (0 : Int32) x4 ex4) (cwV 2 hts gX3_read_X4_at_38 rfl rfl rfl hdX4_at ⟨Nat.le_of_ble_eq_true rfl, Nat.le_of_ble_eq_true rfl⟩) hP hD hS hA hK 4 rfl rfl rfl [1, 2] rfl rfl rfl rfl rfl rfl rfl rfl hl.1 (Nat.le_of_ble_eq_true rfl) dX3_read_28 ⟨Nat.zero_le _, Nat.zero_le _⟩ (fun H locs hP hD hS => ?_)
        refine lv_istore_n (lv' := [(3, .int x4), (0, .ref a0), (1, .int v1), (2, .int v2)]) hx hb dX3_read_31 rfl hl (by decide) rfl (fun ls hl => ?_)
        refine lv_iload_n hx hb dX3_read_32 rfl (lv_at hl 2 rfl) ?_
        refine lv_iload_n hx hb dX3_read_33 rfl (lv_at hl 0 rfl) ?_
        obtain ⟨x5, ex5, h⟩ := o_b h
        refine call_iS (As := [.int v1, .int x4]) (rest := []) (ws2 := [(a0, .inr (3, [.ref a1, .ref a3])), (a1, .inr (4, [.int tx.1, .ref a2, .int tx.2.2.2])), (a2, .inl (cI, tx.2.1, .inl tx.2.2.1)), (a3, .inr (4, [.int cm.1, .ref a4, .int cm.2.2.2])), (a4, .inl (cI, cm.2.1, .inl cm.2.2.1))]) ⟨hx, hb, hml, hown, hts⟩ (cX3_wantBehind_ok l G cI cG v1 x4 x5 ex5) (va_cwS 2 hts gX3_read_X3_wantBehind_42 rfl rfl rfl hdX3_wantBehind ⟨Nat.le_of_ble_eq_true rfl, Nat.le_of_ble_eq_true rfl⟩) hP hD hS hA hK [] rfl rfl rfl rfl rfl rfl rfl rfl hl.1 (Nat.le_of_ble_eq_true rfl) dX3_read_34 ⟨Nat.zero_le _, Nat.zero_le _⟩ (fun H locs hP hD hS => ?_)
        refine lv_istore (lv' := [(4, .int x5), (3, .int x4), (0, .ref a0), (1, .int v1), (2, .int v2)]) hx hb dX3_read_37 hl (by decide) rfl (fun ls hl => ?_)
        refine lv_iload hx hb dX3_read_39 (lv_at hl 0 rfl) ?_
        refine lv_iconst (v := (-1)) hx hb dX3_read_41 (by decide) ?_
        refine lv_icmp_ne (tgt := 47) hx hb dX3_read_42 (by decide) (fun hc => ?_) (fun hc => ?_)
        · have h := o_f h hc
          refine lv_aload_n hx hb dX3_read_47 rfl (lv_at hl 2 rfl) ?_
          refine lv_iload_n hx hb dX3_read_48 rfl (lv_at hl 3 rfl) ?_
          refine lv_iload_n hx hb dX3_read_49 rfl (lv_at hl 1 rfl) ?_
          obtain ⟨x6, ex6, h⟩ := o_b h
          refine call_vV (As := [.int v1, .int x4]) (rest := []) (ws2 := [(a0, .inr (3, [.ref a1, .ref a3])), (a1, .inr (4, [.int tx.1, .ref a2, .int tx.2.2.2])), (a2, .inl (cI, tx.2.1, .inl tx.2.2.1)), (a3, .inr (4, [.int x6.1, .ref a4, .int x6.2.2.2])), (a4, .inl (cI, x6.2.1, .inl x6.2.2.1))]) ⟨hx, hb, hml, hown, hts⟩ (cX3_note_ok l G cI cG a0 a1 a2 a3 a4 fu tx cm v1 x4 x6 ex6) (cwV 2 hts gX3_read_X3_note_45 rfl rfl rfl hdX3_note ⟨Nat.le_of_ble_eq_true rfl, Nat.le_of_ble_eq_true rfl⟩) hP hD hS hA hK 3 rfl rfl rfl [0, 1, 2, 3, 4] rfl rfl rfl rfl rfl rfl rfl rfl hl.1 (Nat.le_of_ble_eq_true rfl) dX3_read_50 ⟨Nat.zero_le _, Nat.zero_le _⟩ (fun H locs hP hD hS => ?_)
          refine lv_iload hx hb dX3_read_53 (lv_at hl 0 rfl) ?_
          refine lv_istore_n (lv' := [(1, .int x5), (4, .int x5), (3, .int x4), (0, .ref a0), (2, .int v2)]) hx hb dX3_read_55 rfl hl (by decide) rfl (fun ls hl => ?_)
          refine lv_iinc (v := (v2 + 1)) (lv' := [(2, .int (v2 + 1)), (1, .int x5), (4, .int x5), (3, .int x4), (0, .ref a0)]) hx hb dX3_read_56 hl (k := 4) rfl rfl (by decide) rfl (fun ls hl => ?_)
          refine lv_goto (tgt := 11) hx hb dX3_read_59 (by decide) ?_
          exact ih x6 x5 (v2 + 1) _ _ _ h hP hD hS (lv_sub hl [4, 1, 0] rfl)
        · have h := o_t h hc
          refine lv_iload_n hx hb dX3_read_45 rfl (lv_at hl 4 rfl) ?_
          obtain rfl := o_s h
          rw [hQ]
          exact end_i hx hb hr rfl hP hD hS dX3_read_46 hlocks
  have h := hf
  rw [fX3_read] at h
  have hl := lv_entry ([.ref a0]) (n := 5) (Nat.le_of_ble_eq_true rfl)
  rw [lg_entry_eq]
  generalize (lg_sl ([.ref a0]) ++ List.replicate (5 - (lg_sl ([.ref a0])).length) Slot.unset).toArray = ls at hl ⊢
  have hl : lv_has ls 5 [(0, .ref a0)] := hl
  refine lv_aload_n hx hb dX3_read_0 rfl (lv_at hl 0 rfl) ?_
  refine va_get (D := G) (ci := 3) (v := .ref a3) (C := RX3) (T := TX3) (N := 2) hx hb hts huX3_read_X3 hown hK.1 hP 0 rfl rfl 1 (by decide) hw0 (fun _ h9 => h9) rfl dX3_read_1 ?_
  obtain ⟨x1, ex1, h⟩ := o_b h
  refine call_vV (As := []) (rest := []) (ws2 := [(a0, .inr (3, [.ref a1, .ref a3])), (a1, .inr (4, [.int tx.1, .ref a2, .int tx.2.2.2])), (a2, .inl (cI, tx.2.1, .inl tx.2.2.1)), (a3, .inr (4, [.int x1.1, .ref a4, .int x1.2.2.2])), (a4, .inl (cI, x1.2.1, .inl x1.2.2.1))]) ⟨hx, hb, hml, hown, hts⟩ (cX4_clear_ok l G cI cG a3 a4 cm x1 ex1) (cwV 0 hts gX3_read_X4_clear_35 rfl rfl rfl hdX4_clear ⟨Nat.le_of_ble_eq_true rfl, Nat.le_of_ble_eq_true rfl⟩) hP hD hS hA hK 4 rfl rfl rfl [3, 4] rfl rfl rfl rfl rfl rfl rfl rfl hl.1 (Nat.le_of_ble_eq_true rfl) dX3_read_4 ⟨Nat.zero_le _, Nat.zero_le _⟩ (fun H locs hP hD hS => ?_)
  refine lv_iconst (v := 0) hx hb dX3_read_7 (by decide) ?_
  refine lv_istore_n (lv' := [(1, .int (0 : Int32)), (0, .ref a0)]) hx hb dX3_read_8 rfl hl (by decide) rfl (fun ls hl => ?_)
  refine lv_iconst (v := 0) hx hb dX3_read_9 (by decide) ?_
  refine lv_istore_n (lv' := [(2, .int (0 : Int32)), (1, .int (0 : Int32)), (0, .ref a0)]) hx hb dX3_read_10 rfl hl (by decide) rfl (fun ls hl => ?_)
  exact L11 fu x1 (0 : Int32) (0 : Int32) _ _ _ h hP hD hS (lv_sub hl [2, 1, 0] rfl)
theorem hdX3_kindOf : yX3_kindOf.cls ≠ "java/lang/invoke/MethodHandle" ∧ yX3_kindOf.cls ≠ "java/lang/invoke/VarHandle" ∧ (parseMethodDescriptor yX3_kindOf.desc).map (fun d => d.parameters.length) = some 1 := by decide +kernel
set_option maxHeartbeats 4000000 in
set_option maxRecDepth 100000 in
theorem cX3_kindOf_ok (l : Launch) (G : va_G) (cI cG : ClassId) (p0 : Int32) (out : Int32) (hf : fX3_kindOf p0 = some out) : CI l G (tyz cI cG) yX3_kindOf wsX3_kindOf ({ frames := 0, cells := 0, slots := 0, locals := 0 } : Room) [.int p0] [] out [] := by
  intro sz
  refine Met.ofW (cc := cX3_kindOf) (maxL := 1) (ret := (some .int)) (by decide) rfl ?_
  intro p e s m args below meth c s₁ B hml hv
  obtain ⟨rfl, hsz, hP, hK, hD0⟩ := hv
  have hx := B.exec
  have hb := B.bytes
  have hr := B.returns
  have hts := atoms_spec (ws := wsX3_kindOf) B.pre
  have hown : s.vm.findClass RX3 = some m.cls := findClass_of_methodNamed B.named
  have hlocks := B.notSynchronized
  subst hsz
  have hD := hD0.self (sz := s.heap.size)
  generalize hAe : va_A ([]) s.heap.size = A at hD ⊢
  have hA : ∀ q : Nat, s.heap.size ≤ q → A q := fun q h => by rw [← hAe]; exact Or.inr h
  have hS : va_S A s.heap s.heap [] := va_S.rf
  show W p l e ({ frames := 0, cells := 0, slots := 0, locals := 0 } : Room) s m _ below meth c s.heap [] 0 0 _ _
  refine W_genQ (fun Q hQ => ?_)
  have h := hf
  rw [fX3_kindOf] at h
  have hl := lv_entry ([.int p0]) (n := 1) (Nat.le_of_ble_eq_true rfl)
  rw [lg_entry_eq]
  generalize (lg_sl ([.int p0]) ++ List.replicate (1 - (lg_sl ([.int p0])).length) Slot.unset).toArray = ls at hl ⊢
  have hl : lv_has ls 1 [(0, .int p0)] := hl
  refine lv_iload_n hx hb dX3_kindOf_0 rfl (lv_at hl 0 rfl) ?_
  refine lv_bipush (v := 104) hx hb dX3_kindOf_1 (by decide) ?_
  refine lv_icmp_ne (tgt := 10) hx hb dX3_kindOf_3 (by decide) (fun hc => ?_) (fun hc => ?_)
  · have h := o_f h hc
    refine lv_iconst (v := 0) hx hb dX3_kindOf_10 (by decide) ?_
    obtain rfl := o_s h
    rw [hQ]
    exact end_i hx hb hr rfl hP hD hS dX3_kindOf_11 hlocks
  · have h := o_t h hc
    refine lv_iconst (v := 1) hx hb dX3_kindOf_6 (by decide) ?_
    refine lv_goto (tgt := 11) hx hb dX3_kindOf_7 (by decide) ?_
    obtain rfl := o_s h
    rw [hQ]
    exact end_i hx hb hr rfl hP hD hS dX3_kindOf_11 hlocks
theorem hdX3_isPossible : yX3_isPossible.cls ≠ "java/lang/invoke/MethodHandle" ∧ yX3_isPossible.cls ≠ "java/lang/invoke/VarHandle" ∧ (parseMethodDescriptor yX3_isPossible.desc).map (fun d => d.parameters.length) = some 4 := by decide +kernel
set_option maxHeartbeats 4000000 in
set_option maxRecDepth 100000 in
theorem cX3_isPossible_ok (l : Launch) (G : va_G) (cI cG : ClassId) (a0 a1 a2 a3 a4 a5 a6 a7 a8 a9 : Nat) (fu : Nat) (o_ft : Tab) (o_er : Tab) (o_eb : Int32) (o_li : Tab) (o_st : Tab) (o_rd : Int32) (o_tu : Int32) (o_la : Int32) (o_dl : Bool) (o_sh : Int32) (o_tb : Int32) (p0 : Int32) (p1 : Int32) (p2 : Int32) (out : Bool) (hf : fX3_isPossible fu o_ft o_li o_st o_tu o_dl p0 p1 p2 = some out) : CI l G (tyz cI cG) yX3_isPossible wsX3_isPossible ({ frames := 4, cells := 0, slots := 0, locals := 90 } : Room) [.int p0, .int p1, .int p2, .ref a0] [(a0, .inr (1, [.ref a1, .ref a3, .ref a6, .ref a8, .int o_rd, .int o_tu, .int o_la, .int (bI o_dl), .int o_sh, .int o_tb])), (a1, .inr (4, [.int o_ft.1, .ref a2, .int o_ft.2.2.2])), (a2, .inl (cI, o_ft.2.1, .inl o_ft.2.2.1)), (a3, .inr (0, [.ref a4, .int o_eb])), (a4, .inr (4, [.int o_er.1, .ref a5, .int o_er.2.2.2])), (a5, .inl (cI, o_er.2.1, .inl o_er.2.2.1)), (a6, .inr (4, [.int o_li.1, .ref a7, .int o_li.2.2.2])), (a7, .inl (cI, o_li.2.1, .inl o_li.2.2.1)), (a8, .inr (4, [.int o_st.1, .ref a9, .int o_st.2.2.2])), (a9, .inl (cI, o_st.2.1, .inl o_st.2.2.1))] (bI out) [(a0, .inr (1, [.ref a1, .ref a3, .ref a6, .ref a8, .int o_rd, .int o_tu, .int o_la, .int (bI o_dl), .int o_sh, .int o_tb])), (a1, .inr (4, [.int o_ft.1, .ref a2, .int o_ft.2.2.2])), (a2, .inl (cI, o_ft.2.1, .inl o_ft.2.2.1)), (a3, .inr (0, [.ref a4, .int o_eb])), (a4, .inr (4, [.int o_er.1, .ref a5, .int o_er.2.2.2])), (a5, .inl (cI, o_er.2.1, .inl o_er.2.2.1)), (a6, .inr (4, [.int o_li.1, .ref a7, .int o_li.2.2.2])), (a7, .inl (cI, o_li.2.1, .inl o_li.2.2.1)), (a8, .inr (4, [.int o_st.1, .ref a9, .int o_st.2.2.2])), (a9, .inl (cI, o_st.2.1, .inl o_st.2.2.1))] := by
  intro sz
  refine Met.ofW (cc := cX3_isPossible) (maxL := 4) (ret := (some .boolean)) (by decide) rfl ?_
  intro p e s m args below meth c s₁ B hml hv
  obtain ⟨rfl, hsz, hP, hK, hD0⟩ := hv
  have hx := B.exec
  have hb := B.bytes
  have hr := B.returns
  have hts := atoms_spec (ws := wsX3_isPossible) B.pre
  have hown : s.vm.findClass RX3 = some m.cls := findClass_of_methodNamed B.named
  have hlocks := B.notSynchronized
  subst hsz
  have hD := hD0.self (sz := s.heap.size)
  generalize hAe : va_A ([(a0, .inr (1, [.ref a1, .ref a3, .ref a6, .ref a8, .int o_rd, .int o_tu, .int o_la, .int (bI o_dl), .int o_sh, .int o_tb])), (a1, .inr (4, [.int o_ft.1, .ref a2, .int o_ft.2.2.2])), (a2, .inl (cI, o_ft.2.1, .inl o_ft.2.2.1)), (a3, .inr (0, [.ref a4, .int o_eb])), (a4, .inr (4, [.int o_er.1, .ref a5, .int o_er.2.2.2])), (a5, .inl (cI, o_er.2.1, .inl o_er.2.2.1)), (a6, .inr (4, [.int o_li.1, .ref a7, .int o_li.2.2.2])), (a7, .inl (cI, o_li.2.1, .inl o_li.2.2.1)), (a8, .inr (4, [.int o_st.1, .ref a9, .int o_st.2.2.2])), (a9, .inl (cI, o_st.2.1, .inl o_st.2.2.1))]) s.heap.size = A at hD ⊢
  have hA : ∀ q : Nat, s.heap.size ≤ q → A q := fun q h => by rw [← hAe]; exact Or.inr h
  have hS : va_S A s.heap s.heap [] := va_S.rf
  have hw0 := hts (.initialized RX5) (List.mem_of_getElem? (i := 20) rfl)
  have hw1 := hts (.static yX5_within) (List.mem_of_getElem? (i := 21) rfl)
  show W p l e ({ frames := 4, cells := 0, slots := 0, locals := 90 } : Room) s m _ below meth c s.heap [] 0 0 _ _
  refine W_genQ (fun Q hQ => ?_)
  have h := hf
  rw [fX3_isPossible] at h
  have hl := lv_entry ([.int p0, .int p1, .int p2, .ref a0]) (n := 4) (Nat.le_of_ble_eq_true rfl)
  rw [lg_entry_eq]
  generalize (lg_sl ([.int p0, .int p1, .int p2, .ref a0]) ++ List.replicate (4 - (lg_sl ([.int p0, .int p1, .int p2, .ref a0])).length) Slot.unset).toArray = ls at hl ⊢
  have hl : lv_has ls 4 [(0, .int p0), (1, .int p1), (2, .int p2), (3, .ref a0)] := hl
  refine lv_iload_n hx hb dX3_isPossible_0 rfl (lv_at hl 0 rfl) ?_
  by_cases c1 : p0 = 99
  · have h := o_t h c1
    refine lv_lookup (off := 66) (tgt := 67) hx hb dX3_isPossible_1 (by decide) (by rw [c1]; rfl) (by decide) ?_
    refine lv_aload_n hx hb dX3_isPossible_67 rfl (lv_at hl 3 rfl) ?_
    refine lv_iload_n hx hb dX3_isPossible_68 rfl (lv_at hl 1 rfl) ?_
    obtain ⟨x2, ex2, h⟩ := o_b h
    refine call_iV (As := [.int p1]) (rest := []) (ws2 := [(a0, .inr (1, [.ref a1, .ref a3, .ref a6, .ref a8, .int o_rd, .int o_tu, .int o_la, .int (bI o_dl), .int o_sh, .int o_tb])), (a1, .inr (4, [.int o_ft.1, .ref a2, .int o_ft.2.2.2])), (a2, .inl (cI, o_ft.2.1, .inl o_ft.2.2.1)), (a3, .inr (0, [.ref a4, .int o_eb])), (a4, .inr (4, [.int o_er.1, .ref a5, .int o_er.2.2.2])), (a5, .inl (cI, o_er.2.1, .inl o_er.2.2.1)), (a6, .inr (4, [.int o_li.1, .ref a7, .int o_li.2.2.2])), (a7, .inl (cI, o_li.2.1, .inl o_li.2.2.1)), (a8, .inr (4, [.int o_st.1, .ref a9, .int o_st.2.2.2])), (a9, .inl (cI, o_st.2.1, .inl o_st.2.2.1))]) ⟨hx, hb, hml, hown, hts⟩ (cX1_isFighter_ok l G cI cG a0 a1 a2 a3 a4 a5 a6 a7 a8 a9 o_ft o_er o_eb o_li o_st o_rd o_tu o_la o_dl o_sh o_tb p1 x2 ex2) (cwV 1 hts gX3_isPossible_X1_isFighter_100 rfl rfl rfl hdX1_isFighter ⟨Nat.le_of_ble_eq_true rfl, Nat.le_of_ble_eq_true rfl⟩) hP hD hS hA hK 1 rfl rfl rfl [0, 1, 2, 3, 4, 5, 6, 7, 8, 9] rfl rfl rfl rfl rfl rfl rfl rfl hl.1 (Nat.le_of_ble_eq_true rfl) dX3_isPossible_69 ⟨Nat.zero_le _, Nat.zero_le _⟩ (fun H locs hP hD hS => ?_)
    refine lv_if_eq (tgt := 87) hx hb dX3_isPossible_72 (by decide) (fun hc => ?_) (fun hc => ?_)
    · have h := o_t h hc
      refine lv_iconst (v := 0) hx hb dX3_isPossible_87 (by decide) ?_
      obtain rfl := o_s h
      rw [hQ]
      exact end_z hx hb hr rfl rfl hP hD hS dX3_isPossible_88 hlocks
    · have h := o_f h hc
      refine lv_aload_n hx hb dX3_isPossible_75 rfl (lv_at hl 3 rfl) ?_
      refine lv_iload_n hx hb dX3_isPossible_76 rfl (lv_at hl 1 rfl) ?_
      obtain ⟨x3, ex3, h⟩ := o_b h
      refine call_iV (As := [.int p1]) (rest := []) (ws2 := [(a0, .inr (1, [.ref a1, .ref a3, .ref a6, .ref a8, .int o_rd, .int o_tu, .int o_la, .int (bI o_dl), .int o_sh, .int o_tb])), (a1, .inr (4, [.int o_ft.1, .ref a2, .int o_ft.2.2.2])), (a2, .inl (cI, o_ft.2.1, .inl o_ft.2.2.1)), (a3, .inr (0, [.ref a4, .int o_eb])), (a4, .inr (4, [.int o_er.1, .ref a5, .int o_er.2.2.2])), (a5, .inl (cI, o_er.2.1, .inl o_er.2.2.1)), (a6, .inr (4, [.int o_li.1, .ref a7, .int o_li.2.2.2])), (a7, .inl (cI, o_li.2.1, .inl o_li.2.2.1)), (a8, .inr (4, [.int o_st.1, .ref a9, .int o_st.2.2.2])), (a9, .inl (cI, o_st.2.1, .inl o_st.2.2.1))]) ⟨hx, hb, hml, hown, hts⟩ (cX1_mayResumeTurn_ok l G cI cG a0 a1 a2 a3 a4 a5 a6 a7 a8 a9 fu o_ft o_er o_eb o_li o_st o_rd o_tu o_la o_dl o_sh o_tb p1 x3 ex3) (cwV 1 hts gX3_isPossible_X1_mayResumeTurn_103 rfl rfl rfl hdX1_mayResumeTurn ⟨Nat.le_of_ble_eq_true rfl, Nat.le_of_ble_eq_true rfl⟩) hP hD hS hA hK 1 rfl rfl rfl [0, 1, 2, 3, 4, 5, 6, 7, 8, 9] rfl rfl rfl rfl rfl rfl rfl rfl hl.1 (Nat.le_of_ble_eq_true rfl) dX3_isPossible_77 ⟨Nat.zero_le _, Nat.zero_le _⟩ (fun H locs hP hD hS => ?_)
      refine lv_if_eq (tgt := 87) hx hb dX3_isPossible_80 (by decide) (fun hc => ?_) (fun hc => ?_)
      · have h := o_t h hc
        refine lv_iconst (v := 0) hx hb dX3_isPossible_87 (by decide) ?_
        obtain rfl := o_s h
        rw [hQ]
        exact end_z hx hb hr rfl rfl hP hD hS dX3_isPossible_88 hlocks
      · have h := o_f h hc
        refine lv_iconst (v := 1) hx hb dX3_isPossible_83 (by decide) ?_
        refine lv_goto (tgt := 88) hx hb dX3_isPossible_84 (by decide) ?_
        obtain rfl := o_s h
        rw [hQ]
        exact end_z hx hb hr rfl rfl hP hD hS dX3_isPossible_88 hlocks
  have h := o_f h c1
  by_cases c4 : p0 = 100
  · have h := o_t h c4
    refine lv_lookup (off := 61) (tgt := 62) hx hb dX3_isPossible_1 (by decide) (by rw [c4]; rfl) (by decide) ?_
    refine lv_aload_n hx hb dX3_isPossible_62 rfl (lv_at hl 3 rfl) ?_
    obtain ⟨x5, ex5, h⟩ := o_b h
    refine call_iV (As := []) (rest := []) (ws2 := [(a0, .inr (1, [.ref a1, .ref a3, .ref a6, .ref a8, .int o_rd, .int o_tu, .int o_la, .int (bI o_dl), .int o_sh, .int o_tb])), (a1, .inr (4, [.int o_ft.1, .ref a2, .int o_ft.2.2.2])), (a2, .inl (cI, o_ft.2.1, .inl o_ft.2.2.1)), (a3, .inr (0, [.ref a4, .int o_eb])), (a4, .inr (4, [.int o_er.1, .ref a5, .int o_er.2.2.2])), (a5, .inl (cI, o_er.2.1, .inl o_er.2.2.1)), (a6, .inr (4, [.int o_li.1, .ref a7, .int o_li.2.2.2])), (a7, .inl (cI, o_li.2.1, .inl o_li.2.2.1)), (a8, .inr (4, [.int o_st.1, .ref a9, .int o_st.2.2.2])), (a9, .inl (cI, o_st.2.1, .inl o_st.2.2.1))]) ⟨hx, hb, hml, hown, hts⟩ (cX1_mayDelayTurn_ok l G cI cG a0 a1 a2 a3 a4 a5 a6 a7 a8 a9 o_ft o_er o_eb o_li o_st o_rd o_tu o_la o_dl o_sh o_tb x5 ex5) (cwV 0 hts gX3_isPossible_X1_mayDelayTurn_97 rfl rfl rfl hdX1_mayDelayTurn ⟨Nat.le_of_ble_eq_true rfl, Nat.le_of_ble_eq_true rfl⟩) hP hD hS hA hK 1 rfl rfl rfl [0, 1, 2, 3, 4, 5, 6, 7, 8, 9] rfl rfl rfl rfl rfl rfl rfl rfl hl.1 (Nat.le_of_ble_eq_true rfl) dX3_isPossible_63 ⟨Nat.zero_le _, Nat.zero_le _⟩ (fun H locs hP hD hS => ?_)
    obtain rfl := o_s h
    rw [hQ]
    exact end_z hx hb hr rfl (bI_n _) hP hD hS dX3_isPossible_66 hlocks
  have h := o_f h c4
  by_cases c6 : p0 = 101
  · have h := o_t h c6
    refine lv_lookup (off := 56) (tgt := 57) hx hb dX3_isPossible_1 (by decide) (by rw [c6]; rfl) (by decide) ?_
    refine lv_aload_n hx hb dX3_isPossible_57 rfl (lv_at hl 3 rfl) ?_
    obtain ⟨x7, ex7, h⟩ := o_b h
    refine call_iV (As := []) (rest := []) (ws2 := [(a0, .inr (1, [.ref a1, .ref a3, .ref a6, .ref a8, .int o_rd, .int o_tu, .int o_la, .int (bI o_dl), .int o_sh, .int o_tb])), (a1, .inr (4, [.int o_ft.1, .ref a2, .int o_ft.2.2.2])), (a2, .inl (cI, o_ft.2.1, .inl o_ft.2.2.1)), (a3, .inr (0, [.ref a4, .int o_eb])), (a4, .inr (4, [.int o_er.1, .ref a5, .int o_er.2.2.2])), (a5, .inl (cI, o_er.2.1, .inl o_er.2.2.1)), (a6, .inr (4, [.int o_li.1, .ref a7, .int o_li.2.2.2])), (a7, .inl (cI, o_li.2.1, .inl o_li.2.2.1)), (a8, .inr (4, [.int o_st.1, .ref a9, .int o_st.2.2.2])), (a9, .inl (cI, o_st.2.1, .inl o_st.2.2.1))]) ⟨hx, hb, hml, hown, hts⟩ (cX1_mayEndTurn_ok l G cI cG a0 a1 a2 a3 a4 a5 a6 a7 a8 a9 o_ft o_er o_eb o_li o_st o_rd o_tu o_la o_dl o_sh o_tb x7 ex7) (cwV 0 hts gX3_isPossible_X1_mayEndTurn_94 rfl rfl rfl hdX1_mayEndTurn ⟨Nat.le_of_ble_eq_true rfl, Nat.le_of_ble_eq_true rfl⟩) hP hD hS hA hK 1 rfl rfl rfl [0, 1, 2, 3, 4, 5, 6, 7, 8, 9] rfl rfl rfl rfl rfl rfl rfl rfl hl.1 (Nat.le_of_ble_eq_true rfl) dX3_isPossible_58 ⟨Nat.zero_le _, Nat.zero_le _⟩ (fun H locs hP hD hS => ?_)
    obtain rfl := o_s h
    rw [hQ]
    exact end_z hx hb hr rfl (bI_n _) hP hD hS dX3_isPossible_61 hlocks
  have h := o_f h c6
  by_cases c8 : p0 = 110
  · have h := o_t h c8
    refine lv_lookup (off := 51) (tgt := 52) hx hb dX3_isPossible_1 (by decide) (by rw [c8]; rfl) (by decide) ?_
    refine lv_aload_n hx hb dX3_isPossible_52 rfl (lv_at hl 3 rfl) ?_
    obtain ⟨x9, ex9, h⟩ := o_b h
    refine call_iV (As := []) (rest := []) (ws2 := [(a0, .inr (1, [.ref a1, .ref a3, .ref a6, .ref a8, .int o_rd, .int o_tu, .int o_la, .int (bI o_dl), .int o_sh, .int o_tb])), (a1, .inr (4, [.int o_ft.1, .ref a2, .int o_ft.2.2.2])), (a2, .inl (cI, o_ft.2.1, .inl o_ft.2.2.1)), (a3, .inr (0, [.ref a4, .int o_eb])), (a4, .inr (4, [.int o_er.1, .ref a5, .int o_er.2.2.2])), (a5, .inl (cI, o_er.2.1, .inl o_er.2.2.1)), (a6, .inr (4, [.int o_li.1, .ref a7, .int o_li.2.2.2])), (a7, .inl (cI, o_li.2.1, .inl o_li.2.2.1)), (a8, .inr (4, [.int o_st.1, .ref a9, .int o_st.2.2.2])), (a9, .inl (cI, o_st.2.1, .inl o_st.2.2.1))]) ⟨hx, hb, hml, hown, hts⟩ (cX1_mayBeginTurn_ok l G cI cG a0 a1 a2 a3 a4 a5 a6 a7 a8 a9 o_ft o_er o_eb o_li o_st o_rd o_tu o_la o_dl o_sh o_tb x9 ex9) (cwV 0 hts gX3_isPossible_X1_mayBeginTurn_90 rfl rfl rfl hdX1_mayBeginTurn ⟨Nat.le_of_ble_eq_true rfl, Nat.le_of_ble_eq_true rfl⟩) hP hD hS hA hK 1 rfl rfl rfl [0, 1, 2, 3, 4, 5, 6, 7, 8, 9] rfl rfl rfl rfl rfl rfl rfl rfl hl.1 (Nat.le_of_ble_eq_true rfl) dX3_isPossible_53 ⟨Nat.zero_le _, Nat.zero_le _⟩ (fun H locs hP hD hS => ?_)
    obtain rfl := o_s h
    rw [hQ]
    exact end_z hx hb hr rfl (bI_n _) hP hD hS dX3_isPossible_56 hlocks
  have h := o_f h c8
  by_cases c10 : p0 = 114
  · have h := o_t h c10
    refine lv_lookup (off := 88) (tgt := 89) hx hb dX3_isPossible_1 (by decide) (by rw [c10]; rfl) (by decide) ?_
    refine lv_aload_n hx hb dX3_isPossible_89 rfl (lv_at hl 3 rfl) ?_
    obtain ⟨x11, ex11, h⟩ := o_b h
    refine call_iV (As := []) (rest := []) (ws2 := [(a0, .inr (1, [.ref a1, .ref a3, .ref a6, .ref a8, .int o_rd, .int o_tu, .int o_la, .int (bI o_dl), .int o_sh, .int o_tb])), (a1, .inr (4, [.int o_ft.1, .ref a2, .int o_ft.2.2.2])), (a2, .inl (cI, o_ft.2.1, .inl o_ft.2.2.1)), (a3, .inr (0, [.ref a4, .int o_eb])), (a4, .inr (4, [.int o_er.1, .ref a5, .int o_er.2.2.2])), (a5, .inl (cI, o_er.2.1, .inl o_er.2.2.1)), (a6, .inr (4, [.int o_li.1, .ref a7, .int o_li.2.2.2])), (a7, .inl (cI, o_li.2.1, .inl o_li.2.2.1)), (a8, .inr (4, [.int o_st.1, .ref a9, .int o_st.2.2.2])), (a9, .inl (cI, o_st.2.1, .inl o_st.2.2.1))]) ⟨hx, hb, hml, hown, hts⟩ (cX1_maySettle_ok l G cI cG a0 a1 a2 a3 a4 a5 a6 a7 a8 a9 o_ft o_er o_eb o_li o_st o_rd o_tu o_la o_dl o_sh o_tb x11 ex11) (cwV 0 hts gX3_isPossible_X1_maySettle_106 rfl rfl rfl hdX1_maySettle ⟨Nat.le_of_ble_eq_true rfl, Nat.le_of_ble_eq_true rfl⟩) hP hD hS hA hK 1 rfl rfl rfl [0, 1, 2, 3, 4, 5, 6, 7, 8, 9] rfl rfl rfl rfl rfl rfl rfl rfl hl.1 (Nat.le_of_ble_eq_true rfl) dX3_isPossible_90 ⟨Nat.zero_le _, Nat.zero_le _⟩ (fun H locs hP hD hS => ?_)
    obtain rfl := o_s h
    rw [hQ]
    exact end_z hx hb hr rfl (bI_n _) hP hD hS dX3_isPossible_93 hlocks
  have h := o_f h c10
  have kc1 := ne_ti c1 (z := 99) (by decide)
  have kc4 := ne_ti c4 (z := 100) (by decide)
  have kc6 := ne_ti c6 (z := 101) (by decide)
  have kc8 := ne_ti c8 (z := 110) (by decide)
  have kc10 := ne_ti c10 (z := 114) (by decide)
  refine lv_lookup (off := 93) (tgt := 94) hx hb dX3_isPossible_1 (by decide) (by simp [Op.lookupswitch.offset, kc1.symm, kc4.symm, kc6.symm, kc8.symm, kc10.symm]) (by decide) ?_
  refine lv_aload_n hx hb dX3_isPossible_94 rfl (lv_at hl 3 rfl) ?_
  refine lv_iload_n hx hb dX3_isPossible_95 rfl (lv_at hl 1 rfl) ?_
  obtain ⟨x12, ex12, h⟩ := o_b h
  refine call_iV (As := [.int p1]) (rest := []) (ws2 := [(a0, .inr (1, [.ref a1, .ref a3, .ref a6, .ref a8, .int o_rd, .int o_tu, .int o_la, .int (bI o_dl), .int o_sh, .int o_tb])), (a1, .inr (4, [.int o_ft.1, .ref a2, .int o_ft.2.2.2])), (a2, .inl (cI, o_ft.2.1, .inl o_ft.2.2.1)), (a3, .inr (0, [.ref a4, .int o_eb])), (a4, .inr (4, [.int o_er.1, .ref a5, .int o_er.2.2.2])), (a5, .inl (cI, o_er.2.1, .inl o_er.2.2.1)), (a6, .inr (4, [.int o_li.1, .ref a7, .int o_li.2.2.2])), (a7, .inl (cI, o_li.2.1, .inl o_li.2.2.1)), (a8, .inr (4, [.int o_st.1, .ref a9, .int o_st.2.2.2])), (a9, .inl (cI, o_st.2.1, .inl o_st.2.2.1))]) ⟨hx, hb, hml, hown, hts⟩ (cX1_isFighter_ok l G cI cG a0 a1 a2 a3 a4 a5 a6 a7 a8 a9 o_ft o_er o_eb o_li o_st o_rd o_tu o_la o_dl o_sh o_tb p1 x12 ex12) (cwV 1 hts gX3_isPossible_X1_isFighter_100 rfl rfl rfl hdX1_isFighter ⟨Nat.le_of_ble_eq_true rfl, Nat.le_of_ble_eq_true rfl⟩) hP hD hS hA hK 1 rfl rfl rfl [0, 1, 2, 3, 4, 5, 6, 7, 8, 9] rfl rfl rfl rfl rfl rfl rfl rfl hl.1 (Nat.le_of_ble_eq_true rfl) dX3_isPossible_96 ⟨Nat.zero_le _, Nat.zero_le _⟩ (fun H locs hP hD hS => ?_)
  refine lv_if_eq (tgt := 131) hx hb dX3_isPossible_99 (by decide) (fun hc => ?_) (fun hc => ?_)
  · have h := o_t h hc
    refine lv_iconst (v := 0) hx hb dX3_isPossible_131 (by decide) ?_
    obtain rfl := o_s h
    rw [hQ]
    exact end_z hx hb hr rfl rfl hP hD hS dX3_isPossible_132 hlocks
  · have h := o_f h hc
    refine lv_iload_n hx hb dX3_isPossible_102 rfl (lv_at hl 2 rfl) ?_
    refine lv_iconst (v := 1) hx hb dX3_isPossible_103 (by decide) ?_
    refine lv_bipush (v := 60) hx hb dX3_isPossible_104 (by decide) ?_
    obtain ⟨x13, ex13, h⟩ := o_b h
    refine call_iSN (As := [.int p2, .int (1 : Int32), .int (60 : Int32)]) (rest := []) (ws2 := [(a0, .inr (1, [.ref a1, .ref a3, .ref a6, .ref a8, .int o_rd, .int o_tu, .int o_la, .int (bI o_dl), .int o_sh, .int o_tb])), (a1, .inr (4, [.int o_ft.1, .ref a2, .int o_ft.2.2.2])), (a2, .inl (cI, o_ft.2.1, .inl o_ft.2.2.1)), (a3, .inr (0, [.ref a4, .int o_eb])), (a4, .inr (4, [.int o_er.1, .ref a5, .int o_er.2.2.2])), (a5, .inl (cI, o_er.2.1, .inl o_er.2.2.1)), (a6, .inr (4, [.int o_li.1, .ref a7, .int o_li.2.2.2])), (a7, .inl (cI, o_li.2.1, .inl o_li.2.2.1)), (a8, .inr (4, [.int o_st.1, .ref a9, .int o_st.2.2.2])), (a9, .inl (cI, o_st.2.1, .inl o_st.2.2.1))]) ⟨hx, hb, hml, hown, hts⟩ (cX5_within_ok l G cI cG p2 (1 : Int32) (60 : Int32) x13 ex13) ⟨va_cnB 3 hts gX3_isPossible_X5_within_109 rfl rfl rfl hK.2 hw0 hdX5_within ⟨Nat.le_of_ble_eq_true rfl, Nat.le_of_ble_eq_true rfl⟩, hw1, trivial⟩ hP hD hS hA hK [] rfl rfl rfl rfl rfl rfl rfl rfl hl.1 (Nat.le_of_ble_eq_true rfl) dX3_isPossible_106 ⟨Nat.zero_le _, Nat.zero_le _⟩ (fun H locs hP hD hS => ?_)
    refine lv_if_eq (tgt := 131) hx hb dX3_isPossible_109 (by decide) (fun hc => ?_) (fun hc => ?_)
    · have h := o_t h hc
      refine lv_iconst (v := 0) hx hb dX3_isPossible_131 (by decide) ?_
      obtain rfl := o_s h
      rw [hQ]
      exact end_z hx hb hr rfl rfl hP hD hS dX3_isPossible_132 hlocks
    · have h := o_f h hc
      refine lv_aload_n hx hb dX3_isPossible_112 rfl (lv_at hl 3 rfl) ?_
      refine lv_aload_n hx hb dX3_isPossible_113 rfl (lv_at hl 3 rfl) ?_
      obtain ⟨x14, ex14, h⟩ := o_b h
      refine call_iV (As := []) (rest := [.ref a0]) (ws2 := [(a0, .inr (1, [.ref a1, .ref a3, .ref a6, .ref a8, .int o_rd, .int o_tu, .int o_la, .int (bI o_dl), .int o_sh, .int o_tb])), (a1, .inr (4, [.int o_ft.1, .ref a2, .int o_ft.2.2.2])), (a2, .inl (cI, o_ft.2.1, .inl o_ft.2.2.1)), (a3, .inr (0, [.ref a4, .int o_eb])), (a4, .inr (4, [.int o_er.1, .ref a5, .int o_er.2.2.2])), (a5, .inl (cI, o_er.2.1, .inl o_er.2.2.1)), (a6, .inr (4, [.int o_li.1, .ref a7, .int o_li.2.2.2])), (a7, .inl (cI, o_li.2.1, .inl o_li.2.2.1)), (a8, .inr (4, [.int o_st.1, .ref a9, .int o_st.2.2.2])), (a9, .inl (cI, o_st.2.1, .inl o_st.2.2.1))]) ⟨hx, hb, hml, hown, hts⟩ (cX1_presentTurn_ok l G cI cG a0 a1 a2 a3 a4 a5 a6 a7 a8 a9 o_ft o_er o_eb o_li o_st o_rd o_tu o_la o_dl o_sh o_tb x14 ex14) (cwV 0 hts gX3_isPossible_X1_presentTurn_83 rfl rfl rfl hdX1_presentTurn ⟨Nat.le_of_ble_eq_true rfl, Nat.le_of_ble_eq_true rfl⟩) hP hD hS hA hK 1 rfl rfl rfl [0, 1, 2, 3, 4, 5, 6, 7, 8, 9] rfl rfl rfl rfl rfl rfl rfl rfl hl.1 (Nat.le_of_ble_eq_true rfl) dX3_isPossible_114 ⟨Nat.zero_le _, Nat.zero_le _⟩ (fun H locs hP hD hS => ?_)
      refine lv_iload_n hx hb dX3_isPossible_117 rfl (lv_at hl 0 rfl) ?_
      obtain ⟨x15, ex15, h⟩ := o_b h
      refine call_iS (As := [.int p0]) (rest := [.int x14, .ref a0]) (ws2 := [(a0, .inr (1, [.ref a1, .ref a3, .ref a6, .ref a8, .int o_rd, .int o_tu, .int o_la, .int (bI o_dl), .int o_sh, .int o_tb])), (a1, .inr (4, [.int o_ft.1, .ref a2, .int o_ft.2.2.2])), (a2, .inl (cI, o_ft.2.1, .inl o_ft.2.2.1)), (a3, .inr (0, [.ref a4, .int o_eb])), (a4, .inr (4, [.int o_er.1, .ref a5, .int o_er.2.2.2])), (a5, .inl (cI, o_er.2.1, .inl o_er.2.2.1)), (a6, .inr (4, [.int o_li.1, .ref a7, .int o_li.2.2.2])), (a7, .inl (cI, o_li.2.1, .inl o_li.2.2.1)), (a8, .inr (4, [.int o_st.1, .ref a9, .int o_st.2.2.2])), (a9, .inl (cI, o_st.2.1, .inl o_st.2.2.1))]) ⟨hx, hb, hml, hown, hts⟩ (cX3_kindOf_ok l G cI cG p0 x15 ex15) (va_cwS 1 hts gX3_isPossible_X3_kindOf_80 rfl rfl rfl hdX3_kindOf ⟨Nat.le_of_ble_eq_true rfl, Nat.le_of_ble_eq_true rfl⟩) hP hD hS hA hK [] rfl rfl rfl rfl rfl rfl rfl rfl hl.1 (Nat.le_of_ble_eq_true rfl) dX3_isPossible_118 ⟨Nat.zero_le _, Nat.zero_le _⟩ (fun H locs hP hD hS => ?_)
      obtain ⟨x16, ex16, h⟩ := o_b h
      refine call_iV (As := [.int x14, .int x15]) (rest := []) (ws2 := [(a0, .inr (1, [.ref a1, .ref a3, .ref a6, .ref a8, .int o_rd, .int o_tu, .int o_la, .int (bI o_dl), .int o_sh, .int o_tb])), (a1, .inr (4, [.int o_ft.1, .ref a2, .int o_ft.2.2.2])), (a2, .inl (cI, o_ft.2.1, .inl o_ft.2.2.1)), (a3, .inr (0, [.ref a4, .int o_eb])), (a4, .inr (4, [.int o_er.1, .ref a5, .int o_er.2.2.2])), (a5, .inl (cI, o_er.2.1, .inl o_er.2.2.1)), (a6, .inr (4, [.int o_li.1, .ref a7, .int o_li.2.2.2])), (a7, .inl (cI, o_li.2.1, .inl o_li.2.2.1)), (a8, .inr (4, [.int o_st.1, .ref a9, .int o_st.2.2.2])), (a9, .inl (cI, o_st.2.1, .inl o_st.2.2.1))]) ⟨hx, hb, hml, hown, hts⟩ (cX1_mayAct_ok l G cI cG a0 a1 a2 a3 a4 a5 a6 a7 a8 a9 o_ft o_er o_eb o_li o_st o_rd o_tu o_la o_dl o_sh o_tb x14 x15 x16 ex16) (cwV 2 hts gX3_isPossible_X1_mayAct_113 rfl rfl rfl hdX1_mayAct ⟨Nat.le_of_ble_eq_true rfl, Nat.le_of_ble_eq_true rfl⟩) hP hD hS hA hK 1 rfl rfl rfl [0, 1, 2, 3, 4, 5, 6, 7, 8, 9] rfl rfl rfl rfl rfl rfl rfl rfl hl.1 (Nat.le_of_ble_eq_true rfl) dX3_isPossible_121 ⟨Nat.zero_le _, Nat.zero_le _⟩ (fun H locs hP hD hS => ?_)
      refine lv_if_eq (tgt := 131) hx hb dX3_isPossible_124 (by decide) (fun hc => ?_) (fun hc => ?_)
      · have h := o_t h hc
        refine lv_iconst (v := 0) hx hb dX3_isPossible_131 (by decide) ?_
        obtain rfl := o_s h
        rw [hQ]
        exact end_z hx hb hr rfl rfl hP hD hS dX3_isPossible_132 hlocks
      · have h := o_f h hc
        refine lv_iconst (v := 1) hx hb dX3_isPossible_127 (by decide) ?_
        refine lv_goto (tgt := 132) hx hb dX3_isPossible_128 (by decide) ?_
        obtain rfl := o_s h
        rw [hQ]
        exact end_z hx hb hr rfl rfl hP hD hS dX3_isPossible_132 hlocks
theorem hdX3_perform : yX3_perform.cls = RX3 ∧ yX3_perform.cls ≠ "java/lang/invoke/MethodHandle" ∧ yX3_perform.cls ≠ "java/lang/invoke/VarHandle" ∧ (parseMethodDescriptor yX3_perform.desc).map (fun d => d.parameters.length) = some 2 := by decide +kernel
set_option maxHeartbeats 4000000 in
set_option maxRecDepth 100000 in
theorem cX3_perform_ok (l : Launch) (G : va_G) (cI cG : ClassId) (a0 a1 a2 a3 a4 b0 b1 b2 b3 b4 b5 b6 b7 b8 b9 : Nat) (fu : Nat) (tx : Tab) (cm : Tab) (o_ft : Tab) (o_er : Tab) (o_eb : Int32) (o_li : Tab) (o_st : Tab) (o_rd : Int32) (o_tu : Int32) (o_la : Int32) (o_dl : Bool) (o_sh : Int32) (o_tb : Int32) (p1 : Int32) (out : Bool × Tab × Tab × Int32 × Tab × Tab × Int32 × Int32 × Int32 × Bool × Int32) (hf : fX3_perform fu cm o_ft o_er o_eb o_li o_st o_rd o_tu o_la o_dl o_sh o_tb p1 = some out) : CI l G (tyz cI cG) yX3_perform wsX3_perform ({ frames := 6, cells := 0, slots := 0, locals := 181 } : Room) [.ref a0, .int p1, .ref b0] [(a0, .inr (3, [.ref a1, .ref a3])), (a1, .inr (4, [.int tx.1, .ref a2, .int tx.2.2.2])), (a2, .inl (cI, tx.2.1, .inl tx.2.2.1)), (a3, .inr (4, [.int cm.1, .ref a4, .int cm.2.2.2])), (a4, .inl (cI, cm.2.1, .inl cm.2.2.1)), (b0, .inr (1, [.ref b1, .ref b3, .ref b6, .ref b8, .int o_rd, .int o_tu, .int o_la, .int (bI o_dl), .int o_sh, .int o_tb])), (b1, .inr (4, [.int o_ft.1, .ref b2, .int o_ft.2.2.2])), (b2, .inl (cI, o_ft.2.1, .inl o_ft.2.2.1)), (b3, .inr (0, [.ref b4, .int o_eb])), (b4, .inr (4, [.int o_er.1, .ref b5, .int o_er.2.2.2])), (b5, .inl (cI, o_er.2.1, .inl o_er.2.2.1)), (b6, .inr (4, [.int o_li.1, .ref b7, .int o_li.2.2.2])), (b7, .inl (cI, o_li.2.1, .inl o_li.2.2.1)), (b8, .inr (4, [.int o_st.1, .ref b9, .int o_st.2.2.2])), (b9, .inl (cI, o_st.2.1, .inl o_st.2.2.1))] (bI out.1) [(a0, .inr (3, [.ref a1, .ref a3])), (a1, .inr (4, [.int tx.1, .ref a2, .int tx.2.2.2])), (a2, .inl (cI, tx.2.1, .inl tx.2.2.1)), (a3, .inr (4, [.int cm.1, .ref a4, .int cm.2.2.2])), (a4, .inl (cI, cm.2.1, .inl cm.2.2.1)), (b0, .inr (1, [.ref b1, .ref b3, .ref b6, .ref b8, .int out.2.2.2.2.2.2.1, .int out.2.2.2.2.2.2.2.1, .int out.2.2.2.2.2.2.2.2.1, .int (bI out.2.2.2.2.2.2.2.2.2.1), .int o_sh, .int out.2.2.2.2.2.2.2.2.2.2])), (b1, .inr (4, [.int out.2.1.1, .ref b2, .int out.2.1.2.2.2])), (b2, .inl (cI, out.2.1.2.1, .inl out.2.1.2.2.1)), (b3, .inr (0, [.ref b4, .int out.2.2.2.1])), (b4, .inr (4, [.int out.2.2.1.1, .ref b5, .int out.2.2.1.2.2.2])), (b5, .inl (cI, out.2.2.1.2.1, .inl out.2.2.1.2.2.1)), (b6, .inr (4, [.int out.2.2.2.2.1.1, .ref b7, .int out.2.2.2.2.1.2.2.2])), (b7, .inl (cI, out.2.2.2.2.1.2.1, .inl out.2.2.2.2.1.2.2.1)), (b8, .inr (4, [.int out.2.2.2.2.2.1.1, .ref b9, .int out.2.2.2.2.2.1.2.2.2])), (b9, .inl (cI, out.2.2.2.2.2.1.2.1, .inl out.2.2.2.2.2.1.2.2.1))] := by
  intro sz
  refine Met.ofW (cc := cX3_perform) (maxL := 6) (ret := (some .boolean)) (by decide) rfl ?_
  intro p e s m args below meth c s₁ B hml hv
  obtain ⟨rfl, hsz, hP, hK, hD0⟩ := hv
  have hx := B.exec
  have hb := B.bytes
  have hr := B.returns
  have hts := atoms_spec (ws := wsX3_perform) B.pre
  have hown : s.vm.findClass RX3 = some m.cls := findClass_of_methodNamed B.named
  have hlocks := B.notSynchronized
  subst hsz
  have hD := hD0.self (sz := s.heap.size)
  generalize hAe : va_A ([(a0, .inr (3, [.ref a1, .ref a3])), (a1, .inr (4, [.int tx.1, .ref a2, .int tx.2.2.2])), (a2, .inl (cI, tx.2.1, .inl tx.2.2.1)), (a3, .inr (4, [.int cm.1, .ref a4, .int cm.2.2.2])), (a4, .inl (cI, cm.2.1, .inl cm.2.2.1)), (b0, .inr (1, [.ref b1, .ref b3, .ref b6, .ref b8, .int o_rd, .int o_tu, .int o_la, .int (bI o_dl), .int o_sh, .int o_tb])), (b1, .inr (4, [.int o_ft.1, .ref b2, .int o_ft.2.2.2])), (b2, .inl (cI, o_ft.2.1, .inl o_ft.2.2.1)), (b3, .inr (0, [.ref b4, .int o_eb])), (b4, .inr (4, [.int o_er.1, .ref b5, .int o_er.2.2.2])), (b5, .inl (cI, o_er.2.1, .inl o_er.2.2.1)), (b6, .inr (4, [.int o_li.1, .ref b7, .int o_li.2.2.2])), (b7, .inl (cI, o_li.2.1, .inl o_li.2.2.1)), (b8, .inr (4, [.int o_st.1, .ref b9, .int o_st.2.2.2])), (b9, .inl (cI, o_st.2.1, .inl o_st.2.2.1))]) s.heap.size = A at hD ⊢
  have hA : ∀ q : Nat, s.heap.size ≤ q → A q := fun q h => by rw [← hAe]; exact Or.inr h
  have hS : va_S A s.heap s.heap [] := va_S.rf
  have hw0 := hts (.fieldLink RX3 20 "SpeedTurns$Script" "commands" "LSpeedTurns$Table;") (List.mem_of_getElem? (i := 1) rfl)
  show W p l e ({ frames := 6, cells := 0, slots := 0, locals := 181 } : Room) s m _ below meth c s.heap [] 0 0 _ _
  refine W_genQ (fun Q hQ => ?_)
  have h := hf
  rw [fX3_perform] at h
  have hl := lv_entry ([.ref a0, .int p1, .ref b0]) (n := 6) (Nat.le_of_ble_eq_true rfl)
  rw [lg_entry_eq]
  generalize (lg_sl ([.ref a0, .int p1, .ref b0]) ++ List.replicate (6 - (lg_sl ([.ref a0, .int p1, .ref b0])).length) Slot.unset).toArray = ls at hl ⊢
  have hl : lv_has ls 6 [(0, .ref a0), (1, .int p1), (2, .ref b0)] := hl
  refine lv_aload_n hx hb dX3_perform_0 rfl (lv_at hl 0 rfl) ?_
  refine va_get (D := G) (ci := 3) (v := .ref a3) (C := RX3) (T := TX3) (N := 2) hx hb hts huX3_perform_X3 hown hK.1 hP 0 rfl rfl 1 (by decide) hw0 (fun _ h9 => h9) rfl dX3_perform_1 ?_
  refine lv_iload_n hx hb dX3_perform_4 rfl (lv_at hl 1 rfl) ?_
  refine lv_iconst (v := 0) hx hb dX3_perform_5 (by decide) ?_
  obtain ⟨x1, ex1, h⟩ := o_b h
  refine call_iV (As := [.int p1, .int (0 : Int32)]) (rest := []) (ws2 := [(a0, .inr (3, [.ref a1, .ref a3])), (a1, .inr (4, [.int tx.1, .ref a2, .int tx.2.2.2])), (a2, .inl (cI, tx.2.1, .inl tx.2.2.1)), (a3, .inr (4, [.int cm.1, .ref a4, .int cm.2.2.2])), (a4, .inl (cI, cm.2.1, .inl cm.2.2.1)), (b0, .inr (1, [.ref b1, .ref b3, .ref b6, .ref b8, .int o_rd, .int o_tu, .int o_la, .int (bI o_dl), .int o_sh, .int o_tb])), (b1, .inr (4, [.int o_ft.1, .ref b2, .int o_ft.2.2.2])), (b2, .inl (cI, o_ft.2.1, .inl o_ft.2.2.1)), (b3, .inr (0, [.ref b4, .int o_eb])), (b4, .inr (4, [.int o_er.1, .ref b5, .int o_er.2.2.2])), (b5, .inl (cI, o_er.2.1, .inl o_er.2.2.1)), (b6, .inr (4, [.int o_li.1, .ref b7, .int o_li.2.2.2])), (b7, .inl (cI, o_li.2.1, .inl o_li.2.2.1)), (b8, .inr (4, [.int o_st.1, .ref b9, .int o_st.2.2.2])), (b9, .inl (cI, o_st.2.1, .inl o_st.2.2.1))]) ⟨hx, hb, hml, hown, hts⟩ (cX4_at_ok l G cI cG a3 a4 cm p1 (0 : Int32) x1 ex1) (cwV 2 hts gX3_perform_X4_at_38 rfl rfl rfl hdX4_at ⟨Nat.le_of_ble_eq_true rfl, Nat.le_of_ble_eq_true rfl⟩) hP hD hS hA hK 4 rfl rfl rfl [3, 4] rfl rfl rfl rfl rfl rfl rfl rfl hl.1 (Nat.le_of_ble_eq_true rfl) dX3_perform_6 ⟨Nat.zero_le _, Nat.zero_le _⟩ (fun H locs hP hD hS => ?_)
  refine lv_istore_n (lv' := [(3, .int x1), (0, .ref a0), (1, .int p1), (2, .ref b0)]) hx hb dX3_perform_9 rfl hl (by decide) rfl (fun ls hl => ?_)
  refine lv_aload_n hx hb dX3_perform_10 rfl (lv_at hl 1 rfl) ?_
  refine va_get (D := G) (ci := 3) (v := .ref a3) (C := RX3) (T := TX3) (N := 2) hx hb hts huX3_perform_X3 hown hK.1 hP 0 rfl rfl 1 (by decide) hw0 (fun _ h9 => h9) rfl dX3_perform_11 ?_
  refine lv_iload_n hx hb dX3_perform_14 rfl (lv_at hl 2 rfl) ?_
  refine lv_iconst (v := 1) hx hb dX3_perform_15 (by decide) ?_
  obtain ⟨x2, ex2, h⟩ := o_b h
  refine call_iV (As := [.int p1, .int (1 : Int32)]) (rest := []) (ws2 := [(a0, .inr (3, [.ref a1, .ref a3])), (a1, .inr (4, [.int tx.1, .ref a2, .int tx.2.2.2])), (a2, .inl (cI, tx.2.1, .inl tx.2.2.1)), (a3, .inr (4, [.int cm.1, .ref a4, .int cm.2.2.2])), (a4, .inl (cI, cm.2.1, .inl cm.2.2.1)), (b0, .inr (1, [.ref b1, .ref b3, .ref b6, .ref b8, .int o_rd, .int o_tu, .int o_la, .int (bI o_dl), .int o_sh, .int o_tb])), (b1, .inr (4, [.int o_ft.1, .ref b2, .int o_ft.2.2.2])), (b2, .inl (cI, o_ft.2.1, .inl o_ft.2.2.1)), (b3, .inr (0, [.ref b4, .int o_eb])), (b4, .inr (4, [.int o_er.1, .ref b5, .int o_er.2.2.2])), (b5, .inl (cI, o_er.2.1, .inl o_er.2.2.1)), (b6, .inr (4, [.int o_li.1, .ref b7, .int o_li.2.2.2])), (b7, .inl (cI, o_li.2.1, .inl o_li.2.2.1)), (b8, .inr (4, [.int o_st.1, .ref b9, .int o_st.2.2.2])), (b9, .inl (cI, o_st.2.1, .inl o_st.2.2.1))]) ⟨hx, hb, hml, hown, hts⟩ (cX4_at_ok l G cI cG a3 a4 cm p1 (1 : Int32) x2 ex2) (cwV 2 hts gX3_perform_X4_at_38 rfl rfl rfl hdX4_at ⟨Nat.le_of_ble_eq_true rfl, Nat.le_of_ble_eq_true rfl⟩) hP hD hS hA hK 4 rfl rfl rfl [3, 4] rfl rfl rfl rfl rfl rfl rfl rfl hl.1 (Nat.le_of_ble_eq_true rfl) dX3_perform_16 ⟨Nat.zero_le _, Nat.zero_le _⟩ (fun H locs hP hD hS => ?_)
  refine lv_istore (lv' := [(4, .int x2), (3, .int x1), (0, .ref a0), (1, .int p1), (2, .ref b0)]) hx hb dX3_perform_19 hl (by decide) rfl (fun ls hl => ?_)
  refine lv_aload_n hx hb dX3_perform_21 rfl (lv_at hl 2 rfl) ?_
  refine va_get (D := G) (ci := 3) (v := .ref a3) (C := RX3) (T := TX3) (N := 2) hx hb hts huX3_perform_X3 hown hK.1 hP 0 rfl rfl 1 (by decide) hw0 (fun _ h9 => h9) rfl dX3_perform_22 ?_
  refine lv_iload_n hx hb dX3_perform_25 rfl (lv_at hl 3 rfl) ?_
  refine lv_iconst (v := 2) hx hb dX3_perform_26 (by decide) ?_
  obtain ⟨x3, ex3, h⟩ := o_b h
  refine call_iV (As := [.int p1, .int (2 : Int32)]) (rest := []) (ws2 := [(a0, .inr (3, [.ref a1, .ref a3])), (a1, .inr (4, [.int tx.1, .ref a2, .int tx.2.2.2])), (a2, .inl (cI, tx.2.1, .inl tx.2.2.1)), (a3, .inr (4, [.int cm.1, .ref a4, .int cm.2.2.2])), (a4, .inl (cI, cm.2.1, .inl cm.2.2.1)), (b0, .inr (1, [.ref b1, .ref b3, .ref b6, .ref b8, .int o_rd, .int o_tu, .int o_la, .int (bI o_dl), .int o_sh, .int o_tb])), (b1, .inr (4, [.int o_ft.1, .ref b2, .int o_ft.2.2.2])), (b2, .inl (cI, o_ft.2.1, .inl o_ft.2.2.1)), (b3, .inr (0, [.ref b4, .int o_eb])), (b4, .inr (4, [.int o_er.1, .ref b5, .int o_er.2.2.2])), (b5, .inl (cI, o_er.2.1, .inl o_er.2.2.1)), (b6, .inr (4, [.int o_li.1, .ref b7, .int o_li.2.2.2])), (b7, .inl (cI, o_li.2.1, .inl o_li.2.2.1)), (b8, .inr (4, [.int o_st.1, .ref b9, .int o_st.2.2.2])), (b9, .inl (cI, o_st.2.1, .inl o_st.2.2.1))]) ⟨hx, hb, hml, hown, hts⟩ (cX4_at_ok l G cI cG a3 a4 cm p1 (2 : Int32) x3 ex3) (cwV 2 hts gX3_perform_X4_at_38 rfl rfl rfl hdX4_at ⟨Nat.le_of_ble_eq_true rfl, Nat.le_of_ble_eq_true rfl⟩) hP hD hS hA hK 4 rfl rfl rfl [3, 4] rfl rfl rfl rfl rfl rfl rfl rfl hl.1 (Nat.le_of_ble_eq_true rfl) dX3_perform_27 ⟨Nat.zero_le _, Nat.zero_le _⟩ (fun H locs hP hD hS => ?_)
  refine lv_istore (lv' := [(5, .int x3), (4, .int x2), (3, .int x1), (0, .ref a0), (1, .int p1), (2, .ref b0)]) hx hb dX3_perform_30 hl (by decide) rfl (fun ls hl => ?_)
  refine lv_iload_n hx hb dX3_perform_32 rfl (lv_at hl 2 rfl) ?_
  refine lv_iload hx hb dX3_perform_33 (lv_at hl 1 rfl) ?_
  refine lv_iload hx hb dX3_perform_35 (lv_at hl 0 rfl) ?_
  refine lv_aload_n hx hb dX3_perform_37 rfl (lv_at hl 5 rfl) ?_
  obtain ⟨x4, ex4, h⟩ := o_b h
  refine call_iS (As := [.int x1, .int x2, .int x3, .ref b0]) (rest := []) (ws2 := [(a0, .inr (3, [.ref a1, .ref a3])), (a1, .inr (4, [.int tx.1, .ref a2, .int tx.2.2.2])), (a2, .inl (cI, tx.2.1, .inl tx.2.2.1)), (a3, .inr (4, [.int cm.1, .ref a4, .int cm.2.2.2])), (a4, .inl (cI, cm.2.1, .inl cm.2.2.1)), (b0, .inr (1, [.ref b1, .ref b3, .ref b6, .ref b8, .int o_rd, .int o_tu, .int o_la, .int (bI o_dl), .int o_sh, .int o_tb])), (b1, .inr (4, [.int o_ft.1, .ref b2, .int o_ft.2.2.2])), (b2, .inl (cI, o_ft.2.1, .inl o_ft.2.2.1)), (b3, .inr (0, [.ref b4, .int o_eb])), (b4, .inr (4, [.int o_er.1, .ref b5, .int o_er.2.2.2])), (b5, .inl (cI, o_er.2.1, .inl o_er.2.2.1)), (b6, .inr (4, [.int o_li.1, .ref b7, .int o_li.2.2.2])), (b7, .inl (cI, o_li.2.1, .inl o_li.2.2.1)), (b8, .inr (4, [.int o_st.1, .ref b9, .int o_st.2.2.2])), (b9, .inl (cI, o_st.2.1, .inl o_st.2.2.1))]) ⟨hx, hb, hml, hown, hts⟩ (cX3_isPossible_ok l G cI cG b0 b1 b2 b3 b4 b5 b6 b7 b8 b9 fu o_ft o_er o_eb o_li o_st o_rd o_tu o_la o_dl o_sh o_tb x1 x2 x3 x4 ex4) (va_cwS 4 hts gX3_perform_X3_isPossible_59 rfl rfl rfl hdX3_isPossible ⟨Nat.le_of_ble_eq_true rfl, Nat.le_of_ble_eq_true rfl⟩) hP hD hS hA hK [5, 6, 7, 8, 9, 10, 11, 12, 13, 14] rfl rfl rfl rfl rfl rfl rfl rfl hl.1 (Nat.le_of_ble_eq_true rfl) dX3_perform_38 ⟨Nat.zero_le _, Nat.zero_le _⟩ (fun H locs hP hD hS => ?_)
  refine lv_if_ne (tgt := 46) hx hb dX3_perform_41 (by decide) (fun hc => ?_) (fun hc => ?_)
  · have h := o_f h hc
    refine lv_iload_n hx hb dX3_perform_46 rfl (lv_at hl 2 rfl) ?_
    by_cases c5 : x1 = 99
    · have h := o_t h c5
      refine lv_lookup (off := 73) (tgt := 120) hx hb dX3_perform_47 (by decide) (by rw [c5]; rfl) (by decide) ?_
      refine lv_aload_n hx hb dX3_perform_120 rfl (lv_at hl 5 rfl) ?_
      refine lv_iload hx hb dX3_perform_121 (lv_at hl 1 rfl) ?_
      obtain ⟨x6, ex6, h⟩ := o_b h
      refine call_iV (As := [.int x2]) (rest := []) (ws2 := [(a0, .inr (3, [.ref a1, .ref a3])), (a1, .inr (4, [.int tx.1, .ref a2, .int tx.2.2.2])), (a2, .inl (cI, tx.2.1, .inl tx.2.2.1)), (a3, .inr (4, [.int cm.1, .ref a4, .int cm.2.2.2])), (a4, .inl (cI, cm.2.1, .inl cm.2.2.1)), (b0, .inr (1, [.ref b1, .ref b3, .ref b6, .ref b8, .int o_rd, .int x6.2.2.1, .int x6.2.2.2.1, .int (bI x6.2.2.2.2), .int o_sh, .int o_tb])), (b1, .inr (4, [.int o_ft.1, .ref b2, .int o_ft.2.2.2])), (b2, .inl (cI, o_ft.2.1, .inl o_ft.2.2.1)), (b3, .inr (0, [.ref b4, .int o_eb])), (b4, .inr (4, [.int o_er.1, .ref b5, .int o_er.2.2.2])), (b5, .inl (cI, o_er.2.1, .inl o_er.2.2.1)), (b6, .inr (4, [.int x6.2.1.1, .ref b7, .int x6.2.1.2.2.2])), (b7, .inl (cI, x6.2.1.2.1, .inl x6.2.1.2.2.1)), (b8, .inr (4, [.int o_st.1, .ref b9, .int o_st.2.2.2])), (b9, .inl (cI, o_st.2.1, .inl o_st.2.2.1))]) ⟨hx, hb, hml, hown, hts⟩ (cX1_resumeTurn_ok l G cI cG b0 b1 b2 b3 b4 b5 b6 b7 b8 b9 fu o_ft o_er o_eb o_li o_st o_rd o_tu o_la o_dl o_sh o_tb x2 x6 ex6) (cwV 1 hts gX3_perform_X1_resumeTurn_74 rfl rfl rfl hdX1_resumeTurn ⟨Nat.le_of_ble_eq_true rfl, Nat.le_of_ble_eq_true rfl⟩) hP hD hS hA hK 1 rfl rfl rfl [5, 6, 7, 8, 9, 10, 11, 12, 13, 14] rfl rfl rfl rfl rfl rfl rfl rfl hl.1 (Nat.le_of_ble_eq_true rfl) dX3_perform_123 ⟨Nat.zero_le _, Nat.zero_le _⟩ (fun H locs hP hD hS => ?_)
      refine lv_pop hx hb dX3_perform_126 rfl ?_
      refine lv_goto (tgt := 158) hx hb dX3_perform_127 (by decide) ?_
      refine lv_iconst (v := 1) hx hb dX3_perform_158 (by decide) ?_
      obtain rfl := o_s h
      rw [hQ]
      exact end_z hx hb hr rfl rfl hP hD hS dX3_perform_159 hlocks
    have h := o_f h c5
    by_cases c7 : x1 = 100
    · have h := o_t h c7
      refine lv_lookup (off := 65) (tgt := 112) hx hb dX3_perform_47 (by decide) (by rw [c7]; rfl) (by decide) ?_
      refine lv_aload_n hx hb dX3_perform_112 rfl (lv_at hl 5 rfl) ?_
      obtain ⟨x8, ex8, h⟩ := o_b h
      refine call_iV (As := []) (rest := []) (ws2 := [(a0, .inr (3, [.ref a1, .ref a3])), (a1, .inr (4, [.int tx.1, .ref a2, .int tx.2.2.2])), (a2, .inl (cI, tx.2.1, .inl tx.2.2.1)), (a3, .inr (4, [.int cm.1, .ref a4, .int cm.2.2.2])), (a4, .inl (cI, cm.2.1, .inl cm.2.2.1)), (b0, .inr (1, [.ref b1, .ref b3, .ref b6, .ref b8, .int o_rd, .int x8.2.2, .int o_la, .int (bI o_dl), .int o_sh, .int o_tb])), (b1, .inr (4, [.int o_ft.1, .ref b2, .int o_ft.2.2.2])), (b2, .inl (cI, o_ft.2.1, .inl o_ft.2.2.1)), (b3, .inr (0, [.ref b4, .int o_eb])), (b4, .inr (4, [.int o_er.1, .ref b5, .int o_er.2.2.2])), (b5, .inl (cI, o_er.2.1, .inl o_er.2.2.1)), (b6, .inr (4, [.int x8.2.1.1, .ref b7, .int x8.2.1.2.2.2])), (b7, .inl (cI, x8.2.1.2.1, .inl x8.2.1.2.2.1)), (b8, .inr (4, [.int o_st.1, .ref b9, .int o_st.2.2.2])), (b9, .inl (cI, o_st.2.1, .inl o_st.2.2.1))]) ⟨hx, hb, hml, hown, hts⟩ (cX1_delayTurn_ok l G cI cG b0 b1 b2 b3 b4 b5 b6 b7 b8 b9 fu o_ft o_er o_eb o_li o_st o_rd o_tu o_la o_dl o_sh o_tb x8 ex8) (cwV 0 hts gX3_perform_X1_delayTurn_71 rfl rfl rfl hdX1_delayTurn ⟨Nat.le_of_ble_eq_true rfl, Nat.le_of_ble_eq_true rfl⟩) hP hD hS hA hK 1 rfl rfl rfl [5, 6, 7, 8, 9, 10, 11, 12, 13, 14] rfl rfl rfl rfl rfl rfl rfl rfl hl.1 (Nat.le_of_ble_eq_true rfl) dX3_perform_113 ⟨Nat.zero_le _, Nat.zero_le _⟩ (fun H locs hP hD hS => ?_)
      refine lv_pop hx hb dX3_perform_116 rfl ?_
      refine lv_goto (tgt := 158) hx hb dX3_perform_117 (by decide) ?_
      refine lv_iconst (v := 1) hx hb dX3_perform_158 (by decide) ?_
      obtain rfl := o_s h
      rw [hQ]
      exact end_z hx hb hr rfl rfl hP hD hS dX3_perform_159 hlocks
    have h := o_f h c7
    by_cases c9 : x1 = 101
    · have h := o_t h c9
      refine lv_lookup (off := 57) (tgt := 104) hx hb dX3_perform_47 (by decide) (by rw [c9]; rfl) (by decide) ?_
      refine lv_aload_n hx hb dX3_perform_104 rfl (lv_at hl 5 rfl) ?_
      obtain ⟨x10, ex10, h⟩ := o_b h
      refine call_iV (As := []) (rest := []) (ws2 := [(a0, .inr (3, [.ref a1, .ref a3])), (a1, .inr (4, [.int tx.1, .ref a2, .int tx.2.2.2])), (a2, .inl (cI, tx.2.1, .inl tx.2.2.1)), (a3, .inr (4, [.int cm.1, .ref a4, .int cm.2.2.2])), (a4, .inl (cI, cm.2.1, .inl cm.2.2.1)), (b0, .inr (1, [.ref b1, .ref b3, .ref b6, .ref b8, .int o_rd, .int x10.2.2, .int o_la, .int (bI o_dl), .int o_sh, .int o_tb])), (b1, .inr (4, [.int o_ft.1, .ref b2, .int o_ft.2.2.2])), (b2, .inl (cI, o_ft.2.1, .inl o_ft.2.2.1)), (b3, .inr (0, [.ref b4, .int o_eb])), (b4, .inr (4, [.int x10.2.1.1, .ref b5, .int x10.2.1.2.2.2])), (b5, .inl (cI, x10.2.1.2.1, .inl x10.2.1.2.2.1)), (b6, .inr (4, [.int o_li.1, .ref b7, .int o_li.2.2.2])), (b7, .inl (cI, o_li.2.1, .inl o_li.2.2.1)), (b8, .inr (4, [.int o_st.1, .ref b9, .int o_st.2.2.2])), (b9, .inl (cI, o_st.2.1, .inl o_st.2.2.1))]) ⟨hx, hb, hml, hown, hts⟩ (cX1_endTurn_ok l G cI cG b0 b1 b2 b3 b4 b5 b6 b7 b8 b9 fu o_ft o_er o_eb o_li o_st o_rd o_tu o_la o_dl o_sh o_tb x10 ex10) (cwV 0 hts gX3_perform_X1_endTurn_68 rfl rfl rfl hdX1_endTurn ⟨Nat.le_of_ble_eq_true rfl, Nat.le_of_ble_eq_true rfl⟩) hP hD hS hA hK 1 rfl rfl rfl [5, 6, 7, 8, 9, 10, 11, 12, 13, 14] rfl rfl rfl rfl rfl rfl rfl rfl hl.1 (Nat.le_of_ble_eq_true rfl) dX3_perform_105 ⟨Nat.zero_le _, Nat.zero_le _⟩ (fun H locs hP hD hS => ?_)
      refine lv_pop hx hb dX3_perform_108 rfl ?_
      refine lv_goto (tgt := 158) hx hb dX3_perform_109 (by decide) ?_
      refine lv_iconst (v := 1) hx hb dX3_perform_158 (by decide) ?_
      obtain rfl := o_s h
      rw [hQ]
      exact end_z hx hb hr rfl rfl hP hD hS dX3_perform_159 hlocks
    have h := o_f h c9
    by_cases c11 : x1 = 110
    · have h := o_t h c11
      refine lv_lookup (off := 49) (tgt := 96) hx hb dX3_perform_47 (by decide) (by rw [c11]; rfl) (by decide) ?_
      refine lv_aload_n hx hb dX3_perform_96 rfl (lv_at hl 5 rfl) ?_
      obtain ⟨x12, ex12, h⟩ := o_b h
      refine call_iV (As := []) (rest := []) (ws2 := [(a0, .inr (3, [.ref a1, .ref a3])), (a1, .inr (4, [.int tx.1, .ref a2, .int tx.2.2.2])), (a2, .inl (cI, tx.2.1, .inl tx.2.2.1)), (a3, .inr (4, [.int cm.1, .ref a4, .int cm.2.2.2])), (a4, .inl (cI, cm.2.1, .inl cm.2.2.1)), (b0, .inr (1, [.ref b1, .ref b3, .ref b6, .ref b8, .int x12.2.2.2.2.1, .int x12.2.2.2.2.2.1, .int x12.2.2.2.2.2.2.1, .int (bI x12.2.2.2.2.2.2.2.1), .int o_sh, .int x12.2.2.2.2.2.2.2.2])), (b1, .inr (4, [.int x12.2.1.1, .ref b2, .int x12.2.1.2.2.2])), (b2, .inl (cI, x12.2.1.2.1, .inl x12.2.1.2.2.1)), (b3, .inr (0, [.ref b4, .int o_eb])), (b4, .inr (4, [.int x12.2.2.1.1, .ref b5, .int x12.2.2.1.2.2.2])), (b5, .inl (cI, x12.2.2.1.2.1, .inl x12.2.2.1.2.2.1)), (b6, .inr (4, [.int x12.2.2.2.1.1, .ref b7, .int x12.2.2.2.1.2.2.2])), (b7, .inl (cI, x12.2.2.2.1.2.1, .inl x12.2.2.2.1.2.2.1)), (b8, .inr (4, [.int o_st.1, .ref b9, .int o_st.2.2.2])), (b9, .inl (cI, o_st.2.1, .inl o_st.2.2.1))]) ⟨hx, hb, hml, hown, hts⟩ (cX1_beginTurn_ok l G cI cG b0 b1 b2 b3 b4 b5 b6 b7 b8 b9 fu o_ft o_er o_eb o_li o_st o_rd o_tu o_la o_dl o_sh o_tb x12 ex12) (cwV 0 hts gX3_perform_X1_beginTurn_63 rfl rfl rfl hdX1_beginTurn ⟨Nat.le_of_ble_eq_true rfl, Nat.le_of_ble_eq_true rfl⟩) hP hD hS hA hK 1 rfl rfl rfl [5, 6, 7, 8, 9, 10, 11, 12, 13, 14] rfl rfl rfl rfl rfl rfl rfl rfl hl.1 (Nat.le_of_ble_eq_true rfl) dX3_perform_97 ⟨Nat.zero_le _, Nat.zero_le _⟩ (fun H locs hP hD hS => ?_)
      refine lv_pop hx hb dX3_perform_100 rfl ?_
      refine lv_goto (tgt := 158) hx hb dX3_perform_101 (by decide) ?_
      refine lv_iconst (v := 1) hx hb dX3_perform_158 (by decide) ?_
      obtain rfl := o_s h
      rw [hQ]
      exact end_z hx hb hr rfl rfl hP hD hS dX3_perform_159 hlocks
    have h := o_f h c11
    by_cases c13 : x1 = 114
    · have h := o_t h c13
      refine lv_lookup (off := 83) (tgt := 130) hx hb dX3_perform_47 (by decide) (by rw [c13]; rfl) (by decide) ?_
      refine lv_aload_n hx hb dX3_perform_130 rfl (lv_at hl 5 rfl) ?_
      obtain ⟨x14, ex14, h⟩ := o_b h
      refine call_iV (As := []) (rest := []) (ws2 := [(a0, .inr (3, [.ref a1, .ref a3])), (a1, .inr (4, [.int tx.1, .ref a2, .int tx.2.2.2])), (a2, .inl (cI, tx.2.1, .inl tx.2.2.1)), (a3, .inr (4, [.int cm.1, .ref a4, .int cm.2.2.2])), (a4, .inl (cI, cm.2.1, .inl cm.2.2.1)), (b0, .inr (1, [.ref b1, .ref b3, .ref b6, .ref b8, .int o_rd, .int x14.2.2.2.2.2, .int o_la, .int (bI o_dl), .int o_sh, .int o_tb])), (b1, .inr (4, [.int x14.2.1.1, .ref b2, .int x14.2.1.2.2.2])), (b2, .inl (cI, x14.2.1.2.1, .inl x14.2.1.2.2.1)), (b3, .inr (0, [.ref b4, .int x14.2.2.2.1])), (b4, .inr (4, [.int x14.2.2.1.1, .ref b5, .int x14.2.2.1.2.2.2])), (b5, .inl (cI, x14.2.2.1.2.1, .inl x14.2.2.1.2.2.1)), (b6, .inr (4, [.int o_li.1, .ref b7, .int o_li.2.2.2])), (b7, .inl (cI, o_li.2.1, .inl o_li.2.2.1)), (b8, .inr (4, [.int x14.2.2.2.2.1.1, .ref b9, .int x14.2.2.2.2.1.2.2.2])), (b9, .inl (cI, x14.2.2.2.2.1.2.1, .inl x14.2.2.2.2.1.2.2.1))]) ⟨hx, hb, hml, hown, hts⟩ (cX1_settleStack_ok l G cI cG b0 b1 b2 b3 b4 b5 b6 b7 b8 b9 fu o_ft o_er o_eb o_li o_st o_rd o_tu o_la o_dl o_sh o_tb x14 ex14) (cwV 0 hts gX3_perform_X1_settleStack_77 rfl rfl rfl hdX1_settleStack ⟨Nat.le_of_ble_eq_true rfl, Nat.le_of_ble_eq_true rfl⟩) hP hD hS hA hK 1 rfl rfl rfl [5, 6, 7, 8, 9, 10, 11, 12, 13, 14] rfl rfl rfl rfl rfl rfl rfl rfl hl.1 (Nat.le_of_ble_eq_true rfl) dX3_perform_131 ⟨Nat.zero_le _, Nat.zero_le _⟩ (fun H locs hP hD hS => ?_)
      refine lv_pop hx hb dX3_perform_134 rfl ?_
      refine lv_goto (tgt := 158) hx hb dX3_perform_135 (by decide) ?_
      refine lv_iconst (v := 1) hx hb dX3_perform_158 (by decide) ?_
      obtain rfl := o_s h
      rw [hQ]
      exact end_z hx hb hr rfl rfl hP hD hS dX3_perform_159 hlocks
    have h := o_f h c13
    have kc5 := ne_ti c5 (z := 99) (by decide)
    have kc7 := ne_ti c7 (z := 100) (by decide)
    have kc9 := ne_ti c9 (z := 101) (by decide)
    have kc11 := ne_ti c11 (z := 110) (by decide)
    have kc13 := ne_ti c13 (z := 114) (by decide)
    refine lv_lookup (off := 91) (tgt := 138) hx hb dX3_perform_47 (by decide) (by simp [Op.lookupswitch.offset, kc5.symm, kc7.symm, kc9.symm, kc11.symm, kc13.symm]) (by decide) ?_
    refine lv_aload_n hx hb dX3_perform_138 rfl (lv_at hl 5 rfl) ?_
    refine lv_iload_n hx hb dX3_perform_139 rfl (lv_at hl 2 rfl) ?_
    obtain ⟨x15, ex15, h⟩ := o_b h
    refine call_iS (As := [.int x1]) (rest := [.ref b0]) (ws2 := [(a0, .inr (3, [.ref a1, .ref a3])), (a1, .inr (4, [.int tx.1, .ref a2, .int tx.2.2.2])), (a2, .inl (cI, tx.2.1, .inl tx.2.2.1)), (a3, .inr (4, [.int cm.1, .ref a4, .int cm.2.2.2])), (a4, .inl (cI, cm.2.1, .inl cm.2.2.1)), (b0, .inr (1, [.ref b1, .ref b3, .ref b6, .ref b8, .int o_rd, .int o_tu, .int o_la, .int (bI o_dl), .int o_sh, .int o_tb])), (b1, .inr (4, [.int o_ft.1, .ref b2, .int o_ft.2.2.2])), (b2, .inl (cI, o_ft.2.1, .inl o_ft.2.2.1)), (b3, .inr (0, [.ref b4, .int o_eb])), (b4, .inr (4, [.int o_er.1, .ref b5, .int o_er.2.2.2])), (b5, .inl (cI, o_er.2.1, .inl o_er.2.2.1)), (b6, .inr (4, [.int o_li.1, .ref b7, .int o_li.2.2.2])), (b7, .inl (cI, o_li.2.1, .inl o_li.2.2.1)), (b8, .inr (4, [.int o_st.1, .ref b9, .int o_st.2.2.2])), (b9, .inl (cI, o_st.2.1, .inl o_st.2.2.1))]) ⟨hx, hb, hml, hown, hts⟩ (cX3_kindOf_ok l G cI cG x1 x15 ex15) (va_cwS 1 hts gX3_perform_X3_kindOf_80 rfl rfl rfl hdX3_kindOf ⟨Nat.le_of_ble_eq_true rfl, Nat.le_of_ble_eq_true rfl⟩) hP hD hS hA hK [] rfl rfl rfl rfl rfl rfl rfl rfl hl.1 (Nat.le_of_ble_eq_true rfl) dX3_perform_140 ⟨Nat.zero_le _, Nat.zero_le _⟩ (fun H locs hP hD hS => ?_)
    refine lv_aload_n hx hb dX3_perform_143 rfl (lv_at hl 5 rfl) ?_
    obtain ⟨x16, ex16, h⟩ := o_b h
    refine call_iV (As := []) (rest := [.int x15, .ref b0]) (ws2 := [(a0, .inr (3, [.ref a1, .ref a3])), (a1, .inr (4, [.int tx.1, .ref a2, .int tx.2.2.2])), (a2, .inl (cI, tx.2.1, .inl tx.2.2.1)), (a3, .inr (4, [.int cm.1, .ref a4, .int cm.2.2.2])), (a4, .inl (cI, cm.2.1, .inl cm.2.2.1)), (b0, .inr (1, [.ref b1, .ref b3, .ref b6, .ref b8, .int o_rd, .int o_tu, .int o_la, .int (bI o_dl), .int o_sh, .int o_tb])), (b1, .inr (4, [.int o_ft.1, .ref b2, .int o_ft.2.2.2])), (b2, .inl (cI, o_ft.2.1, .inl o_ft.2.2.1)), (b3, .inr (0, [.ref b4, .int o_eb])), (b4, .inr (4, [.int o_er.1, .ref b5, .int o_er.2.2.2])), (b5, .inl (cI, o_er.2.1, .inl o_er.2.2.1)), (b6, .inr (4, [.int o_li.1, .ref b7, .int o_li.2.2.2])), (b7, .inl (cI, o_li.2.1, .inl o_li.2.2.1)), (b8, .inr (4, [.int o_st.1, .ref b9, .int o_st.2.2.2])), (b9, .inl (cI, o_st.2.1, .inl o_st.2.2.1))]) ⟨hx, hb, hml, hown, hts⟩ (cX1_presentTurn_ok l G cI cG b0 b1 b2 b3 b4 b5 b6 b7 b8 b9 o_ft o_er o_eb o_li o_st o_rd o_tu o_la o_dl o_sh o_tb x16 ex16) (cwV 0 hts gX3_perform_X1_presentTurn_83 rfl rfl rfl hdX1_presentTurn ⟨Nat.le_of_ble_eq_true rfl, Nat.le_of_ble_eq_true rfl⟩) hP hD hS hA hK 1 rfl rfl rfl [5, 6, 7, 8, 9, 10, 11, 12, 13, 14] rfl rfl rfl rfl rfl rfl rfl rfl hl.1 (Nat.le_of_ble_eq_true rfl) dX3_perform_144 ⟨Nat.zero_le _, Nat.zero_le _⟩ (fun H locs hP hD hS => ?_)
    refine lv_iload hx hb dX3_perform_147 (lv_at hl 1 rfl) ?_
    refine lv_iload hx hb dX3_perform_149 (lv_at hl 0 rfl) ?_
    refine lv_iconst (v := 0) hx hb dX3_perform_151 (by decide) ?_
    refine lv_iconst (v := 0) hx hb dX3_perform_152 (by decide) ?_
    refine lv_iconst (v := 0) hx hb dX3_perform_153 (by decide) ?_
    obtain ⟨x17, ex17, h⟩ := o_b h
    refine call_iV (As := [.int x15, .int x16, .int x2, .int x3, .int (0 : Int32), .int (0 : Int32), .int (0 : Int32)]) (rest := []) (ws2 := [(a0, .inr (3, [.ref a1, .ref a3])), (a1, .inr (4, [.int tx.1, .ref a2, .int tx.2.2.2])), (a2, .inl (cI, tx.2.1, .inl tx.2.2.1)), (a3, .inr (4, [.int cm.1, .ref a4, .int cm.2.2.2])), (a4, .inl (cI, cm.2.1, .inl cm.2.2.1)), (b0, .inr (1, [.ref b1, .ref b3, .ref b6, .ref b8, .int o_rd, .int o_tu, .int o_la, .int (bI x17.2.2.2), .int o_sh, .int o_tb])), (b1, .inr (4, [.int x17.2.1.1, .ref b2, .int x17.2.1.2.2.2])), (b2, .inl (cI, x17.2.1.2.1, .inl x17.2.1.2.2.1)), (b3, .inr (0, [.ref b4, .int o_eb])), (b4, .inr (4, [.int o_er.1, .ref b5, .int o_er.2.2.2])), (b5, .inl (cI, o_er.2.1, .inl o_er.2.2.1)), (b6, .inr (4, [.int o_li.1, .ref b7, .int o_li.2.2.2])), (b7, .inl (cI, o_li.2.1, .inl o_li.2.2.1)), (b8, .inr (4, [.int x17.2.2.1.1, .ref b9, .int x17.2.2.1.2.2.2])), (b9, .inl (cI, x17.2.2.1.2.1, .inl x17.2.2.1.2.2.1))]) ⟨hx, hb, hml, hown, hts⟩ (cX1_beginAct_ok l G cI cG b0 b1 b2 b3 b4 b5 b6 b7 b8 b9 fu o_ft o_er o_eb o_li o_st o_rd o_tu o_la o_dl o_sh o_tb x15 x16 x2 x3 (0 : Int32) (0 : Int32) (0 : Int32) x17 ex17) (cwV 7 hts gX3_perform_X1_beginAct_86 rfl rfl rfl hdX1_beginAct ⟨Nat.le_of_ble_eq_true rfl, Nat.le_of_ble_eq_true rfl⟩) hP hD hS hA hK 1 rfl rfl rfl [5, 6, 7, 8, 9, 10, 11, 12, 13, 14] rfl rfl rfl rfl rfl rfl rfl rfl hl.1 (Nat.le_of_ble_eq_true rfl) dX3_perform_154 ⟨Nat.zero_le _, Nat.zero_le _⟩ (fun H locs hP hD hS => ?_)
    refine lv_pop hx hb dX3_perform_157 rfl ?_
    refine lv_iconst (v := 1) hx hb dX3_perform_158 (by decide) ?_
    obtain rfl := o_s h
    rw [hQ]
    exact end_z hx hb hr rfl rfl hP hD hS dX3_perform_159 hlocks
  · have h := o_t h hc
    refine lv_iconst (v := 0) hx hb dX3_perform_44 (by decide) ?_
    obtain rfl := o_s h
    rw [hQ]
    exact end_z hx hb hr rfl rfl hP hD hS dX3_perform_45 hlocks
