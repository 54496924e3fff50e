theorem hdX4_count : yX4_count.cls = RX4 ∧ yX4_count.cls ≠ "java/lang/invoke/MethodHandle" ∧ yX4_count.cls ≠ "java/lang/invoke/VarHandle" ∧ (parseMethodDescriptor yX4_count.desc).map (fun d => d.parameters.length) = some 0 := by decide +kernel
set_option maxHeartbeats 4000000 in
set_option maxRecDepth 100000 in
theorem cX4_count_ok (l : Launch) (G : va_G) (cI cG : ClassId) (a0 a1 : Nat) (T : Tab) (out : Int32) (hf : fX4_count T = some out) : CI l G (tyz cI cG) yX4_count wsX4_count ({ frames := 0, cells := 0, slots := 0, locals := 0 } : Room) [.ref a0] [(a0, .inr (4, [.int T.1, .ref a1, .int T.2.2.2])), (a1, .inl (cI, T.2.1, .inl T.2.2.1))] out [(a0, .inr (4, [.int T.1, .ref a1, .int T.2.2.2])), (a1, .inl (cI, T.2.1, .inl T.2.2.1))] := by
  intro sz
  refine Met.ofW (cc := cX4_count) (maxL := 1) (ret := (some .int)) (by decide) rfl ?_
  intro p e s m args below meth c s₁ B hml hv
  obtain ⟨rfl, hsz, hP, hK, hD0⟩ := hv
  have hx := B.exec
  have hb := B.bytes
  have hr := B.returns
  have hts := atoms_spec (ws := wsX4_count) B.pre
  have hown : s.vm.findClass RX4 = some m.cls := findClass_of_methodNamed B.named
  have hlocks := B.notSynchronized
  subst hsz
  have hD := hD0.self (sz := s.heap.size)
  generalize hAe : va_A ([(a0, .inr (4, [.int T.1, .ref a1, .int T.2.2.2])), (a1, .inl (cI, T.2.1, .inl T.2.2.1))]) s.heap.size = A at hD ⊢
  have hA : ∀ q : Nat, s.heap.size ≤ q → A q := fun q h => by rw [← hAe]; exact Or.inr h
  have hS : va_S A s.heap s.heap [] := va_S.rf
  have hw0 := hts (.fieldLink RX4 25 "SpeedTurns$Table" "rows" "I") (List.mem_of_getElem? (i := 1) rfl)
  show W p l e ({ frames := 0, cells := 0, slots := 0, locals := 0 } : Room) s m _ below meth c s.heap [] 0 0 _ _
  refine W_genQ (fun Q hQ => ?_)
  have h := hf
  rw [fX4_count] at h
  have hl := lv_entry ([.ref a0]) (n := 1) (Nat.le_of_ble_eq_true rfl)
  rw [lg_entry_eq]
  generalize (lg_sl ([.ref a0]) ++ List.replicate (1 - (lg_sl ([.ref a0])).length) Slot.unset).toArray = ls at hl ⊢
  have hl : lv_has ls 1 [(0, .ref a0)] := hl
  refine lv_aload_n hx hb dX4_count_0 rfl (lv_at hl 0 rfl) ?_
  refine va_get (D := G) (ci := 4) (v := .int T.2.2.2) (C := RX4) (T := TX4) (N := 3) hx hb hts huX4_count_X4 hown hK.1 hP 0 rfl rfl 2 (by decide) hw0 (fun _ h9 => h9) rfl dX4_count_1 ?_
  obtain rfl := o_s h
  rw [hQ]
  exact end_i hx hb hr rfl hP hD hS dX4_count_4 hlocks
theorem hdX4_isFull : yX4_isFull.cls = RX4 ∧ yX4_isFull.cls ≠ "java/lang/invoke/MethodHandle" ∧ yX4_isFull.cls ≠ "java/lang/invoke/VarHandle" ∧ (parseMethodDescriptor yX4_isFull.desc).map (fun d => d.parameters.length) = some 0 := by decide +kernel
set_option maxHeartbeats 4000000 in
set_option maxRecDepth 100000 in
theorem cX4_isFull_ok (l : Launch) (G : va_G) (cI cG : ClassId) (a0 a1 : Nat) (T : Tab) (out : Bool) (hf : fX4_isFull T = some out) : CI l G (tyz cI cG) yX4_isFull wsX4_isFull ({ frames := 0, cells := 0, slots := 0, locals := 0 } : Room) [.ref a0] [(a0, .inr (4, [.int T.1, .ref a1, .int T.2.2.2])), (a1, .inl (cI, T.2.1, .inl T.2.2.1))] (bI out) [(a0, .inr (4, [.int T.1, .ref a1, .int T.2.2.2])), (a1, .inl (cI, T.2.1, .inl T.2.2.1))] := by
  intro sz
  refine Met.ofW (cc := cX4_isFull) (maxL := 1) (ret := (some .boolean)) (by decide) rfl ?_
  intro p e s m args below meth c s₁ B hml hv
  obtain ⟨rfl, hsz, hP, hK, hD0⟩ := hv
  have hx := B.exec
  have hb := B.bytes
  have hr := B.returns
  have hts := atoms_spec (ws := wsX4_isFull) B.pre
  have hown : s.vm.findClass RX4 = some m.cls := findClass_of_methodNamed B.named
  have hlocks := B.notSynchronized
  subst hsz
  have hD := hD0.self (sz := s.heap.size)
  generalize hAe : va_A ([(a0, .inr (4, [.int T.1, .ref a1, .int T.2.2.2])), (a1, .inl (cI, T.2.1, .inl T.2.2.1))]) s.heap.size = A at hD ⊢
  have hA : ∀ q : Nat, s.heap.size ≤ q → A q := fun q h => by rw [← hAe]; exact Or.inr h
  have hS : va_S A s.heap s.heap [] := va_S.rf
  have hw0 := hts (.fieldLink RX4 25 "SpeedTurns$Table" "rows" "I") (List.mem_of_getElem? (i := 1) rfl)
  have hw1 := hts (.fieldLink RX4 9 "SpeedTurns$Table" "columns" "I") (List.mem_of_getElem? (i := 2) rfl)
  have hw2 := hts (.fieldLink RX4 21 "SpeedTurns$Table" "cells" "[I") (List.mem_of_getElem? (i := 3) rfl)
  show W p l e ({ frames := 0, cells := 0, slots := 0, locals := 0 } : Room) s m _ below meth c s.heap [] 0 0 _ _
  refine W_genQ (fun Q hQ => ?_)
  have h := hf
  rw [fX4_isFull] at h
  have hl := lv_entry ([.ref a0]) (n := 1) (Nat.le_of_ble_eq_true rfl)
  rw [lg_entry_eq]
  generalize (lg_sl ([.ref a0]) ++ List.replicate (1 - (lg_sl ([.ref a0])).length) Slot.unset).toArray = ls at hl ⊢
  have hl : lv_has ls 1 [(0, .ref a0)] := hl
  refine lv_aload_n hx hb dX4_isFull_0 rfl (lv_at hl 0 rfl) ?_
  refine va_get (D := G) (ci := 4) (v := .int T.2.2.2) (C := RX4) (T := TX4) (N := 3) hx hb hts huX4_isFull_X4 hown hK.1 hP 0 rfl rfl 2 (by decide) hw0 (fun _ h9 => h9) rfl dX4_isFull_1 ?_
  refine lv_iconst (v := 1) hx hb dX4_isFull_4 (by decide) ?_
  refine lv_iadd hx hb dX4_isFull_5 ?_
  refine lv_aload_n hx hb dX4_isFull_6 rfl (lv_at hl 0 rfl) ?_
  refine va_get (D := G) (ci := 4) (v := .int T.1) (C := RX4) (T := TX4) (N := 3) hx hb hts huX4_isFull_X4 hown hK.1 hP 0 rfl rfl 0 (by decide) hw1 (fun _ h9 => h9) rfl dX4_isFull_7 ?_
  refine lv_imul hx hb dX4_isFull_10 ?_
  refine lv_aload_n hx hb dX4_isFull_11 rfl (lv_at hl 0 rfl) ?_
  refine va_get (D := G) (ci := 4) (v := .ref a1) (C := RX4) (T := TX4) (N := 3) hx hb hts huX4_isFull_X4 hown hK.1 hP 0 rfl rfl 1 (by decide) hw2 (fun _ h9 => h9) rfl dX4_isFull_12 ?_
  refine va_alen (v := (Int32.ofNat T.2.1)) hx hb hK.1 hP 1 0 rfl rfl rfl dX4_isFull_15 ?_
  refine lv_icmp_le (tgt := 23) hx hb dX4_isFull_16 (by decide) (fun hc => ?_) (fun hc => ?_)
  · have h := o_t h hc
    refine lv_iconst (v := 0) hx hb dX4_isFull_23 (by decide) ?_
    obtain rfl := o_s h
    rw [hQ]
    exact end_z hx hb hr rfl rfl hP hD hS dX4_isFull_24 hlocks
  · have h := o_f h hc
    refine lv_iconst (v := 1) hx hb dX4_isFull_19 (by decide) ?_
    refine lv_goto (tgt := 24) hx hb dX4_isFull_20 (by decide) ?_
    obtain rfl := o_s h
    rw [hQ]
    exact end_z hx hb hr rfl rfl hP hD hS dX4_isFull_24 hlocks
theorem hdX4_at : yX4_at.cls = RX4 ∧ yX4_at.cls ≠ "java/lang/invoke/MethodHandle" ∧ yX4_at.cls ≠ "java/lang/invoke/VarHandle" ∧ (parseMethodDescriptor yX4_at.desc).map (fun d => d.parameters.length) = some 2 := by decide +kernel
set_option maxHeartbeats 4000000 in
set_option maxRecDepth 100000 in
theorem cX4_at_ok (l : Launch) (G : va_G) (cI cG : ClassId) (a0 a1 : Nat) (T : Tab) (p1 : Int32) (p2 : Int32) (out : Int32) (hf : fX4_at T p1 p2 = some out) : CI l G (tyz cI cG) yX4_at wsX4_at ({ frames := 0, cells := 0, slots := 0, locals := 0 } : Room) [.ref a0, .int p1, .int p2] [(a0, .inr (4, [.int T.1, .ref a1, .int T.2.2.2])), (a1, .inl (cI, T.2.1, .inl T.2.2.1))] out [(a0, .inr (4, [.int T.1, .ref a1, .int T.2.2.2])), (a1, .inl (cI, T.2.1, .inl T.2.2.1))] := by
  intro sz
  refine Met.ofW (cc := cX4_at) (maxL := 4) (ret := (some .int)) (by decide) rfl ?_
  intro p e s m args below meth c s₁ B hml hv
  obtain ⟨rfl, hsz, hP, hK, hD0⟩ := hv
  have hx := B.exec
  have hb := B.bytes
  have hr := B.returns
  have hts := atoms_spec (ws := wsX4_at) B.pre
  have hown : s.vm.findClass RX4 = some m.cls := findClass_of_methodNamed B.named
  have hlocks := B.notSynchronized
  subst hsz
  have hD := hD0.self (sz := s.heap.size)
  generalize hAe : va_A ([(a0, .inr (4, [.int T.1, .ref a1, .int T.2.2.2])), (a1, .inl (cI, T.2.1, .inl T.2.2.1))]) s.heap.size = A at hD ⊢
  have hA : ∀ q : Nat, s.heap.size ≤ q → A q := fun q h => by rw [← hAe]; exact Or.inr h
  have hS : va_S A s.heap s.heap [] := va_S.rf
  have hw0 := hts (.fieldLink RX4 25 "SpeedTurns$Table" "rows" "I") (List.mem_of_getElem? (i := 1) rfl)
  have hw1 := hts (.fieldLink RX4 9 "SpeedTurns$Table" "columns" "I") (List.mem_of_getElem? (i := 2) rfl)
  have hw2 := hts (.fieldLink RX4 21 "SpeedTurns$Table" "cells" "[I") (List.mem_of_getElem? (i := 3) rfl)
  show W p l e ({ frames := 0, cells := 0, slots := 0, locals := 0 } : Room) s m _ below meth c s.heap [] 0 0 _ _
  refine W_genQ (fun Q hQ => ?_)
  have h := hf
  rw [fX4_at] at h
  have hl := lv_entry ([.ref a0, .int p1, .int p2]) (n := 4) (Nat.le_of_ble_eq_true rfl)
  rw [lg_entry_eq]
  generalize (lg_sl ([.ref a0, .int p1, .int p2]) ++ List.replicate (4 - (lg_sl ([.ref a0, .int p1, .int p2])).length) Slot.unset).toArray = ls at hl ⊢
  have hl : lv_has ls 4 [(0, .ref a0), (1, .int p1), (2, .int p2)] := hl
  refine lv_iload_n hx hb dX4_at_0 rfl (lv_at hl 1 rfl) ?_
  refine lv_if_lt (tgt := 24) hx hb dX4_at_1 (by decide) (fun hc => ?_) (fun hc => ?_)
  · have h := o_t h hc
    refine lv_iconst (v := (-1)) hx hb dX4_at_24 (by decide) ?_
    obtain rfl := o_s h
    rw [hQ]
    exact end_i hx hb hr rfl hP hD hS dX4_at_25 hlocks
  · have h := o_f h hc
    refine lv_iload_n hx hb dX4_at_4 rfl (lv_at hl 1 rfl) ?_
    refine lv_aload_n hx hb dX4_at_5 rfl (lv_at hl 0 rfl) ?_
    refine va_get (D := G) (ci := 4) (v := .int T.2.2.2) (C := RX4) (T := TX4) (N := 3) hx hb hts huX4_at_X4 hown hK.1 hP 0 rfl rfl 2 (by decide) hw0 (fun _ h9 => h9) rfl dX4_at_6 ?_
    refine lv_icmp_ge (tgt := 24) hx hb dX4_at_9 (by decide) (fun hc => ?_) (fun hc => ?_)
    · have h := o_t h hc
      refine lv_iconst (v := (-1)) hx hb dX4_at_24 (by decide) ?_
      obtain rfl := o_s h
      rw [hQ]
      exact end_i hx hb hr rfl hP hD hS dX4_at_25 hlocks
    · have h := o_f h hc
      refine lv_iload_n hx hb dX4_at_12 rfl (lv_at hl 2 rfl) ?_
      refine lv_if_lt (tgt := 24) hx hb dX4_at_13 (by decide) (fun hc => ?_) (fun hc => ?_)
      · have h := o_t h hc
        refine lv_iconst (v := (-1)) hx hb dX4_at_24 (by decide) ?_
        obtain rfl := o_s h
        rw [hQ]
        exact end_i hx hb hr rfl hP hD hS dX4_at_25 hlocks
      · have h := o_f h hc
        refine lv_iload_n hx hb dX4_at_16 rfl (lv_at hl 2 rfl) ?_
        refine lv_aload_n hx hb dX4_at_17 rfl (lv_at hl 0 rfl) ?_
        refine va_get (D := G) (ci := 4) (v := .int T.1) (C := RX4) (T := TX4) (N := 3) hx hb hts huX4_at_X4 hown hK.1 hP 0 rfl rfl 0 (by decide) hw1 (fun _ h9 => h9) rfl dX4_at_18 ?_
        refine lv_icmp_lt (tgt := 26) hx hb dX4_at_21 (by decide) (fun hc => ?_) (fun hc => ?_)
        · have h := o_t h hc
          refine lv_iload_n hx hb dX4_at_26 rfl (lv_at hl 1 rfl) ?_
          refine lv_aload_n hx hb dX4_at_27 rfl (lv_at hl 0 rfl) ?_
          refine va_get (D := G) (ci := 4) (v := .int T.1) (C := RX4) (T := TX4) (N := 3) hx hb hts huX4_at_X4 hown hK.1 hP 0 rfl rfl 0 (by decide) hw1 (fun _ h9 => h9) rfl dX4_at_28 ?_
          refine lv_imul hx hb dX4_at_31 ?_
          refine lv_iload_n hx hb dX4_at_32 rfl (lv_at hl 2 rfl) ?_
          refine lv_iadd hx hb dX4_at_33 ?_
          refine lv_istore_n (lv' := [(3, .int ((p1 * T.1) + p2)), (0, .ref a0), (1, .int p1), (2, .int p2)]) hx hb dX4_at_34 rfl hl (by decide) rfl (fun ls hl => ?_)
          refine lv_iload_n hx hb dX4_at_35 rfl (lv_at hl 0 rfl) ?_
          refine lv_aload_n hx hb dX4_at_36 rfl (lv_at hl 1 rfl) ?_
          refine va_get (D := G) (ci := 4) (v := .ref a1) (C := RX4) (T := TX4) (N := 3) hx hb hts huX4_at_X4 hown hK.1 hP 0 rfl rfl 1 (by decide) hw2 (fun _ h9 => h9) rfl dX4_at_37 ?_
          refine va_alen (v := (Int32.ofNat T.2.1)) hx hb hK.1 hP 1 0 rfl rfl rfl dX4_at_40 ?_
          refine lv_icmp_ge (tgt := 53) hx hb dX4_at_41 (by decide) (fun hc => ?_) (fun hc => ?_)
          · have h := o_t h hc
            refine lv_iconst (v := (-1)) hx hb dX4_at_53 (by decide) ?_
            obtain rfl := o_s h
            rw [hQ]
            exact end_i hx hb hr rfl hP hD hS dX4_at_54 hlocks
          · have h := o_f h hc
            refine lv_aload_n hx hb dX4_at_44 rfl (lv_at hl 1 rfl) ?_
            refine va_get (D := G) (ci := 4) (v := .ref a1) (C := RX4) (T := TX4) (N := 3) hx hb hts huX4_at_X4 hown hK.1 hP 0 rfl rfl 1 (by decide) hw2 (fun _ h9 => h9) rfl dX4_at_45 ?_
            refine lv_iload_n hx hb dX4_at_48 rfl (lv_at hl 0 rfl) ?_
            obtain ⟨hin, h⟩ := o_g h
            refine va_iald hx hb hK.1 hP 1 0 rfl rfl hin dX4_at_49 ?_
            refine lv_goto (tgt := 54) hx hb dX4_at_50 (by decide) ?_
            obtain rfl := o_s h
            rw [hQ]
            exact end_i hx hb hr rfl hP hD hS dX4_at_54 hlocks
        · have h := o_f h hc
          refine lv_iconst (v := (-1)) hx hb dX4_at_24 (by decide) ?_
          obtain rfl := o_s h
          rw [hQ]
          exact end_i hx hb hr rfl hP hD hS dX4_at_25 hlocks
theorem hdX4_put : yX4_put.cls = RX4 ∧ yX4_put.cls ≠ "java/lang/invoke/MethodHandle" ∧ yX4_put.cls ≠ "java/lang/invoke/VarHandle" ∧ (parseMethodDescriptor yX4_put.desc).map (fun d => d.parameters.length) = some 3 := by decide +kernel
set_option maxHeartbeats 4000000 in
set_option maxRecDepth 100000 in
theorem cX4_put_ok (l : Launch) (G : va_G) (cI cG : ClassId) (a0 a1 : Nat) (T : Tab) (p1 : Int32) (p2 : Int32) (p3 : Int32) (out : Tab) (hf : fX4_put T p1 p2 p3 = some out) : CV l G (tyz cI cG) yX4_put wsX4_put ({ frames := 0, cells := 0, slots := 0, locals := 0 } : Room) [.ref a0, .int p1, .int p2, .int p3] [(a0, .inr (4, [.int T.1, .ref a1, .int T.2.2.2])), (a1, .inl (cI, T.2.1, .inl T.2.2.1))] [(a0, .inr (4, [.int out.1, .ref a1, .int out.2.2.2])), (a1, .inl (cI, out.2.1, .inl out.2.2.1))] := by
  intro sz
  refine Met.ofW (cc := cX4_put) (maxL := 5) (ret := none) (by decide) rfl ?_
  intro p e s m args below meth c s₁ B hml hv
  obtain ⟨rfl, hsz, hP, hK, hD0⟩ := hv
  have hx := B.exec
  have hb := B.bytes
  have hr := B.returns
  have hts := atoms_spec (ws := wsX4_put) B.pre
  have hown : s.vm.findClass RX4 = some m.cls := findClass_of_methodNamed B.named
  have hlocks := B.notSynchronized
  subst hsz
  have hD := hD0.self (sz := s.heap.size)
  generalize hAe : va_A ([(a0, .inr (4, [.int T.1, .ref a1, .int T.2.2.2])), (a1, .inl (cI, T.2.1, .inl T.2.2.1))]) s.heap.size = A at hD ⊢
  have hA : ∀ q : Nat, s.heap.size ≤ q → A q := fun q h => by rw [← hAe]; exact Or.inr h
  have hS : va_S A s.heap s.heap [] := va_S.rf
  have hw0 := hts (.fieldLink RX4 25 "SpeedTurns$Table" "rows" "I") (List.mem_of_getElem? (i := 1) rfl)
  have hw1 := hts (.fieldLink RX4 9 "SpeedTurns$Table" "columns" "I") (List.mem_of_getElem? (i := 2) rfl)
  have hw2 := hts (.fieldLink RX4 21 "SpeedTurns$Table" "cells" "[I") (List.mem_of_getElem? (i := 3) rfl)
  show W p l e ({ frames := 0, cells := 0, slots := 0, locals := 0 } : Room) s m _ below meth c s.heap [] 0 0 _ _
  refine W_genQ (fun Q hQ => ?_)
  have h := hf
  rw [fX4_put] at h
  have hl := lv_entry ([.ref a0, .int p1, .int p2, .int p3]) (n := 5) (Nat.le_of_ble_eq_true rfl)
  rw [lg_entry_eq]
  generalize (lg_sl ([.ref a0, .int p1, .int p2, .int p3]) ++ List.replicate (5 - (lg_sl ([.ref a0, .int p1, .int p2, .int p3])).length) Slot.unset).toArray = ls at hl ⊢
  have hl : lv_has ls 5 [(0, .ref a0), (1, .int p1), (2, .int p2), (3, .int p3)] := hl
  refine lv_iload_n hx hb dX4_put_0 rfl (lv_at hl 1 rfl) ?_
  refine lv_if_lt (tgt := 24) hx hb dX4_put_1 (by decide) (fun hc => ?_) (fun hc => ?_)
  · have h := o_t h hc
    obtain rfl := o_s h
    rw [hQ]
    exact end_v hx hb hr hP hD hS dX4_put_24 hlocks
  · have h := o_f h hc
    refine lv_iload_n hx hb dX4_put_4 rfl (lv_at hl 1 rfl) ?_
    refine lv_aload_n hx hb dX4_put_5 rfl (lv_at hl 0 rfl) ?_
    refine va_get (D := G) (ci := 4) (v := .int T.2.2.2) (C := RX4) (T := TX4) (N := 3) hx hb hts huX4_put_X4 hown hK.1 hP 0 rfl rfl 2 (by decide) hw0 (fun _ h9 => h9) rfl dX4_put_6 ?_
    refine lv_icmp_ge (tgt := 24) hx hb dX4_put_9 (by decide) (fun hc => ?_) (fun hc => ?_)
    · have h := o_t h hc
      obtain rfl := o_s h
      rw [hQ]
      exact end_v hx hb hr hP hD hS dX4_put_24 hlocks
    · have h := o_f h hc
      refine lv_iload_n hx hb dX4_put_12 rfl (lv_at hl 2 rfl) ?_
      refine lv_if_lt (tgt := 24) hx hb dX4_put_13 (by decide) (fun hc => ?_) (fun hc => ?_)
      · have h := o_t h hc
        obtain rfl := o_s h
        rw [hQ]
        exact end_v hx hb hr hP hD hS dX4_put_24 hlocks
      · have h := o_f h hc
        refine lv_iload_n hx hb dX4_put_16 rfl (lv_at hl 2 rfl) ?_
        refine lv_aload_n hx hb dX4_put_17 rfl (lv_at hl 0 rfl) ?_
        refine va_get (D := G) (ci := 4) (v := .int T.1) (C := RX4) (T := TX4) (N := 3) hx hb hts huX4_put_X4 hown hK.1 hP 0 rfl rfl 0 (by decide) hw1 (fun _ h9 => h9) rfl dX4_put_18 ?_
        refine lv_icmp_lt (tgt := 25) hx hb dX4_put_21 (by decide) (fun hc => ?_) (fun hc => ?_)
        · have h := o_t h hc
          refine lv_iload_n hx hb dX4_put_25 rfl (lv_at hl 1 rfl) ?_
          refine lv_aload_n hx hb dX4_put_26 rfl (lv_at hl 0 rfl) ?_
          refine va_get (D := G) (ci := 4) (v := .int T.1) (C := RX4) (T := TX4) (N := 3) hx hb hts huX4_put_X4 hown hK.1 hP 0 rfl rfl 0 (by decide) hw1 (fun _ h9 => h9) rfl dX4_put_27 ?_
          refine lv_imul hx hb dX4_put_30 ?_
          refine lv_iload_n hx hb dX4_put_31 rfl (lv_at hl 2 rfl) ?_
          refine lv_iadd hx hb dX4_put_32 ?_
          refine lv_istore (lv' := [(4, .int ((p1 * T.1) + p2)), (0, .ref a0), (1, .int p1), (2, .int p2), (3, .int p3)]) hx hb dX4_put_33 hl (by decide) rfl (fun ls hl => ?_)
          refine lv_iload hx hb dX4_put_35 (lv_at hl 0 rfl) ?_
          refine lv_aload_n hx hb dX4_put_37 rfl (lv_at hl 1 rfl) ?_
          refine va_get (D := G) (ci := 4) (v := .ref a1) (C := RX4) (T := TX4) (N := 3) hx hb hts huX4_put_X4 hown hK.1 hP 0 rfl rfl 1 (by decide) hw2 (fun _ h9 => h9) rfl dX4_put_38 ?_
          refine va_alen (v := (Int32.ofNat T.2.1)) hx hb hK.1 hP 1 0 rfl rfl rfl dX4_put_41 ?_
          refine lv_icmp_ge (tgt := 53) hx hb dX4_put_42 (by decide) (fun hc => ?_) (fun hc => ?_)
          · have h := o_t h hc
            obtain rfl := o_s h
            rw [hQ]
            exact end_v hx hb hr hP hD hS dX4_put_53 hlocks
          · have h := o_f h hc
            refine lv_aload_n hx hb dX4_put_45 rfl (lv_at hl 1 rfl) ?_
            refine va_get (D := G) (ci := 4) (v := .ref a1) (C := RX4) (T := TX4) (N := 3) hx hb hts huX4_put_X4 hown hK.1 hP 0 rfl rfl 1 (by decide) hw2 (fun _ h9 => h9) rfl dX4_put_46 ?_
            refine lv_iload hx hb dX4_put_49 (lv_at hl 0 rfl) ?_
            refine lv_iload_n hx hb dX4_put_51 rfl (lv_at hl 4 rfl) ?_
            obtain ⟨hin, h⟩ := o_g h
            refine va_iast hx hb hK.1 hP hD hS 1 0 rfl rfl hin dX4_put_52 (fun H locs hP hD hS => ?_)
            have hP : va_P G vwCl ([(a0, .inr (4, [.int T.1, .ref a1, .int T.2.2.2])), (a1, .inl (cI, T.2.1, .inl (upd T.2.2.1 (((p1 * T.1) + p2)).toNatClampNeg p3)))]) H := hP
            have hD : va_D A ([(a0, .inr (4, [.int T.1, .ref a1, .int T.2.2.2])), (a1, .inl (cI, T.2.1, .inl (upd T.2.2.1 (((p1 * T.1) + p2)).toNatClampNeg p3)))]) := hD
            obtain rfl := o_s h
            rw [hQ]
            exact end_v hx hb hr hP hD hS dX4_put_53 hlocks
        · have h := o_f h hc
          obtain rfl := o_s h
          rw [hQ]
          exact end_v hx hb hr hP hD hS dX4_put_24 hlocks
theorem hdX4_insert : yX4_insert.cls = RX4 ∧ yX4_insert.cls ≠ "java/lang/invoke/MethodHandle" ∧ yX4_insert.cls ≠ "java/lang/invoke/VarHandle" ∧ (parseMethodDescriptor yX4_insert.desc).map (fun d => d.parameters.length) = some 1 := by decide +kernel
set_option maxHeartbeats 4000000 in
set_option maxRecDepth 100000 in
theorem cX4_insert_ok (l : Launch) (G : va_G) (cI cG : ClassId) (a0 a1 : Nat) (fu : Nat) (T : Tab) (p1 : Int32) (out : Tab) (hf : fX4_insert fu T p1 = some out) : CV l G (tyz cI cG) yX4_insert wsX4_insert ({ frames := 2, cells := 0, slots := 0, locals := 60 } : Room) [.ref a0, .int p1] [(a0, .inr (4, [.int T.1, .ref a1, .int T.2.2.2])), (a1, .inl (cI, T.2.1, .inl T.2.2.1))] [(a0, .inr (4, [.int out.1, .ref a1, .int out.2.2.2])), (a1, .inl (cI, out.2.1, .inl out.2.2.1))] := by
  intro sz
  refine Met.ofW (cc := cX4_insert) (maxL := 4) (ret := none) (by decide) rfl ?_
  intro p e s m args below meth c s₁ B hml hv
  obtain ⟨rfl, hsz, hP, hK, hD0⟩ := hv
  have hx := B.exec
  have hb := B.bytes
  have hr := B.returns
  have hts := atoms_spec (ws := wsX4_insert) B.pre
  have hown : s.vm.findClass RX4 = some m.cls := findClass_of_methodNamed B.named
  have hlocks := B.notSynchronized
  subst hsz
  have hD := hD0.self (sz := s.heap.size)
  generalize hAe : va_A ([(a0, .inr (4, [.int T.1, .ref a1, .int T.2.2.2])), (a1, .inl (cI, T.2.1, .inl T.2.2.1))]) s.heap.size = A at hD ⊢
  have hA : ∀ q : Nat, s.heap.size ≤ q → A q := fun q h => by rw [← hAe]; exact Or.inr h
  have hS : va_S A s.heap s.heap [] := va_S.rf
  have hw0 := hts (.fieldLink RX4 25 "SpeedTurns$Table" "rows" "I") (List.mem_of_getElem? (i := 1) rfl)
  have hw1 := hts (.fieldLink RX4 9 "SpeedTurns$Table" "columns" "I") (List.mem_of_getElem? (i := 2) rfl)
  have hw2 := hts (.fieldLink RX4 21 "SpeedTurns$Table" "cells" "[I") (List.mem_of_getElem? (i := 3) rfl)
  have hw3 := hts (.methodLink RX4 28 arraycopyName) (List.mem_of_getElem? (i := 4) rfl)
  have hw4 := hts (.native arraycopyName) (List.mem_of_getElem? (i := 5) rfl)
  have hw5 := hts (.static arraycopyName) (List.mem_of_getElem? (i := 6) rfl)
  have hw6 := hts (.initialized "java/lang/System") (List.mem_of_getElem? (i := 7) rfl)
  show W p l e ({ frames := 2, cells := 0, slots := 0, locals := 60 } : Room) s m _ below meth c s.heap [] 0 0 _ _
  refine W_genQ (fun Q hQ => ?_)
  have h := hf
  rw [fX4_insert] at h
  have hl := lv_entry ([.ref a0, .int p1]) (n := 4) (Nat.le_of_ble_eq_true rfl)
  rw [lg_entry_eq]
  generalize (lg_sl ([.ref a0, .int p1]) ++ List.replicate (4 - (lg_sl ([.ref a0, .int p1])).length) Slot.unset).toArray = ls at hl ⊢
  have hl : lv_has ls 4 [(0, .ref a0), (1, .int p1)] := hl
  refine lv_aload_n hx hb dX4_insert_0 rfl (lv_at hl 0 rfl) ?_
  refine va_get (D := G) (ci := 4) (v := .int T.2.2.2) (C := RX4) (T := TX4) (N := 3) hx hb hts huX4_insert_X4 hown hK.1 hP 0 rfl rfl 2 (by decide) hw0 (fun _ h9 => h9) rfl dX4_insert_1 ?_
  refine lv_aload_n hx hb dX4_insert_4 rfl (lv_at hl 0 rfl) ?_
  refine va_get (D := G) (ci := 4) (v := .int T.1) (C := RX4) (T := TX4) (N := 3) hx hb hts huX4_insert_X4 hown hK.1 hP 0 rfl rfl 0 (by decide) hw1 (fun _ h9 => h9) rfl dX4_insert_5 ?_
  refine lv_imul hx hb dX4_insert_8 ?_
  refine lv_istore_n (lv' := [(2, .int (T.2.2.2 * T.1)), (0, .ref a0), (1, .int p1)]) hx hb dX4_insert_9 rfl hl (by decide) rfl (fun ls hl => ?_)
  refine lv_iload_n hx hb dX4_insert_10 rfl (lv_at hl 2 rfl) ?_
  refine lv_if_lt (tgt := 36) hx hb dX4_insert_11 (by decide) (fun hc => ?_) (fun hc => ?_)
  · have h := o_t h hc
    obtain rfl := o_s h
    rw [hQ]
    exact end_v hx hb hr hP hD hS dX4_insert_36 hlocks
  · have h := o_f h hc
    refine lv_iload_n hx hb dX4_insert_14 rfl (lv_at hl 2 rfl) ?_
    refine lv_aload_n hx hb dX4_insert_15 rfl (lv_at hl 1 rfl) ?_
    refine va_get (D := G) (ci := 4) (v := .int T.2.2.2) (C := RX4) (T := TX4) (N := 3) hx hb hts huX4_insert_X4 hown hK.1 hP 0 rfl rfl 2 (by decide) hw0 (fun _ h9 => h9) rfl dX4_insert_16 ?_
    refine lv_icmp_gt (tgt := 36) hx hb dX4_insert_19 (by decide) (fun hc => ?_) (fun hc => ?_)
    · have h := o_t h hc
      obtain rfl := o_s h
      rw [hQ]
      exact end_v hx hb hr hP hD hS dX4_insert_36 hlocks
    · have h := o_f h hc
      refine lv_iload_n hx hb dX4_insert_22 rfl (lv_at hl 0 rfl) ?_
      refine lv_aload_n hx hb dX4_insert_23 rfl (lv_at hl 1 rfl) ?_
      refine va_get (D := G) (ci := 4) (v := .int T.1) (C := RX4) (T := TX4) (N := 3) hx hb hts huX4_insert_X4 hown hK.1 hP 0 rfl rfl 0 (by decide) hw1 (fun _ h9 => h9) rfl dX4_insert_24 ?_
      refine lv_iadd hx hb dX4_insert_27 ?_
      refine lv_aload_n hx hb dX4_insert_28 rfl (lv_at hl 1 rfl) ?_
      refine va_get (D := G) (ci := 4) (v := .ref a1) (C := RX4) (T := TX4) (N := 3) hx hb hts huX4_insert_X4 hown hK.1 hP 0 rfl rfl 1 (by decide) hw2 (fun _ h9 => h9) rfl dX4_insert_29 ?_
      refine va_alen (v := (Int32.ofNat T.2.1)) hx hb hK.1 hP 1 0 rfl rfl rfl dX4_insert_32 ?_
      refine lv_icmp_le (tgt := 37) hx hb dX4_insert_33 (by decide) (fun hc => ?_) (fun hc => ?_)
      · have h := o_t h hc
        refine lv_iload_n hx hb dX4_insert_37 rfl (lv_at hl 2 rfl) ?_
        refine lv_aload_n hx hb dX4_insert_38 rfl (lv_at hl 1 rfl) ?_
        refine va_get (D := G) (ci := 4) (v := .int T.1) (C := RX4) (T := TX4) (N := 3) hx hb hts huX4_insert_X4 hown hK.1 hP 0 rfl rfl 0 (by decide) hw1 (fun _ h9 => h9) rfl dX4_insert_39 ?_
        refine lv_imul hx hb dX4_insert_42 ?_
        refine lv_istore_n (lv' := [(3, .int (p1 * T.1)), (2, .int (T.2.2.2 * T.1)), (0, .ref a0), (1, .int p1)]) hx hb dX4_insert_43 rfl hl (by decide) rfl (fun ls hl => ?_)
        refine lv_aload_n hx hb dX4_insert_44 rfl (lv_at hl 2 rfl) ?_
        refine va_get (D := G) (ci := 4) (v := .ref a1) (C := RX4) (T := TX4) (N := 3) hx hb hts huX4_insert_X4 hown hK.1 hP 0 rfl rfl 1 (by decide) hw2 (fun _ h9 => h9) rfl dX4_insert_45 ?_
        refine lv_iload_n hx hb dX4_insert_48 rfl (lv_at hl 0 rfl) ?_
        refine lv_aload_n hx hb dX4_insert_49 rfl (lv_at hl 2 rfl) ?_
        refine va_get (D := G) (ci := 4) (v := .ref a1) (C := RX4) (T := TX4) (N := 3) hx hb hts huX4_insert_X4 hown hK.1 hP 0 rfl rfl 1 (by decide) hw2 (fun _ h9 => h9) rfl dX4_insert_50 ?_
        refine lv_iload_n hx hb dX4_insert_53 rfl (lv_at hl 0 rfl) ?_
        refine lv_aload_n hx hb dX4_insert_54 rfl (lv_at hl 2 rfl) ?_
        refine va_get (D := G) (ci := 4) (v := .int T.1) (C := RX4) (T := TX4) (N := 3) hx hb hts huX4_insert_X4 hown hK.1 hP 0 rfl rfl 0 (by decide) hw1 (fun _ h9 => h9) rfl dX4_insert_55 ?_
        refine lv_iadd hx hb dX4_insert_58 ?_
        refine lv_iload_n hx hb dX4_insert_59 rfl (lv_at hl 1 rfl) ?_
        refine lv_iload_n hx hb dX4_insert_60 rfl (lv_at hl 0 rfl) ?_
        refine lv_isub hx hb dX4_insert_61 ?_
        obtain ⟨⟨g1, g2, g3, g4, g5⟩, h⟩ := o_g h
        refine va_copyi hx hb (by rw [hml]; exact hl.1.symm) hown hw3 hw4 hw5 hw6 hK.1 hP hD hS 1 1 0 0 rfl rfl rfl rfl rfl g1 g2 g3 g4 g5 (fun _ _ => rfl) (Nat.le_of_ble_eq_true rfl) (Nat.le_of_ble_eq_true rfl) dX4_insert_62 (fun H locs hP hD hS => ?_)
        have hP : va_P G vwCl ([(a0, .inr (4, [.int T.1, .ref a1, .int T.2.2.2])), (a1, .inl (cI, T.2.1, .inl (va_cpy T.2.2.1 T.2.2.1 ((p1 * T.1)).toNatClampNeg (((p1 * T.1) + T.1)).toNatClampNeg (((T.2.2.2 * T.1) - (p1 * T.1))).toNatClampNeg)))]) H := hP
        have hD : va_D A ([(a0, .inr (4, [.int T.1, .ref a1, .int T.2.2.2])), (a1, .inl (cI, T.2.1, .inl (va_cpy T.2.2.1 T.2.2.1 ((p1 * T.1)).toNatClampNeg (((p1 * T.1) + T.1)).toNatClampNeg (((T.2.2.2 * T.1) - (p1 * T.1))).toNatClampNeg)))]) := hD
        refine lv_aload_n hx hb dX4_insert_65 rfl (lv_at hl 2 rfl) ?_
        refine va_get (D := G) (ci := 4) (v := .ref a1) (C := RX4) (T := TX4) (N := 3) hx hb hts huX4_insert_X4 hown hK.1 hP 0 rfl rfl 1 (by decide) hw2 (fun _ h9 => h9) rfl dX4_insert_66 ?_
        refine lv_iload_n hx hb dX4_insert_69 rfl (lv_at hl 0 rfl) ?_
        refine lv_iload_n hx hb dX4_insert_70 rfl (lv_at hl 0 rfl) ?_
        refine lv_aload_n hx hb dX4_insert_71 rfl (lv_at hl 2 rfl) ?_
        refine va_get (D := G) (ci := 4) (v := .int T.1) (C := RX4) (T := TX4) (N := 3) hx hb hts huX4_insert_X4 hown hK.1 hP 0 rfl rfl 0 (by decide) hw1 (fun _ h9 => h9) rfl dX4_insert_72 ?_
        refine lv_iadd hx hb dX4_insert_75 ?_
        refine lv_iconst (v := 0) hx hb dX4_insert_76 (by decide) ?_
        obtain ⟨x1, ex1, h⟩ := o_b h
        refine call_vS (As := [.ref a1, .int (p1 * T.1), .int ((p1 * T.1) + T.1), .int (0 : Int32)]) (rest := []) (ws2 := [(a0, .inr (4, [.int T.1, .ref a1, .int T.2.2.2])), (a1, .inl (cI, T.2.1, .inl x1))]) ⟨hx, hb, hml, hown, hts⟩ (cJ7_fill_fda19_ok l G cI cG a1 fu T.2.1 (va_cpy T.2.2.1 T.2.2.1 ((p1 * T.1)).toNatClampNeg (((p1 * T.1) + T.1)).toNatClampNeg (((T.2.2.2 * T.1) - (p1 * T.1))).toNatClampNeg) (p1 * T.1) ((p1 * T.1) + T.1) (0 : Int32) x1 ex1) (va_cwS 4 hts gX4_insert_J7_fill_fda19_34 rfl rfl rfl hdJ7_fill_fda19 ⟨Nat.le_of_ble_eq_true rfl, Nat.le_of_ble_eq_true rfl⟩) hP hD hS hA hK [1] rfl rfl rfl rfl rfl rfl rfl rfl hl.1 (Nat.le_of_ble_eq_true rfl) dX4_insert_77 ⟨Nat.zero_le _, Nat.zero_le _⟩ (fun H locs hP hD hS => ?_)
        refine lv_aload_n hx hb dX4_insert_80 rfl (lv_at hl 2 rfl) ?_
        refine lv_dup hx hb dX4_insert_81 rfl ?_
        refine va_get (D := G) (ci := 4) (v := .int T.2.2.2) (C := RX4) (T := TX4) (N := 3) hx hb hts huX4_insert_X4 hown hK.1 hP 0 rfl rfl 2 (by decide) hw0 (fun _ h9 => h9) rfl dX4_insert_82 ?_
        refine lv_iconst (v := 1) hx hb dX4_insert_85 (by decide) ?_
        refine lv_iadd hx hb dX4_insert_86 ?_
        refine va_put (D := G) (ci := 4) (v := .int (T.2.2.2 + (1 : Int32))) (ty := .int) (C := RX4) (T := TX4) (N := 3) hx hb hts huX4_insert_X4 tyX4 tyX4_ok nmX4 hown hK.1 hP hD hS 0 rfl rfl 2 (by decide) hw0 (fun _ h9 => h9) rfl (by decide +kernel) rfl rfl (Nat.le_of_ble_eq_true rfl) dX4_insert_87 (fun H locs hP hD hS => ?_)
        have hP : va_P G vwCl ([(a0, .inr (4, [.int T.1, .ref a1, .int (T.2.2.2 + (1 : Int32))])), (a1, .inl (cI, T.2.1, .inl x1))]) H := hP
        have hD : va_D A ([(a0, .inr (4, [.int T.1, .ref a1, .int (T.2.2.2 + (1 : Int32))])), (a1, .inl (cI, T.2.1, .inl x1))]) := hD
        obtain rfl := o_s h
        rw [hQ]
        exact end_v hx hb hr hP hD hS dX4_insert_90 hlocks
      · have h := o_f h hc
        obtain rfl := o_s h
        rw [hQ]
        exact end_v hx hb hr hP hD hS dX4_insert_36 hlocks
theorem hdX4_remove : yX4_remove.cls = RX4 ∧ yX4_remove.cls ≠ "java/lang/invoke/MethodHandle" ∧ yX4_remove.cls ≠ "java/lang/invoke/VarHandle" ∧ (parseMethodDescriptor yX4_remove.desc).map (fun d => d.parameters.length) = some 1 := by decide +kernel
set_option maxHeartbeats 4000000 in
set_option maxRecDepth 100000 in
theorem cX4_remove_ok (l : Launch) (G : va_G) (cI cG : ClassId) (a0 a1 : Nat) (T : Tab) (p1 : Int32) (out : Tab) (hf : fX4_remove T p1 = some out) : CV l G (tyz cI cG) yX4_remove wsX4_remove ({ frames := 1, cells := 0, slots := 0, locals := 60 } : Room) [.ref a0, .int p1] [(a0, .inr (4, [.int T.1, .ref a1, .int T.2.2.2])), (a1, .inl (cI, T.2.1, .inl T.2.2.1))] [(a0, .inr (4, [.int out.1, .ref a1, .int out.2.2.2])), (a1, .inl (cI, out.2.1, .inl out.2.2.1))] := by
  intro sz
  refine Met.ofW (cc := cX4_remove) (maxL := 4) (ret := none) (by decide) rfl ?_
  intro p e s m args below meth c s₁ B hml hv
  obtain ⟨rfl, hsz, hP, hK, hD0⟩ := hv
  have hx := B.exec
  have hb := B.bytes
  have hr := B.returns
  have hts := atoms_spec (ws := wsX4_remove) B.pre
  have hown : s.vm.findClass RX4 = some m.cls := findClass_of_methodNamed B.named
  have hlocks := B.notSynchronized
  subst hsz
  have hD := hD0.self (sz := s.heap.size)
  generalize hAe : va_A ([(a0, .inr (4, [.int T.1, .ref a1, .int T.2.2.2])), (a1, .inl (cI, T.2.1, .inl T.2.2.1))]) s.heap.size = A at hD ⊢
  have hA : ∀ q : Nat, s.heap.size ≤ q → A q := fun q h => by rw [← hAe]; exact Or.inr h
  have hS : va_S A s.heap s.heap [] := va_S.rf
  have hw0 := hts (.fieldLink RX4 25 "SpeedTurns$Table" "rows" "I") (List.mem_of_getElem? (i := 1) rfl)
  have hw1 := hts (.fieldLink RX4 9 "SpeedTurns$Table" "columns" "I") (List.mem_of_getElem? (i := 2) rfl)
  have hw2 := hts (.fieldLink RX4 21 "SpeedTurns$Table" "cells" "[I") (List.mem_of_getElem? (i := 3) rfl)
  have hw3 := hts (.methodLink RX4 28 arraycopyName) (List.mem_of_getElem? (i := 4) rfl)
  have hw4 := hts (.native arraycopyName) (List.mem_of_getElem? (i := 5) rfl)
  have hw5 := hts (.static arraycopyName) (List.mem_of_getElem? (i := 6) rfl)
  have hw6 := hts (.initialized "java/lang/System") (List.mem_of_getElem? (i := 7) rfl)
  show W p l e ({ frames := 1, cells := 0, slots := 0, locals := 60 } : Room) s m _ below meth c s.heap [] 0 0 _ _
  refine W_genQ (fun Q hQ => ?_)
  have h := hf
  rw [fX4_remove] at h
  have hl := lv_entry ([.ref a0, .int p1]) (n := 4) (Nat.le_of_ble_eq_true rfl)
  rw [lg_entry_eq]
  generalize (lg_sl ([.ref a0, .int p1]) ++ List.replicate (4 - (lg_sl ([.ref a0, .int p1])).length) Slot.unset).toArray = ls at hl ⊢
  have hl : lv_has ls 4 [(0, .ref a0), (1, .int p1)] := hl
  refine lv_aload_n hx hb dX4_remove_0 rfl (lv_at hl 0 rfl) ?_
  refine va_get (D := G) (ci := 4) (v := .int T.2.2.2) (C := RX4) (T := TX4) (N := 3) hx hb hts huX4_remove_X4 hown hK.1 hP 0 rfl rfl 2 (by decide) hw0 (fun _ h9 => h9) rfl dX4_remove_1 ?_
  refine lv_aload_n hx hb dX4_remove_4 rfl (lv_at hl 0 rfl) ?_
  refine va_get (D := G) (ci := 4) (v := .int T.1) (C := RX4) (T := TX4) (N := 3) hx hb hts huX4_remove_X4 hown hK.1 hP 0 rfl rfl 0 (by decide) hw1 (fun _ h9 => h9) rfl dX4_remove_5 ?_
  refine lv_imul hx hb dX4_remove_8 ?_
  refine lv_istore_n (lv' := [(2, .int (T.2.2.2 * T.1)), (0, .ref a0), (1, .int p1)]) hx hb dX4_remove_9 rfl hl (by decide) rfl (fun ls hl => ?_)
  refine lv_iload_n hx hb dX4_remove_10 rfl (lv_at hl 2 rfl) ?_
  refine lv_if_lt (tgt := 31) hx hb dX4_remove_11 (by decide) (fun hc => ?_) (fun hc => ?_)
  · have h := o_t h hc
    obtain rfl := o_s h
    rw [hQ]
    exact end_v hx hb hr hP hD hS dX4_remove_31 hlocks
  · have h := o_f h hc
    refine lv_iload_n hx hb dX4_remove_14 rfl (lv_at hl 2 rfl) ?_
    refine lv_aload_n hx hb dX4_remove_15 rfl (lv_at hl 1 rfl) ?_
    refine va_get (D := G) (ci := 4) (v := .int T.2.2.2) (C := RX4) (T := TX4) (N := 3) hx hb hts huX4_remove_X4 hown hK.1 hP 0 rfl rfl 2 (by decide) hw0 (fun _ h9 => h9) rfl dX4_remove_16 ?_
    refine lv_icmp_ge (tgt := 31) hx hb dX4_remove_19 (by decide) (fun hc => ?_) (fun hc => ?_)
    · have h := o_t h hc
      obtain rfl := o_s h
      rw [hQ]
      exact end_v hx hb hr hP hD hS dX4_remove_31 hlocks
    · have h := o_f h hc
      refine lv_iload_n hx hb dX4_remove_22 rfl (lv_at hl 0 rfl) ?_
      refine lv_aload_n hx hb dX4_remove_23 rfl (lv_at hl 1 rfl) ?_
      refine va_get (D := G) (ci := 4) (v := .ref a1) (C := RX4) (T := TX4) (N := 3) hx hb hts huX4_remove_X4 hown hK.1 hP 0 rfl rfl 1 (by decide) hw2 (fun _ h9 => h9) rfl dX4_remove_24 ?_
      refine va_alen (v := (Int32.ofNat T.2.1)) hx hb hK.1 hP 1 0 rfl rfl rfl dX4_remove_27 ?_
      refine lv_icmp_le (tgt := 32) hx hb dX4_remove_28 (by decide) (fun hc => ?_) (fun hc => ?_)
      · have h := o_t h hc
        refine lv_iload_n hx hb dX4_remove_32 rfl (lv_at hl 2 rfl) ?_
        refine lv_iconst (v := 1) hx hb dX4_remove_33 (by decide) ?_
        refine lv_iadd hx hb dX4_remove_34 ?_
        refine lv_aload_n hx hb dX4_remove_35 rfl (lv_at hl 1 rfl) ?_
        refine va_get (D := G) (ci := 4) (v := .int T.1) (C := RX4) (T := TX4) (N := 3) hx hb hts huX4_remove_X4 hown hK.1 hP 0 rfl rfl 0 (by decide) hw1 (fun _ h9 => h9) rfl dX4_remove_36 ?_
        refine lv_imul hx hb dX4_remove_39 ?_
        refine lv_istore_n (lv' := [(3, .int ((p1 + (1 : Int32)) * T.1)), (2, .int (T.2.2.2 * T.1)), (0, .ref a0), (1, .int p1)]) hx hb dX4_remove_40 rfl hl (by decide) rfl (fun ls hl => ?_)
        refine lv_aload_n hx hb dX4_remove_41 rfl (lv_at hl 2 rfl) ?_
        refine va_get (D := G) (ci := 4) (v := .ref a1) (C := RX4) (T := TX4) (N := 3) hx hb hts huX4_remove_X4 hown hK.1 hP 0 rfl rfl 1 (by decide) hw2 (fun _ h9 => h9) rfl dX4_remove_42 ?_
        refine lv_iload_n hx hb dX4_remove_45 rfl (lv_at hl 0 rfl) ?_
        refine lv_aload_n hx hb dX4_remove_46 rfl (lv_at hl 2 rfl) ?_
        refine va_get (D := G) (ci := 4) (v := .ref a1) (C := RX4) (T := TX4) (N := 3) hx hb hts huX4_remove_X4 hown hK.1 hP 0 rfl rfl 1 (by decide) hw2 (fun _ h9 => h9) rfl dX4_remove_47 ?_
        refine lv_iload_n hx hb dX4_remove_50 rfl (lv_at hl 0 rfl) ?_
        refine lv_aload_n hx hb dX4_remove_51 rfl (lv_at hl 2 rfl) ?_
        refine va_get (D := G) (ci := 4) (v := .int T.1) (C := RX4) (T := TX4) (N := 3) hx hb hts huX4_remove_X4 hown hK.1 hP 0 rfl rfl 0 (by decide) hw1 (fun _ h9 => h9) rfl dX4_remove_52 ?_
        refine lv_isub hx hb dX4_remove_55 ?_
        refine lv_iload_n hx hb dX4_remove_56 rfl (lv_at hl 1 rfl) ?_
        refine lv_iload_n hx hb dX4_remove_57 rfl (lv_at hl 0 rfl) ?_
        refine lv_isub hx hb dX4_remove_58 ?_
        obtain ⟨⟨g1, g2, g3, g4, g5⟩, h⟩ := o_g h
        refine va_copyi hx hb (by rw [hml]; exact hl.1.symm) hown hw3 hw4 hw5 hw6 hK.1 hP hD hS 1 1 0 0 rfl rfl rfl rfl rfl g1 g2 g3 g4 g5 (fun _ _ => rfl) (Nat.le_of_ble_eq_true rfl) (Nat.le_of_ble_eq_true rfl) dX4_remove_59 (fun H locs hP hD hS => ?_)
        have hP : va_P G vwCl ([(a0, .inr (4, [.int T.1, .ref a1, .int T.2.2.2])), (a1, .inl (cI, T.2.1, .inl (va_cpy T.2.2.1 T.2.2.1 (((p1 + (1 : Int32)) * T.1)).toNatClampNeg ((((p1 + (1 : Int32)) * T.1) - T.1)).toNatClampNeg (((T.2.2.2 * T.1) - ((p1 + (1 : Int32)) * T.1))).toNatClampNeg)))]) H := hP
        have hD : va_D A ([(a0, .inr (4, [.int T.1, .ref a1, .int T.2.2.2])), (a1, .inl (cI, T.2.1, .inl (va_cpy T.2.2.1 T.2.2.1 (((p1 + (1 : Int32)) * T.1)).toNatClampNeg ((((p1 + (1 : Int32)) * T.1) - T.1)).toNatClampNeg (((T.2.2.2 * T.1) - ((p1 + (1 : Int32)) * T.1))).toNatClampNeg)))]) := hD
        refine lv_aload_n hx hb dX4_remove_62 rfl (lv_at hl 2 rfl) ?_
        refine lv_dup hx hb dX4_remove_63 rfl ?_
        refine va_get (D := G) (ci := 4) (v := .int T.2.2.2) (C := RX4) (T := TX4) (N := 3) hx hb hts huX4_remove_X4 hown hK.1 hP 0 rfl rfl 2 (by decide) hw0 (fun _ h9 => h9) rfl dX4_remove_64 ?_
        refine lv_iconst (v := 1) hx hb dX4_remove_67 (by decide) ?_
        refine lv_isub hx hb dX4_remove_68 ?_
        refine va_put (D := G) (ci := 4) (v := .int (T.2.2.2 - (1 : Int32))) (ty := .int) (C := RX4) (T := TX4) (N := 3) hx hb hts huX4_remove_X4 tyX4 tyX4_ok nmX4 hown hK.1 hP hD hS 0 rfl rfl 2 (by decide) hw0 (fun _ h9 => h9) rfl (by decide +kernel) rfl rfl (Nat.le_of_ble_eq_true rfl) dX4_remove_69 (fun H locs hP hD hS => ?_)
        have hP : va_P G vwCl ([(a0, .inr (4, [.int T.1, .ref a1, .int (T.2.2.2 - (1 : Int32))])), (a1, .inl (cI, T.2.1, .inl (va_cpy T.2.2.1 T.2.2.1 (((p1 + (1 : Int32)) * T.1)).toNatClampNeg ((((p1 + (1 : Int32)) * T.1) - T.1)).toNatClampNeg (((T.2.2.2 * T.1) - ((p1 + (1 : Int32)) * T.1))).toNatClampNeg)))]) H := hP
        have hD : va_D A ([(a0, .inr (4, [.int T.1, .ref a1, .int (T.2.2.2 - (1 : Int32))])), (a1, .inl (cI, T.2.1, .inl (va_cpy T.2.2.1 T.2.2.1 (((p1 + (1 : Int32)) * T.1)).toNatClampNeg ((((p1 + (1 : Int32)) * T.1) - T.1)).toNatClampNeg (((T.2.2.2 * T.1) - ((p1 + (1 : Int32)) * T.1))).toNatClampNeg)))]) := hD
        obtain rfl := o_s h
        rw [hQ]
        exact end_v hx hb hr hP hD hS dX4_remove_72 hlocks
      · have h := o_f h hc
        obtain rfl := o_s h
        rw [hQ]
        exact end_v hx hb hr hP hD hS dX4_remove_31 hlocks
theorem hdX4_clear : yX4_clear.cls = RX4 ∧ yX4_clear.cls ≠ "java/lang/invoke/MethodHandle" ∧ yX4_clear.cls ≠ "java/lang/invoke/VarHandle" ∧ (parseMethodDescriptor yX4_clear.desc).map (fun d => d.parameters.length) = some 0 := by decide +kernel
set_option maxHeartbeats 4000000 in
set_option maxRecDepth 100000 in
theorem cX4_clear_ok (l : Launch) (G : va_G) (cI cG : ClassId) (a0 a1 : Nat) (T : Tab) (out : Tab) (hf : fX4_clear T = some out) : CV l G (tyz cI cG) yX4_clear wsX4_clear ({ frames := 0, cells := 0, slots := 0, locals := 0 } : Room) [.ref a0] [(a0, .inr (4, [.int T.1, .ref a1, .int T.2.2.2])), (a1, .inl (cI, T.2.1, .inl T.2.2.1))] [(a0, .inr (4, [.int out.1, .ref a1, .int out.2.2.2])), (a1, .inl (cI, out.2.1, .inl out.2.2.1))] := by
  intro sz
  refine Met.ofW (cc := cX4_clear) (maxL := 1) (ret := none) (by decide) rfl ?_
  intro p e s m args below meth c s₁ B hml hv
  obtain ⟨rfl, hsz, hP, hK, hD0⟩ := hv
  have hx := B.exec
  have hb := B.bytes
  have hr := B.returns
  have hts := atoms_spec (ws := wsX4_clear) B.pre
  have hown : s.vm.findClass RX4 = some m.cls := findClass_of_methodNamed B.named
  have hlocks := B.notSynchronized
  subst hsz
  have hD := hD0.self (sz := s.heap.size)
  generalize hAe : va_A ([(a0, .inr (4, [.int T.1, .ref a1, .int T.2.2.2])), (a1, .inl (cI, T.2.1, .inl T.2.2.1))]) s.heap.size = A at hD ⊢
  have hA : ∀ q : Nat, s.heap.size ≤ q → A q := fun q h => by rw [← hAe]; exact Or.inr h
  have hS : va_S A s.heap s.heap [] := va_S.rf
  have hw0 := hts (.fieldLink RX4 25 "SpeedTurns$Table" "rows" "I") (List.mem_of_getElem? (i := 1) rfl)
  show W p l e ({ frames := 0, cells := 0, slots := 0, locals := 0 } : Room) s m _ below meth c s.heap [] 0 0 _ _
  refine W_genQ (fun Q hQ => ?_)
  have h := hf
  rw [fX4_clear] at h
  have hl := lv_entry ([.ref a0]) (n := 1) (Nat.le_of_ble_eq_true rfl)
  rw [lg_entry_eq]
  generalize (lg_sl ([.ref a0]) ++ List.replicate (1 - (lg_sl ([.ref a0])).length) Slot.unset).toArray = ls at hl ⊢
  have hl : lv_has ls 1 [(0, .ref a0)] := hl
  refine lv_aload_n hx hb dX4_clear_0 rfl (lv_at hl 0 rfl) ?_
  refine lv_iconst (v := 0) hx hb dX4_clear_1 (by decide) ?_
  refine va_put (D := G) (ci := 4) (v := .int (0 : Int32)) (ty := .int) (C := RX4) (T := TX4) (N := 3) hx hb hts huX4_clear_X4 tyX4 tyX4_ok nmX4 hown hK.1 hP hD hS 0 rfl rfl 2 (by decide) hw0 (fun _ h9 => h9) rfl (by decide +kernel) rfl rfl (Nat.le_of_ble_eq_true rfl) dX4_clear_2 (fun H locs hP hD hS => ?_)
  have hP : va_P G vwCl ([(a0, .inr (4, [.int T.1, .ref a1, .int (0 : Int32)])), (a1, .inl (cI, T.2.1, .inl T.2.2.1))]) H := hP
  have hD : va_D A ([(a0, .inr (4, [.int T.1, .ref a1, .int (0 : Int32)])), (a1, .inl (cI, T.2.1, .inl T.2.2.1))]) := hD
  obtain rfl := o_s h
  rw [hQ]
  exact end_v hx hb hr hP hD hS dX4_clear_5 hlocks
theorem hdX4_copyFrom : yX4_copyFrom.cls = RX4 ∧ yX4_copyFrom.cls ≠ "java/lang/invoke/MethodHandle" ∧ yX4_copyFrom.cls ≠ "java/lang/invoke/VarHandle" ∧ (parseMethodDescriptor yX4_copyFrom.desc).map (fun d => d.parameters.length) = some 1 := by decide +kernel
set_option maxHeartbeats 4000000 in
set_option maxRecDepth 100000 in
theorem cX4_copyFrom_ok (l : Launch) (G : va_G) (cI cG : ClassId) (a0 a1 b0 b1 : Nat) (T : Tab) (o_T : Tab) (out : Tab) (hf : fX4_copyFrom T o_T = some out) : CV l G (tyz cI cG) yX4_copyFrom wsX4_copyFrom ({ frames := 1, cells := 0, slots := 0, locals := 60 } : Room) [.ref a0, .ref b0] [(a0, .inr (4, [.int T.1, .ref a1, .int T.2.2.2])), (a1, .inl (cI, T.2.1, .inl T.2.2.1)), (b0, .inr (4, [.int o_T.1, .ref b1, .int o_T.2.2.2])), (b1, .inl (cI, o_T.2.1, .inl o_T.2.2.1))] [(a0, .inr (4, [.int out.1, .ref a1, .int out.2.2.2])), (a1, .inl (cI, out.2.1, .inl out.2.2.1)), (b0, .inr (4, [.int o_T.1, .ref b1, .int o_T.2.2.2])), (b1, .inl (cI, o_T.2.1, .inl o_T.2.2.1))] := by
  intro sz
  refine Met.ofW (cc := cX4_copyFrom) (maxL := 2) (ret := none) (by decide) rfl ?_
  intro p e s m args below meth c s₁ B hml hv
  obtain ⟨rfl, hsz, hP, hK, hD0⟩ := hv
  have hx := B.exec
  have hb := B.bytes
  have hr := B.returns
  have hts := atoms_spec (ws := wsX4_copyFrom) B.pre
  have hown : s.vm.findClass RX4 = some m.cls := findClass_of_methodNamed B.named
  have hlocks := B.notSynchronized
  subst hsz
  have hD := hD0.self (sz := s.heap.size)
  generalize hAe : va_A ([(a0, .inr (4, [.int T.1, .ref a1, .int T.2.2.2])), (a1, .inl (cI, T.2.1, .inl T.2.2.1)), (b0, .inr (4, [.int o_T.1, .ref b1, .int o_T.2.2.2])), (b1, .inl (cI, o_T.2.1, .inl o_T.2.2.1))]) s.heap.size = A at hD ⊢
  have hA : ∀ q : Nat, s.heap.size ≤ q → A q := fun q h => by rw [← hAe]; exact Or.inr h
  have hS : va_S A s.heap s.heap [] := va_S.rf
  have hw0 := hts (.fieldLink RX4 25 "SpeedTurns$Table" "rows" "I") (List.mem_of_getElem? (i := 1) rfl)
  have hw1 := hts (.fieldLink RX4 21 "SpeedTurns$Table" "cells" "[I") (List.mem_of_getElem? (i := 2) rfl)
  have hw2 := hts (.methodLink RX4 40 Lib.Math.min.name) (List.mem_of_getElem? (i := 3) rfl)
  have hw3 := hts (.static Lib.Math.min.name) (List.mem_of_getElem? (i := 4) rfl)
  have hw4 := hts (.initialized "java/lang/Math") (List.mem_of_getElem? (i := 5) rfl)
  have hw5 := hts (.code Lib.Math.min.name Lib.Math.min.code 2 (some .int)) (List.mem_of_getElem? (i := 6) rfl)
  have hw6 := hts (.methodLink RX4 28 arraycopyName) (List.mem_of_getElem? (i := 7) rfl)
  have hw7 := hts (.native arraycopyName) (List.mem_of_getElem? (i := 8) rfl)
  have hw8 := hts (.static arraycopyName) (List.mem_of_getElem? (i := 9) rfl)
  have hw9 := hts (.initialized "java/lang/System") (List.mem_of_getElem? (i := 10) rfl)
  show W p l e ({ frames := 1, cells := 0, slots := 0, locals := 60 } : Room) s m _ below meth c s.heap [] 0 0 _ _
  refine W_genQ (fun Q hQ => ?_)
  have h := hf
  rw [fX4_copyFrom] at h
  have hl := lv_entry ([.ref a0, .ref b0]) (n := 2) (Nat.le_of_ble_eq_true rfl)
  rw [lg_entry_eq]
  generalize (lg_sl ([.ref a0, .ref b0]) ++ List.replicate (2 - (lg_sl ([.ref a0, .ref b0])).length) Slot.unset).toArray = ls at hl ⊢
  have hl : lv_has ls 2 [(0, .ref a0), (1, .ref b0)] := hl
  refine lv_aload_n hx hb dX4_copyFrom_0 rfl (lv_at hl 0 rfl) ?_
  refine lv_aload_n hx hb dX4_copyFrom_1 rfl (lv_at hl 1 rfl) ?_
  refine va_get (D := G) (ci := 4) (v := .int o_T.2.2.2) (C := RX4) (T := TX4) (N := 3) hx hb hts huX4_copyFrom_X4 hown hK.1 hP 2 rfl rfl 2 (by decide) hw0 (fun _ h9 => h9) rfl dX4_copyFrom_2 ?_
  refine va_put (D := G) (ci := 4) (v := .int o_T.2.2.2) (ty := .int) (C := RX4) (T := TX4) (N := 3) hx hb hts huX4_copyFrom_X4 tyX4 tyX4_ok nmX4 hown hK.1 hP hD hS 0 rfl rfl 2 (by decide) hw0 (fun _ h9 => h9) rfl (by decide +kernel) rfl rfl (Nat.le_of_ble_eq_true rfl) dX4_copyFrom_5 (fun H locs hP hD hS => ?_)
  have hP : va_P G vwCl ([(a0, .inr (4, [.int T.1, .ref a1, .int o_T.2.2.2])), (a1, .inl (cI, T.2.1, .inl T.2.2.1)), (b0, .inr (4, [.int o_T.1, .ref b1, .int o_T.2.2.2])), (b1, .inl (cI, o_T.2.1, .inl o_T.2.2.1))]) H := hP
  have hD : va_D A ([(a0, .inr (4, [.int T.1, .ref a1, .int o_T.2.2.2])), (a1, .inl (cI, T.2.1, .inl T.2.2.1)), (b0, .inr (4, [.int o_T.1, .ref b1, .int o_T.2.2.2])), (b1, .inl (cI, o_T.2.1, .inl o_T.2.2.1))]) := hD
  refine lv_aload_n hx hb dX4_copyFrom_8 rfl (lv_at hl 1 rfl) ?_
  refine va_get (D := G) (ci := 4) (v := .ref b1) (C := RX4) (T := TX4) (N := 3) hx hb hts huX4_copyFrom_X4 hown hK.1 hP 2 rfl rfl 1 (by decide) hw1 (fun _ h9 => h9) rfl dX4_copyFrom_9 ?_
  refine lv_iconst (v := 0) hx hb dX4_copyFrom_12 (by decide) ?_
  refine lv_aload_n hx hb dX4_copyFrom_13 rfl (lv_at hl 0 rfl) ?_
  refine va_get (D := G) (ci := 4) (v := .ref a1) (C := RX4) (T := TX4) (N := 3) hx hb hts huX4_copyFrom_X4 hown hK.1 hP 0 rfl rfl 1 (by decide) hw1 (fun _ h9 => h9) rfl dX4_copyFrom_14 ?_
  refine lv_iconst (v := 0) hx hb dX4_copyFrom_17 (by decide) ?_
  refine lv_aload_n hx hb dX4_copyFrom_18 rfl (lv_at hl 1 rfl) ?_
  refine va_get (D := G) (ci := 4) (v := .ref b1) (C := RX4) (T := TX4) (N := 3) hx hb hts huX4_copyFrom_X4 hown hK.1 hP 2 rfl rfl 1 (by decide) hw1 (fun _ h9 => h9) rfl dX4_copyFrom_19 ?_
  refine va_alen (v := (Int32.ofNat o_T.2.1)) hx hb hK.1 hP 3 0 rfl rfl rfl dX4_copyFrom_22 ?_
  refine lv_aload_n hx hb dX4_copyFrom_23 rfl (lv_at hl 0 rfl) ?_
  refine va_get (D := G) (ci := 4) (v := .ref a1) (C := RX4) (T := TX4) (N := 3) hx hb hts huX4_copyFrom_X4 hown hK.1 hP 0 rfl rfl 1 (by decide) hw1 (fun _ h9 => h9) rfl dX4_copyFrom_24 ?_
  refine va_alen (v := (Int32.ofNat T.2.1)) hx hb hK.1 hP 1 0 rfl rfl rfl dX4_copyFrom_27 ?_
  refine va_mmin hx hb (by rw [hml]; exact hl.1.symm) hown hw2 hw3 hw4 hw5 (Nat.le_of_ble_eq_true rfl) (Nat.le_of_ble_eq_true rfl) (Nat.zero_le _) (Nat.zero_le _) dX4_copyFrom_28 ?_
  obtain ⟨⟨g1, g2, g3, g4, g5⟩, h⟩ := o_g h
  refine va_copyi hx hb (by rw [hml]; exact hl.1.symm) hown hw6 hw7 hw8 hw9 hK.1 hP hD hS 3 1 0 0 rfl rfl rfl rfl rfl g1 g2 g3 g4 g5 (fun _ _ => rfl) (Nat.le_of_ble_eq_true rfl) (Nat.le_of_ble_eq_true rfl) dX4_copyFrom_31 (fun H locs hP hD hS => ?_)
  have hP : va_P G vwCl ([(a0, .inr (4, [.int T.1, .ref a1, .int o_T.2.2.2])), (a1, .inl (cI, T.2.1, .inl (va_cpy o_T.2.2.1 T.2.2.1 ((0 : Int32)).toNatClampNeg ((0 : Int32)).toNatClampNeg ((if (Int32.ofNat T.2.1) < (Int32.ofNat o_T.2.1) then (Int32.ofNat T.2.1) else (Int32.ofNat o_T.2.1))).toNatClampNeg))), (b0, .inr (4, [.int o_T.1, .ref b1, .int o_T.2.2.2])), (b1, .inl (cI, o_T.2.1, .inl o_T.2.2.1))]) H := hP
  have hD : va_D A ([(a0, .inr (4, [.int T.1, .ref a1, .int o_T.2.2.2])), (a1, .inl (cI, T.2.1, .inl (va_cpy o_T.2.2.1 T.2.2.1 ((0 : Int32)).toNatClampNeg ((0 : Int32)).toNatClampNeg ((if (Int32.ofNat T.2.1) < (Int32.ofNat o_T.2.1) then (Int32.ofNat T.2.1) else (Int32.ofNat o_T.2.1))).toNatClampNeg))), (b0, .inr (4, [.int o_T.1, .ref b1, .int o_T.2.2.2])), (b1, .inl (cI, o_T.2.1, .inl o_T.2.2.1))]) := hD
  obtain rfl := o_s h
  rw [hQ]
  exact end_v hx hb hr hP hD hS dX4_copyFrom_34 hlocks
