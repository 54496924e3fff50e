theorem hdX2_size : yX2_size.cls = RX2 ∧ yX2_size.cls ≠ "java/lang/invoke/MethodHandle" ∧ yX2_size.cls ≠ "java/lang/invoke/VarHandle" ∧ (parseMethodDescriptor yX2_size.desc).map (fun d => d.parameters.length) = some 0 := by decide +kernel
set_option maxHeartbeats 4000000 in
set_option maxRecDepth 100000 in
theorem cX2_size_ok (l : Launch) (G : va_G) (cI cG : ClassId) (a : Nat → Nat) (yc : Int32) (yp : (Nat → Nat)) (yg : (Nat → GV)) (out : Int32) (hf : fX2_size yc = some out) : CI l G (tyz cI cG) yX2_size wsX2_size ({ frames := 0, cells := 0, slots := 0, locals := 0 } : Room) [.ref (a 0)] (([wH cI cG a yc yp yg] : List va_W).flatten) out (([wH cI cG a yc yp yg] : List va_W).flatten) := by
  intro sz
  refine Met.ofW (cc := cX2_size) (maxL := 1) (ret := (some .int)) (by decide) rfl ?_
  intro p e s m args below meth c s₁ B hml hv
  obtain ⟨rfl, hsz, hP, hK, hD0⟩ := hv
  have hx := B.exec
  have hb := B.bytes
  have hr := B.returns
  have hts := atoms_spec (ws := wsX2_size) B.pre
  have hown : s.vm.findClass RX2 = some m.cls := findClass_of_methodNamed B.named
  have hlocks := B.notSynchronized
  subst hsz
  have hD := hD0.self (sz := s.heap.size)
  generalize hAe : va_A (([wH cI cG a yc yp yg] : List va_W).flatten) s.heap.size = A at hD ⊢
  have hA : ∀ q : Nat, s.heap.size ≤ q → A q := fun q h => by rw [← hAe]; exact Or.inr h
  have hS : va_S A s.heap s.heap [] := va_S.rf
  have hP : va_P G vwCl (([[((a 0), .inr (2, [.ref (a 1), .int yc]))], [((a 1), .inl (cG, 4, .inr (.inr (.inr (.inr (hRefs (a 2) (a 12) (a 22) (a 32) yp))))))], wGV cI (a 2) (a 3) (a 4) (a 5) (a 6) (a 7) (a 8) (a 9) (a 10) (a 11) (yg 0), wGV cI (a 12) (a 13) (a 14) (a 15) (a 16) (a 17) (a 18) (a 19) (a 20) (a 21) (yg 1), wGV cI (a 22) (a 23) (a 24) (a 25) (a 26) (a 27) (a 28) (a 29) (a 30) (a 31) (yg 2), wGV cI (a 32) (a 33) (a 34) (a 35) (a 36) (a 37) (a 38) (a 39) (a 40) (a 41) (yg 3)] : List va_W).flatten) s.heap := hP
  have hD : va_D A (([[((a 0), .inr (2, [.ref (a 1), .int yc]))], [((a 1), .inl (cG, 4, .inr (.inr (.inr (.inr (hRefs (a 2) (a 12) (a 22) (a 32) yp))))))], wGV cI (a 2) (a 3) (a 4) (a 5) (a 6) (a 7) (a 8) (a 9) (a 10) (a 11) (yg 0), wGV cI (a 12) (a 13) (a 14) (a 15) (a 16) (a 17) (a 18) (a 19) (a 20) (a 21) (yg 1), wGV cI (a 22) (a 23) (a 24) (a 25) (a 26) (a 27) (a 28) (a 29) (a 30) (a 31) (yg 2), wGV cI (a 32) (a 33) (a 34) (a 35) (a 36) (a 37) (a 38) (a 39) (a 40) (a 41) (yg 3)] : List va_W).flatten) := hD
  have hw0 := hts (.fieldLink RX2 18 "SpeedTurns$History" "count" "I") (List.mem_of_getElem? (i := 1) rfl)
  show W p l e ({ frames := 0, cells := 0, slots := 0, locals := 0 } : Room) s m _ below meth c s.heap [] 0 0 _ _
  refine W_genQ (fun Q hQ => ?_)
  have h := hf
  rw [fX2_size] at h
  have hl := lv_entry ([.ref (a 0)]) (n := 1) (Nat.le_of_ble_eq_true rfl)
  rw [lg_entry_eq]
  generalize (lg_sl ([.ref (a 0)]) ++ List.replicate (1 - (lg_sl ([.ref (a 0)])).length) Slot.unset).toArray = ls at hl ⊢
  have hl : lv_has ls 1 [(0, .ref (a 0))] := hl
  refine lv_aload_n hx hb dX2_size_0 rfl (lv_at hl 0 rfl) ?_
  refine va_get (D := G) (ci := 2) (v := .int yc) (C := RX2) (T := TX2) (N := 2) hx hb hts huX2_size_X2 hown hK.1 hP 0 rfl rfl 1 (by decide) hw0 (fun _ h9 => h9) rfl dX2_size_1 ?_
  obtain rfl := o_s h
  rw [hQ]
  exact end_i hx hb hr rfl hP hD hS dX2_size_4 hlocks
theorem hdX2_slotAt : yX2_slotAt.cls = RX2 ∧ yX2_slotAt.cls ≠ "java/lang/invoke/MethodHandle" ∧ yX2_slotAt.cls ≠ "java/lang/invoke/VarHandle" ∧ (parseMethodDescriptor yX2_slotAt.desc).map (fun d => d.parameters.length) = some 1 := by decide +kernel
set_option maxHeartbeats 4000000 in
set_option maxRecDepth 100000 in
theorem cX2_slotAt_ok (l : Launch) (G : va_G) (cI cG : ClassId) (a : Nat → Nat) (yc : Int32) (yp : (Nat → Nat)) (yg : (Nat → GV)) (p1 : Int32) (out : Nat) (hf : fX2_slotAt yp p1 = some out) : CR l G (tyz cI cG) yX2_slotAt wsX2_slotAt ({ frames := 0, cells := 0, slots := 0, locals := 0 } : Room) [.ref (a 0), .int p1] (([wH cI cG a yc yp yg] : List va_W).flatten) (adr4 (a 2) (a 12) (a 22) (a 32) out) (([wH cI cG a yc yp yg] : List va_W).flatten) := by
  intro sz
  refine Met.ofW (cc := cX2_slotAt) (maxL := 2) (ret := (some (.object "SpeedTurns$Game"))) (by decide) rfl ?_
  intro p e s m args below meth c s₁ B hml hv
  obtain ⟨rfl, hsz, hP, hK, hD0⟩ := hv
  have hx := B.exec
  have hb := B.bytes
  have hr := B.returns
  have hts := atoms_spec (ws := wsX2_slotAt) B.pre
  have hown : s.vm.findClass RX2 = some m.cls := findClass_of_methodNamed B.named
  have hlocks := B.notSynchronized
  subst hsz
  have hD := hD0.self (sz := s.heap.size)
  generalize hAe : va_A (([wH cI cG a yc yp yg] : List va_W).flatten) s.heap.size = A at hD ⊢
  have hA : ∀ q : Nat, s.heap.size ≤ q → A q := fun q h => by rw [← hAe]; exact Or.inr h
  have hS : va_S A s.heap s.heap [] := va_S.rf
  have hP : va_P G vwCl (([[((a 0), .inr (2, [.ref (a 1), .int yc]))], [((a 1), .inl (cG, 4, .inr (.inr (.inr (.inr (hRefs (a 2) (a 12) (a 22) (a 32) yp))))))], wGV cI (a 2) (a 3) (a 4) (a 5) (a 6) (a 7) (a 8) (a 9) (a 10) (a 11) (yg 0), wGV cI (a 12) (a 13) (a 14) (a 15) (a 16) (a 17) (a 18) (a 19) (a 20) (a 21) (yg 1), wGV cI (a 22) (a 23) (a 24) (a 25) (a 26) (a 27) (a 28) (a 29) (a 30) (a 31) (yg 2), wGV cI (a 32) (a 33) (a 34) (a 35) (a 36) (a 37) (a 38) (a 39) (a 40) (a 41) (yg 3)] : List va_W).flatten) s.heap := hP
  have hD : va_D A (([[((a 0), .inr (2, [.ref (a 1), .int yc]))], [((a 1), .inl (cG, 4, .inr (.inr (.inr (.inr (hRefs (a 2) (a 12) (a 22) (a 32) yp))))))], wGV cI (a 2) (a 3) (a 4) (a 5) (a 6) (a 7) (a 8) (a 9) (a 10) (a 11) (yg 0), wGV cI (a 12) (a 13) (a 14) (a 15) (a 16) (a 17) (a 18) (a 19) (a 20) (a 21) (yg 1), wGV cI (a 22) (a 23) (a 24) (a 25) (a 26) (a 27) (a 28) (a 29) (a 30) (a 31) (yg 2), wGV cI (a 32) (a 33) (a 34) (a 35) (a 36) (a 37) (a 38) (a 39) (a 40) (a 41) (yg 3)] : List va_W).flatten) := hD
  have hw0 := hts (.fieldLink RX2 11 "SpeedTurns$History" "saved" "[LSpeedTurns$Game;") (List.mem_of_getElem? (i := 1) rfl)
  show W p l e ({ frames := 0, cells := 0, slots := 0, locals := 0 } : Room) s m _ below meth c s.heap [] 0 0 _ _
  refine W_genQ (fun Q hQ => ?_)
  have h := hf
  rw [fX2_slotAt] at h
  have hl := lv_entry ([.ref (a 0), .int p1]) (n := 2) (Nat.le_of_ble_eq_true rfl)
  rw [lg_entry_eq]
  generalize (lg_sl ([.ref (a 0), .int p1]) ++ List.replicate (2 - (lg_sl ([.ref (a 0), .int p1])).length) Slot.unset).toArray = ls at hl ⊢
  have hl : lv_has ls 2 [(0, .ref (a 0)), (1, .int p1)] := hl
  refine lv_iload_n hx hb dX2_slotAt_0 rfl (lv_at hl 1 rfl) ?_
  refine lv_if_lt (tgt := 22) hx hb dX2_slotAt_1 (by decide) (fun hc => ?_) (fun hc => ?_)
  · have h := o_t h hc
    exact o_n h
  · have h := o_f h hc
    refine lv_iload_n hx hb dX2_slotAt_4 rfl (lv_at hl 1 rfl) ?_
    refine lv_aload_n hx hb dX2_slotAt_5 rfl (lv_at hl 0 rfl) ?_
    refine va_get (D := G) (ci := 2) (v := .ref (a 1)) (C := RX2) (T := TX2) (N := 2) hx hb hts huX2_slotAt_X2 hown hK.1 hP 0 rfl rfl 0 (by decide) hw0 (fun _ h9 => h9) rfl dX2_slotAt_6 ?_
    refine va_alen (v := (Int32.ofNat 4)) hx hb hK.1 hP 1 1 rfl rfl rfl dX2_slotAt_9 ?_
    refine lv_icmp_ge (tgt := 22) hx hb dX2_slotAt_10 (by decide) (fun hc => ?_) (fun hc => ?_)
    · have h := o_t h hc
      exact o_n h
    · have h := o_f h hc
      refine lv_aload_n hx hb dX2_slotAt_13 rfl (lv_at hl 0 rfl) ?_
      refine va_get (D := G) (ci := 2) (v := .ref (a 1)) (C := RX2) (T := TX2) (N := 2) hx hb hts huX2_slotAt_X2 hown hK.1 hP 0 rfl rfl 0 (by decide) hw0 (fun _ h9 => h9) rfl dX2_slotAt_14 ?_
      refine lv_iload_n hx hb dX2_slotAt_17 rfl (lv_at hl 1 rfl) ?_
      obtain ⟨hin, h⟩ := o_g h
      refine va_aldq hx hb hK.1 hP 1 1 rfl rfl hin dX2_slotAt_18 ?_
      refine lv_goto (tgt := 23) hx hb dX2_slotAt_19 (by decide) ?_
      obtain rfl := o_s h
      rw [hQ]
      exact end_r hx hb hr rfl hP hD hS dX2_slotAt_23 hlocks
theorem hdX2_dropOldest : yX2_dropOldest.cls = RX2 ∧ yX2_dropOldest.cls ≠ "java/lang/invoke/MethodHandle" ∧ yX2_dropOldest.cls ≠ "java/lang/invoke/VarHandle" ∧ (parseMethodDescriptor yX2_dropOldest.desc).map (fun d => d.parameters.length) = some 0 := by decide +kernel
set_option maxHeartbeats 4000000 in
set_option maxRecDepth 100000 in
theorem cX2_dropOldest_ok (l : Launch) (G : va_G) (cI cG : ClassId) (a : Nat → Nat) (fu : Nat) (yc : Int32) (yp : (Nat → Nat)) (yg : (Nat → GV)) (out : Int32 × (Nat → Nat)) (hf : fX2_dropOldest fu yc yp = some out) : CV l G (tyz cI cG) yX2_dropOldest wsX2_dropOldest ({ frames := 1, cells := 0, slots := 0, locals := 21 } : Room) [.ref (a 0)] (([wH cI cG a yc yp yg] : List va_W).flatten) (([wH cI cG a out.1 out.2 yg] : List va_W).flatten) := by
  intro sz
  refine Met.ofW (cc := cX2_dropOldest) (maxL := 3) (ret := none) (by decide) rfl ?_
  intro p e s m args below meth c s₁ B hml hv
  obtain ⟨rfl, hsz, hP, hK, hD0⟩ := hv
  have hx := B.exec
  have hb := B.bytes
  have hr := B.returns
  have hts := atoms_spec (ws := wsX2_dropOldest) B.pre
  have hown : s.vm.findClass RX2 = some m.cls := findClass_of_methodNamed B.named
  have hlocks := B.notSynchronized
  subst hsz
  have hD := hD0.self (sz := s.heap.size)
  generalize hAe : va_A (([wH cI cG a yc yp yg] : List va_W).flatten) s.heap.size = A at hD ⊢
  have hA : ∀ q : Nat, s.heap.size ≤ q → A q := fun q h => by rw [← hAe]; exact Or.inr h
  have hS : va_S A s.heap s.heap [] := va_S.rf
  have hP : va_P G vwCl (([[((a 0), .inr (2, [.ref (a 1), .int yc]))], [((a 1), .inl (cG, 4, .inr (.inr (.inr (.inr (hRefs (a 2) (a 12) (a 22) (a 32) yp))))))], wGV cI (a 2) (a 3) (a 4) (a 5) (a 6) (a 7) (a 8) (a 9) (a 10) (a 11) (yg 0), wGV cI (a 12) (a 13) (a 14) (a 15) (a 16) (a 17) (a 18) (a 19) (a 20) (a 21) (yg 1), wGV cI (a 22) (a 23) (a 24) (a 25) (a 26) (a 27) (a 28) (a 29) (a 30) (a 31) (yg 2), wGV cI (a 32) (a 33) (a 34) (a 35) (a 36) (a 37) (a 38) (a 39) (a 40) (a 41) (yg 3)] : List va_W).flatten) s.heap := hP
  have hD : va_D A (([[((a 0), .inr (2, [.ref (a 1), .int yc]))], [((a 1), .inl (cG, 4, .inr (.inr (.inr (.inr (hRefs (a 2) (a 12) (a 22) (a 32) yp))))))], wGV cI (a 2) (a 3) (a 4) (a 5) (a 6) (a 7) (a 8) (a 9) (a 10) (a 11) (yg 0), wGV cI (a 12) (a 13) (a 14) (a 15) (a 16) (a 17) (a 18) (a 19) (a 20) (a 21) (yg 1), wGV cI (a 22) (a 23) (a 24) (a 25) (a 26) (a 27) (a 28) (a 29) (a 30) (a 31) (yg 2), wGV cI (a 32) (a 33) (a 34) (a 35) (a 36) (a 37) (a 38) (a 39) (a 40) (a 41) (yg 3)] : List va_W).flatten) := hD
  have hw0 := hts (.fieldLink RX2 11 "SpeedTurns$History" "saved" "[LSpeedTurns$Game;") (List.mem_of_getElem? (i := 5) rfl)
  have hw1 := hts (.fieldLink RX2 18 "SpeedTurns$History" "count" "I") (List.mem_of_getElem? (i := 6) rfl)
  show W p l e ({ frames := 1, cells := 0, slots := 0, locals := 21 } : Room) s m _ below meth c s.heap [] 0 0 _ _
  refine W_genQ (fun Q hQ => ?_)
  have L8 : ∀ (v1 : Nat) (k : Nat) (yp : (Nat → Nat)) (v2 : Int32) (H : Heap) (locs : List Loc) (ls : Array Slot), fX2_dropOldest_L8 fu yc v1 k yp v2 = some out → va_P G vwCl (([[((a 0), .inr (2, [.ref (a 1), .int yc]))], [((a 1), .inl (cG, 4, .inr (.inr (.inr (.inr (hRefs (a 2) (a 12) (a 22) (a 32) yp))))))], wGV cI (a 2) (a 3) (a 4) (a 5) (a 6) (a 7) (a 8) (a 9) (a 10) (a 11) (yg 0), wGV cI (a 12) (a 13) (a 14) (a 15) (a 16) (a 17) (a 18) (a 19) (a 20) (a 21) (yg 1), wGV cI (a 22) (a 23) (a 24) (a 25) (a 26) (a 27) (a 28) (a 29) (a 30) (a 31) (yg 2), wGV cI (a 32) (a 33) (a 34) (a 35) (a 36) (a 37) (a 38) (a 39) (a 40) (a 41) (yg 3)] : List va_W).flatten) H → va_D A (([[((a 0), .inr (2, [.ref (a 1), .int yc]))], [((a 1), .inl (cG, 4, .inr (.inr (.inr (.inr (hRefs (a 2) (a 12) (a 22) (a 32) yp))))))], wGV cI (a 2) (a 3) (a 4) (a 5) (a 6) (a 7) (a 8) (a 9) (a 10) (a 11) (yg 0), wGV cI (a 12) (a 13) (a 14) (a 15) (a 16) (a 17) (a 18) (a 19) (a 20) (a 21) (yg 1), wGV cI (a 22) (a 23) (a 24) (a 25) (a 26) (a 27) (a 28) (a 29) (a 30) (a 31) (yg 2), wGV cI (a 32) (a 33) (a 34) (a 35) (a 36) (a 37) (a 38) (a 39) (a 40) (a 41) (yg 3)] : List va_W).flatten) → va_S A s.heap H locs → lv_has ls 3 [(0, .ref (a 0)), (1, .ref (adr4 (a 2) (a 12) (a 22) (a 32) v1)), (2, .int v2)] → W p l e ({ frames := 1, cells := 0, slots := 0, locals := 21 } : Room) s m ([.ref (a 0)] : List Value).toArray below meth c H locs 0 0 Q (F0 m 8 ls []) := by
    intro v1 k
    induction k with
    | zero => intro yp v2 H locs ls h hP hD hS hl; rw [fX2_dropOldest_L8] at h; exact o_n h
    | succ k ih =>
      intro yp v2 H locs ls h hP hD hS hl
      rw [fX2_dropOldest_L8] at h
      refine lv_iload_n hx hb dX2_dropOldest_8 rfl (lv_at hl 2 rfl) ?_
      refine lv_aload_n hx hb dX2_dropOldest_9 rfl (lv_at hl 0 rfl) ?_
      refine va_get (D := G) (ci := 2) (v := .ref (a 1)) (C := RX2) (T := TX2) (N := 2) hx hb hts huX2_dropOldest_X2 hown hK.1 hP 0 rfl rfl 0 (by decide) hw0 (fun _ h9 => h9) rfl dX2_dropOldest_10 ?_
      refine va_alen (v := (Int32.ofNat 4)) hx hb hK.1 hP 1 1 rfl rfl rfl dX2_dropOldest_13 ?_
      refine lv_icmp_ge (tgt := 37) hx hb dX2_dropOldest_14 (by decide) (fun hc => ?_) (fun hc => ?_)
      · have h := o_t h hc
        refine lv_aload_n hx hb dX2_dropOldest_37 rfl (lv_at hl 0 rfl) ?_
        refine va_get (D := G) (ci := 2) (v := .ref (a 1)) (C := RX2) (T := TX2) (N := 2) hx hb hts huX2_dropOldest_X2 hown hK.1 hP 0 rfl rfl 0 (by decide) hw0 (fun _ h9 => h9) rfl dX2_dropOldest_38 ?_
        refine va_alen (v := (Int32.ofNat 4)) hx hb hK.1 hP 1 1 rfl rfl rfl dX2_dropOldest_41 ?_
        refine lv_if_le (tgt := 58) hx hb dX2_dropOldest_42 (by decide) (fun hc => ?_) (fun hc => ?_)
        · have h := o_t h hc
          refine lv_aload_n hx hb dX2_dropOldest_58 rfl (lv_at hl 0 rfl) ?_
          refine lv_dup hx hb dX2_dropOldest_59 rfl ?_
          refine va_get (D := G) (ci := 2) (v := .int yc) (C := RX2) (T := TX2) (N := 2) hx hb hts huX2_dropOldest_X2 hown hK.1 hP 0 rfl rfl 1 (by decide) hw1 (fun _ h9 => h9) rfl dX2_dropOldest_60 ?_
          refine lv_iconst (v := 1) hx hb dX2_dropOldest_63 (by decide) ?_
          refine lv_isub hx hb dX2_dropOldest_64 ?_
          refine va_put (D := G) (ci := 2) (v := .int (yc - (1 : Int32))) (ty := .int) (C := RX2) (T := TX2) (N := 2) hx hb hts huX2_dropOldest_X2 tyX2 tyX2_ok nmX2 hown hK.1 hP hD hS 0 rfl rfl 1 (by decide) hw1 (fun _ h9 => h9) rfl (by decide +kernel) rfl rfl (Nat.le_of_ble_eq_true rfl) dX2_dropOldest_65 (fun H locs hP hD hS => ?_)
          have hP : va_P G vwCl (([[((a 0), .inr (2, [.ref (a 1), .int (yc - (1 : Int32))]))], [((a 1), .inl (cG, 4, .inr (.inr (.inr (.inr (hRefs (a 2) (a 12) (a 22) (a 32) yp))))))], wGV cI (a 2) (a 3) (a 4) (a 5) (a 6) (a 7) (a 8) (a 9) (a 10) (a 11) (yg 0), wGV cI (a 12) (a 13) (a 14) (a 15) (a 16) (a 17) (a 18) (a 19) (a 20) (a 21) (yg 1), wGV cI (a 22) (a 23) (a 24) (a 25) (a 26) (a 27) (a 28) (a 29) (a 30) (a 31) (yg 2), wGV cI (a 32) (a 33) (a 34) (a 35) (a 36) (a 37) (a 38) (a 39) (a 40) (a 41) (yg 3)] : List va_W).flatten) H := hP
          have hD : va_D A (([[((a 0), .inr (2, [.ref (a 1), .int (yc - (1 : Int32))]))], [((a 1), .inl (cG, 4, .inr (.inr (.inr (.inr (hRefs (a 2) (a 12) (a 22) (a 32) yp))))))], wGV cI (a 2) (a 3) (a 4) (a 5) (a 6) (a 7) (a 8) (a 9) (a 10) (a 11) (yg 0), wGV cI (a 12) (a 13) (a 14) (a 15) (a 16) (a 17) (a 18) (a 19) (a 20) (a 21) (yg 1), wGV cI (a 22) (a 23) (a 24) (a 25) (a 26) (a 27) (a 28) (a 29) (a 30) (a 31) (yg 2), wGV cI (a 32) (a 33) (a 34) (a 35) (a 36) (a 37) (a 38) (a 39) (a 40) (a 41) (yg 3)] : List va_W).flatten) := hD
          obtain rfl := o_s h
          rw [hQ]
          exact end_v hx hb hr hP hD hS dX2_dropOldest_68 hlocks
        · have h := o_f h hc
          refine lv_aload_n hx hb dX2_dropOldest_45 rfl (lv_at hl 0 rfl) ?_
          refine va_get (D := G) (ci := 2) (v := .ref (a 1)) (C := RX2) (T := TX2) (N := 2) hx hb hts huX2_dropOldest_X2 hown hK.1 hP 0 rfl rfl 0 (by decide) hw0 (fun _ h9 => h9) rfl dX2_dropOldest_46 ?_
          refine lv_aload_n hx hb dX2_dropOldest_49 rfl (lv_at hl 0 rfl) ?_
          refine va_get (D := G) (ci := 2) (v := .ref (a 1)) (C := RX2) (T := TX2) (N := 2) hx hb hts huX2_dropOldest_X2 hown hK.1 hP 0 rfl rfl 0 (by decide) hw0 (fun _ h9 => h9) rfl dX2_dropOldest_50 ?_
          refine va_alen (v := (Int32.ofNat 4)) hx hb hK.1 hP 1 1 rfl rfl rfl dX2_dropOldest_53 ?_
          refine lv_iconst (v := 1) hx hb dX2_dropOldest_54 (by decide) ?_
          refine lv_isub hx hb dX2_dropOldest_55 ?_
          refine lv_aload_n hx hb dX2_dropOldest_56 rfl (lv_at hl 1 rfl) ?_
          obtain ⟨⟨hin, hk⟩, h⟩ := o_g h
          refine h_ast hx hb hK.1 hP hD hS rfl rfl rfl rfl rfl rfl hk hin dX2_dropOldest_57 (fun H locs hP hD hS => ?_)
          have hP : va_P G vwCl (([[((a 0), .inr (2, [.ref (a 1), .int yc]))], [((a 1), .inl (cG, 4, .inr (.inr (.inr (.inr (hRefs (a 2) (a 12) (a 22) (a 32) (va_up yp (((Int32.ofNat 4) - (1 : Int32))).toNatClampNeg v1)))))))], wGV cI (a 2) (a 3) (a 4) (a 5) (a 6) (a 7) (a 8) (a 9) (a 10) (a 11) (yg 0), wGV cI (a 12) (a 13) (a 14) (a 15) (a 16) (a 17) (a 18) (a 19) (a 20) (a 21) (yg 1), wGV cI (a 22) (a 23) (a 24) (a 25) (a 26) (a 27) (a 28) (a 29) (a 30) (a 31) (yg 2), wGV cI (a 32) (a 33) (a 34) (a 35) (a 36) (a 37) (a 38) (a 39) (a 40) (a 41) (yg 3)] : List va_W).flatten) H := hP
          have hD : va_D A (([[((a 0), .inr (2, [.ref (a 1), .int yc]))], [((a 1), .inl (cG, 4, .inr (.inr (.inr (.inr (hRefs (a 2) (a 12) (a 22) (a 32) (va_up yp (((Int32.ofNat 4) - (1 : Int32))).toNatClampNeg v1)))))))], wGV cI (a 2) (a 3) (a 4) (a 5) (a 6) (a 7) (a 8) (a 9) (a 10) (a 11) (yg 0), wGV cI (a 12) (a 13) (a 14) (a 15) (a 16) (a 17) (a 18) (a 19) (a 20) (a 21) (yg 1), wGV cI (a 22) (a 23) (a 24) (a 25) (a 26) (a 27) (a 28) (a 29) (a 30) (a 31) (yg 2), wGV cI (a 32) (a 33) (a 34) (a 35) (a 36) (a 37) (a 38) (a 39) (a 40) (a 41) (yg 3)] : List va_W).flatten) := hD
          refine lv_aload_n hx hb dX2_dropOldest_58 rfl (lv_at hl 0 rfl) ?_
          refine lv_dup hx hb dX2_dropOldest_59 rfl ?_
          refine va_get (D := G) (ci := 2) (v := .int yc) (C := RX2) (T := TX2) (N := 2) hx hb hts huX2_dropOldest_X2 hown hK.1 hP 0 rfl rfl 1 (by decide) hw1 (fun _ h9 => h9) rfl dX2_dropOldest_60 ?_
          refine lv_iconst (v := 1) hx hb dX2_dropOldest_63 (by decide) ?_
          refine lv_isub hx hb dX2_dropOldest_64 ?_
          refine va_put (D := G) (ci := 2) (v := .int (yc - (1 : Int32))) (ty := .int) (C := RX2) (T := TX2) (N := 2) hx hb hts huX2_dropOldest_X2 tyX2 tyX2_ok nmX2 hown hK.1 hP hD hS 0 rfl rfl 1 (by decide) hw1 (fun _ h9 => h9) rfl (by decide +kernel) rfl rfl (Nat.le_of_ble_eq_true rfl) dX2_dropOldest_65 (fun H locs hP hD hS => ?_)
          have hP : va_P G vwCl (([[((a 0), .inr (2, [.ref (a 1), .int (yc - (1 : Int32))]))], [((a 1), .inl (cG, 4, .inr (.inr (.inr (.inr (hRefs (a 2) (a 12) (a 22) (a 32) (va_up yp (((Int32.ofNat 4) - (1 : Int32))).toNatClampNeg v1)))))))], wGV cI (a 2) (a 3) (a 4) (a 5) (a 6) (a 7) (a 8) (a 9) (a 10) (a 11) (yg 0), wGV cI (a 12) (a 13) (a 14) (a 15) (a 16) (a 17) (a 18) (a 19) (a 20) (a 21) (yg 1), wGV cI (a 22) (a 23) (a 24) (a 25) (a 26) (a 27) (a 28) (a 29) (a 30) (a 31) (yg 2), wGV cI (a 32) (a 33) (a 34) (a 35) (a 36) (a 37) (a 38) (a 39) (a 40) (a 41) (yg 3)] : List va_W).flatten) H := hP
          have hD : va_D A (([[((a 0), .inr (2, [.ref (a 1), .int (yc - (1 : Int32))]))], [((a 1), .inl (cG, 4, .inr (.inr (.inr (.inr (hRefs (a 2) (a 12) (a 22) (a 32) (va_up yp (((Int32.ofNat 4) - (1 : Int32))).toNatClampNeg v1)))))))], wGV cI (a 2) (a 3) (a 4) (a 5) (a 6) (a 7) (a 8) (a 9) (a 10) (a 11) (yg 0), wGV cI (a 12) (a 13) (a 14) (a 15) (a 16) (a 17) (a 18) (a 19) (a 20) (a 21) (yg 1), wGV cI (a 22) (a 23) (a 24) (a 25) (a 26) (a 27) (a 28) (a 29) (a 30) (a 31) (yg 2), wGV cI (a 32) (a 33) (a 34) (a 35) (a 36) (a 37) (a 38) (a 39) (a 40) (a 41) (yg 3)] : List va_W).flatten) := hD
          obtain rfl := o_s h
          rw [hQ]
          exact end_v hx hb hr hP hD hS dX2_dropOldest_68 hlocks
      · have h := o_f h hc
        refine lv_aload_n hx hb dX2_dropOldest_17 rfl (lv_at hl 0 rfl) ?_
        refine va_get (D := G) (ci := 2) (v := .ref (a 1)) (C := RX2) (T := TX2) (N := 2) hx hb hts huX2_dropOldest_X2 hown hK.1 hP 0 rfl rfl 0 (by decide) hw0 (fun _ h9 => h9) rfl dX2_dropOldest_18 ?_
        refine lv_iload_n hx hb dX2_dropOldest_21 rfl (lv_at hl 2 rfl) ?_
        refine lv_iconst (v := 1) hx hb dX2_dropOldest_22 (by decide) ?_
        refine lv_isub hx hb dX2_dropOldest_23 ?_
        refine lv_aload_n hx hb dX2_dropOldest_24 rfl (lv_at hl 0 rfl) ?_
        refine va_get (D := G) (ci := 2) (v := .ref (a 1)) (C := RX2) (T := TX2) (N := 2) hx hb hts huX2_dropOldest_X2 hown hK.1 hP 0 rfl rfl 0 (by decide) hw0 (fun _ h9 => h9) rfl dX2_dropOldest_25 ?_
        refine lv_iload_n hx hb dX2_dropOldest_28 rfl (lv_at hl 2 rfl) ?_
        obtain ⟨hin, h⟩ := o_g h
        refine va_aldq hx hb hK.1 hP 1 1 rfl rfl hin dX2_dropOldest_29 ?_
        obtain ⟨⟨hin, hk⟩, h⟩ := o_g h
        refine h_ast hx hb hK.1 hP hD hS rfl rfl rfl rfl rfl rfl hk hin dX2_dropOldest_30 (fun H locs hP hD hS => ?_)
        have hP : va_P G vwCl (([[((a 0), .inr (2, [.ref (a 1), .int yc]))], [((a 1), .inl (cG, 4, .inr (.inr (.inr (.inr (hRefs (a 2) (a 12) (a 22) (a 32) (va_up yp ((v2 - (1 : Int32))).toNatClampNeg (yp (v2).toNatClampNeg))))))))], wGV cI (a 2) (a 3) (a 4) (a 5) (a 6) (a 7) (a 8) (a 9) (a 10) (a 11) (yg 0), wGV cI (a 12) (a 13) (a 14) (a 15) (a 16) (a 17) (a 18) (a 19) (a 20) (a 21) (yg 1), wGV cI (a 22) (a 23) (a 24) (a 25) (a 26) (a 27) (a 28) (a 29) (a 30) (a 31) (yg 2), wGV cI (a 32) (a 33) (a 34) (a 35) (a 36) (a 37) (a 38) (a 39) (a 40) (a 41) (yg 3)] : List va_W).flatten) H := hP
        have hD : va_D A (([[((a 0), .inr (2, [.ref (a 1), .int yc]))], [((a 1), .inl (cG, 4, .inr (.inr (.inr (.inr (hRefs (a 2) (a 12) (a 22) (a 32) (va_up yp ((v2 - (1 : Int32))).toNatClampNeg (yp (v2).toNatClampNeg))))))))], wGV cI (a 2) (a 3) (a 4) (a 5) (a 6) (a 7) (a 8) (a 9) (a 10) (a 11) (yg 0), wGV cI (a 12) (a 13) (a 14) (a 15) (a 16) (a 17) (a 18) (a 19) (a 20) (a 21) (yg 1), wGV cI (a 22) (a 23) (a 24) (a 25) (a 26) (a 27) (a 28) (a 29) (a 30) (a 31) (yg 2), wGV cI (a 32) (a 33) (a 34) (a 35) (a 36) (a 37) (a 38) (a 39) (a 40) (a 41) (yg 3)] : List va_W).flatten) := hD
        refine lv_iinc (v := (v2 + 1)) (lv' := [(2, .int (v2 + 1)), (0, .ref (a 0)), (1, .ref (adr4 (a 2) (a 12) (a 22) (a 32) v1))]) hx hb dX2_dropOldest_31 hl (k := 2) rfl rfl (by decide) rfl (fun ls hl => ?_)
        refine lv_goto (tgt := 8) hx hb dX2_dropOldest_34 (by decide) ?_
        exact ih (va_up yp ((v2 - (1 : Int32))).toNatClampNeg (yp (v2).toNatClampNeg)) (v2 + 1) _ _ _ h hP hD hS (lv_sub hl [1, 2, 0] rfl)
  have h := hf
  rw [fX2_dropOldest] at h
  have hl := lv_entry ([.ref (a 0)]) (n := 3) (Nat.le_of_ble_eq_true rfl)
  rw [lg_entry_eq]
  generalize (lg_sl ([.ref (a 0)]) ++ List.replicate (3 - (lg_sl ([.ref (a 0)])).length) Slot.unset).toArray = ls at hl ⊢
  have hl : lv_has ls 3 [(0, .ref (a 0))] := hl
  refine lv_aload_n hx hb dX2_dropOldest_0 rfl (lv_at hl 0 rfl) ?_
  refine lv_iconst (v := 0) hx hb dX2_dropOldest_1 (by decide) ?_
  obtain ⟨x1, ex1, h⟩ := o_b h
  refine bcall_rV (As := [.int (0 : Int32)]) (rest := []) (c0 := [[((a 0), .inr (2, [.ref (a 1), .int yc]))], [((a 1), .inl (cG, 4, .inr (.inr (.inr (.inr (hRefs (a 2) (a 12) (a 22) (a 32) yp))))))], wGV cI (a 2) (a 3) (a 4) (a 5) (a 6) (a 7) (a 8) (a 9) (a 10) (a 11) (yg 0), wGV cI (a 12) (a 13) (a 14) (a 15) (a 16) (a 17) (a 18) (a 19) (a 20) (a 21) (yg 1), wGV cI (a 22) (a 23) (a 24) (a 25) (a 26) (a 27) (a 28) (a 29) (a 30) (a 31) (yg 2), wGV cI (a 32) (a 33) (a 34) (a 35) (a 36) (a 37) (a 38) (a 39) (a 40) (a 41) (yg 3)]) (c1 := [[((a 0), .inr (2, [.ref (a 1), .int yc]))], [((a 1), .inl (cG, 4, .inr (.inr (.inr (.inr (hRefs (a 2) (a 12) (a 22) (a 32) yp))))))], wGV cI (a 2) (a 3) (a 4) (a 5) (a 6) (a 7) (a 8) (a 9) (a 10) (a 11) (yg 0), wGV cI (a 12) (a 13) (a 14) (a 15) (a 16) (a 17) (a 18) (a 19) (a 20) (a 21) (yg 1), wGV cI (a 22) (a 23) (a 24) (a 25) (a 26) (a 27) (a 28) (a 29) (a 30) (a 31) (yg 2), wGV cI (a 32) (a 33) (a 34) (a 35) (a 36) (a 37) (a 38) (a 39) (a 40) (a 41) (yg 3)]) (bs2 := [[((a 0), .inr (2, [.ref (a 1), .int yc]))], [((a 1), .inl (cG, 4, .inr (.inr (.inr (.inr (hRefs (a 2) (a 12) (a 22) (a 32) yp))))))], wGV cI (a 2) (a 3) (a 4) (a 5) (a 6) (a 7) (a 8) (a 9) (a 10) (a 11) (yg 0), wGV cI (a 12) (a 13) (a 14) (a 15) (a 16) (a 17) (a 18) (a 19) (a 20) (a 21) (yg 1), wGV cI (a 22) (a 23) (a 24) (a 25) (a 26) (a 27) (a 28) (a 29) (a 30) (a 31) (yg 2), wGV cI (a 32) (a 33) (a 34) (a 35) (a 36) (a 37) (a 38) (a 39) (a 40) (a 41) (yg 3)]) ⟨hx, hb, hml, hown, hts⟩ (cX2_slotAt_ok l G cI cG a yc yp yg (0 : Int32) x1 ex1) (cwV 1 hts gX2_dropOldest_X2_slotAt_25 rfl rfl rfl hdX2_slotAt ⟨Nat.le_of_ble_eq_true rfl, Nat.le_of_ble_eq_true rfl⟩) hP hD hS hA hK 2 rfl rfl rfl [0, 1, 2, 3, 4, 5] rfl rfl rfl rfl rfl rfl rfl rfl rfl hl.1 (Nat.le_of_ble_eq_true rfl) dX2_dropOldest_2 ⟨Nat.zero_le _, Nat.zero_le _⟩ (fun H locs hP hD hS => ?_)
  refine lv_astore_n (lv' := [(1, .ref (adr4 (a 2) (a 12) (a 22) (a 32) x1)), (0, .ref (a 0))]) hx hb dX2_dropOldest_5 rfl hl (by decide) rfl (fun ls hl => ?_)
  refine lv_iconst (v := 1) hx hb dX2_dropOldest_6 (by decide) ?_
  refine lv_istore_n (lv' := [(2, .int (1 : Int32)), (1, .ref (adr4 (a 2) (a 12) (a 22) (a 32) x1)), (0, .ref (a 0))]) hx hb dX2_dropOldest_7 rfl hl (by decide) rfl (fun ls hl => ?_)
  exact L8 x1 fu yp (1 : Int32) _ _ _ h hP hD hS (lv_sub hl [2, 1, 0] rfl)
theorem hdX2_save : yX2_save.cls = RX2 ∧ yX2_save.cls ≠ "java/lang/invoke/MethodHandle" ∧ yX2_save.cls ≠ "java/lang/invoke/VarHandle" ∧ (parseMethodDescriptor yX2_save.desc).map (fun d => d.parameters.length) = some 1 := by decide +kernel
set_option maxHeartbeats 4000000 in
set_option maxRecDepth 100000 in
theorem cX2_save_ok (l : Launch) (G : va_G) (cI cG : ClassId) (a : Nat → Nat) (b0 b1 b2 b3 b4 b5 b6 b7 b8 b9 : Nat) (fu : Nat) (yc : Int32) (yp : (Nat → Nat)) (yg : (Nat → GV)) (o_ft : Tab) (o_er : Tab) (o_eb : Int32) (o_li : Tab) (o_st : Tab) (o_rd : Int32) (o_tu : Int32) (o_la : Int32) (o_dl : Bool) (o_sh : Int32) (o_tb : Int32) (out : Int32 × (Nat → Nat) × (Nat → GV)) (hf : fX2_save fu yc yp yg o_ft o_er o_eb o_li o_st o_rd o_tu o_la o_dl o_sh o_tb = some out) : CV l G (tyz cI cG) yX2_save wsX2_save ({ frames := 4, cells := 0, slots := 0, locals := 123 } : Room) [.ref (a 0), .ref b0] (([wH cI cG a yc yp yg, wG cI b0 b1 b2 b3 b4 b5 b6 b7 b8 b9 o_ft o_er o_eb o_li o_st o_rd o_tu o_la o_dl o_sh o_tb] : List va_W).flatten) (([wH cI cG a out.1 out.2.1 out.2.2, wG cI b0 b1 b2 b3 b4 b5 b6 b7 b8 b9 o_ft o_er o_eb o_li o_st o_rd o_tu o_la o_dl o_sh o_tb] : List va_W).flatten) := by
  intro sz
  refine Met.ofW (cc := cX2_save) (maxL := 3) (ret := none) (by decide) rfl ?_
  intro p e s m args below meth c s₁ B hml hv
  obtain ⟨rfl, hsz, hP, hK, hD0⟩ := hv
  have hx := B.exec
  have hb := B.bytes
  have hr := B.returns
  have hts := atoms_spec (ws := wsX2_save) B.pre
  have hown : s.vm.findClass RX2 = some m.cls := findClass_of_methodNamed B.named
  have hlocks := B.notSynchronized
  subst hsz
  have hD := hD0.self (sz := s.heap.size)
  generalize hAe : va_A (([wH cI cG a yc yp yg, wG cI b0 b1 b2 b3 b4 b5 b6 b7 b8 b9 o_ft o_er o_eb o_li o_st o_rd o_tu o_la o_dl o_sh o_tb] : List va_W).flatten) s.heap.size = A at hD ⊢
  have hA : ∀ q : Nat, s.heap.size ≤ q → A q := fun q h => by rw [← hAe]; exact Or.inr h
  have hS : va_S A s.heap s.heap [] := va_S.rf
  have hP : va_P G vwCl (([[((a 0), .inr (2, [.ref (a 1), .int yc]))], [((a 1), .inl (cG, 4, .inr (.inr (.inr (.inr (hRefs (a 2) (a 12) (a 22) (a 32) yp))))))], wGV cI (a 2) (a 3) (a 4) (a 5) (a 6) (a 7) (a 8) (a 9) (a 10) (a 11) (yg 0), wGV cI (a 12) (a 13) (a 14) (a 15) (a 16) (a 17) (a 18) (a 19) (a 20) (a 21) (yg 1), wGV cI (a 22) (a 23) (a 24) (a 25) (a 26) (a 27) (a 28) (a 29) (a 30) (a 31) (yg 2), wGV cI (a 32) (a 33) (a 34) (a 35) (a 36) (a 37) (a 38) (a 39) (a 40) (a 41) (yg 3), wG cI b0 b1 b2 b3 b4 b5 b6 b7 b8 b9 o_ft o_er o_eb o_li o_st o_rd o_tu o_la o_dl o_sh o_tb] : List va_W).flatten) s.heap := hP
  have hD : va_D A (([[((a 0), .inr (2, [.ref (a 1), .int yc]))], [((a 1), .inl (cG, 4, .inr (.inr (.inr (.inr (hRefs (a 2) (a 12) (a 22) (a 32) yp))))))], wGV cI (a 2) (a 3) (a 4) (a 5) (a 6) (a 7) (a 8) (a 9) (a 10) (a 11) (yg 0), wGV cI (a 12) (a 13) (a 14) (a 15) (a 16) (a 17) (a 18) (a 19) (a 20) (a 21) (yg 1), wGV cI (a 22) (a 23) (a 24) (a 25) (a 26) (a 27) (a 28) (a 29) (a 30) (a 31) (yg 2), wGV cI (a 32) (a 33) (a 34) (a 35) (a 36) (a 37) (a 38) (a 39) (a 40) (a 41) (yg 3), wG cI b0 b1 b2 b3 b4 b5 b6 b7 b8 b9 o_ft o_er o_eb o_li o_st o_rd o_tu o_la o_dl o_sh o_tb] : List va_W).flatten) := hD
  have hw0 := hts (.fieldLink RX2 18 "SpeedTurns$History" "count" "I") (List.mem_of_getElem? (i := 1) rfl)
  have hw1 := hts (.fieldLink RX2 11 "SpeedTurns$History" "saved" "[LSpeedTurns$Game;") (List.mem_of_getElem? (i := 2) rfl)
  show W p l e ({ frames := 4, cells := 0, slots := 0, locals := 123 } : Room) s m _ below meth c s.heap [] 0 0 _ _
  refine W_genQ (fun Q hQ => ?_)
  have J16 : ∀ (yc : Int32) (yp : (Nat → Nat)) (H : Heap) (locs : List Loc) (ls : Array Slot), fX2_save_J16 fu yg o_ft o_er o_eb o_li o_st o_rd o_tu o_la o_dl o_sh o_tb yc yp = some out → va_P G vwCl (([[((a 0), .inr (2, [.ref (a 1), .int yc]))], [((a 1), .inl (cG, 4, .inr (.inr (.inr (.inr (hRefs (a 2) (a 12) (a 22) (a 32) yp))))))], wGV cI (a 2) (a 3) (a 4) (a 5) (a 6) (a 7) (a 8) (a 9) (a 10) (a 11) (yg 0), wGV cI (a 12) (a 13) (a 14) (a 15) (a 16) (a 17) (a 18) (a 19) (a 20) (a 21) (yg 1), wGV cI (a 22) (a 23) (a 24) (a 25) (a 26) (a 27) (a 28) (a 29) (a 30) (a 31) (yg 2), wGV cI (a 32) (a 33) (a 34) (a 35) (a 36) (a 37) (a 38) (a 39) (a 40) (a 41) (yg 3), wG cI b0 b1 b2 b3 b4 b5 b6 b7 b8 b9 o_ft o_er o_eb o_li o_st o_rd o_tu o_la o_dl o_sh o_tb] : List va_W).flatten) H → va_D A (([[((a 0), .inr (2, [.ref (a 1), .int yc]))], [((a 1), .inl (cG, 4, .inr (.inr (.inr (.inr (hRefs (a 2) (a 12) (a 22) (a 32) yp))))))], wGV cI (a 2) (a 3) (a 4) (a 5) (a 6) (a 7) (a 8) (a 9) (a 10) (a 11) (yg 0), wGV cI (a 12) (a 13) (a 14) (a 15) (a 16) (a 17) (a 18) (a 19) (a 20) (a 21) (yg 1), wGV cI (a 22) (a 23) (a 24) (a 25) (a 26) (a 27) (a 28) (a 29) (a 30) (a 31) (yg 2), wGV cI (a 32) (a 33) (a 34) (a 35) (a 36) (a 37) (a 38) (a 39) (a 40) (a 41) (yg 3), wG cI b0 b1 b2 b3 b4 b5 b6 b7 b8 b9 o_ft o_er o_eb o_li o_st o_rd o_tu o_la o_dl o_sh o_tb] : List va_W).flatten) → va_S A s.heap H locs → lv_has ls 3 [(0, .ref (a 0)), (1, .ref b0)] → W p l e ({ frames := 4, cells := 0, slots := 0, locals := 123 } : Room) s m ([.ref (a 0), .ref b0] : List Value).toArray below meth c H locs 0 0 Q (F0 m 16 ls []) := by
    intro yc yp H locs ls h hP hD hS hl
    rw [fX2_save_J16] at h
    refine lv_aload_n hx hb dX2_save_16 rfl (lv_at hl 0 rfl) ?_
    refine lv_aload_n hx hb dX2_save_17 rfl (lv_at hl 0 rfl) ?_
    refine va_get (D := G) (ci := 2) (v := .int yc) (C := RX2) (T := TX2) (N := 2) hx hb hts huX2_save_X2 hown hK.1 hP 0 rfl rfl 1 (by decide) hw0 (fun _ h9 => h9) rfl dX2_save_18 ?_
    obtain ⟨x1, ex1, h⟩ := o_b h
    refine bcall_rV (As := [.int yc]) (rest := []) (c0 := [[((a 0), .inr (2, [.ref (a 1), .int yc]))], [((a 1), .inl (cG, 4, .inr (.inr (.inr (.inr (hRefs (a 2) (a 12) (a 22) (a 32) yp))))))], wGV cI (a 2) (a 3) (a 4) (a 5) (a 6) (a 7) (a 8) (a 9) (a 10) (a 11) (yg 0), wGV cI (a 12) (a 13) (a 14) (a 15) (a 16) (a 17) (a 18) (a 19) (a 20) (a 21) (yg 1), wGV cI (a 22) (a 23) (a 24) (a 25) (a 26) (a 27) (a 28) (a 29) (a 30) (a 31) (yg 2), wGV cI (a 32) (a 33) (a 34) (a 35) (a 36) (a 37) (a 38) (a 39) (a 40) (a 41) (yg 3)]) (c1 := [[((a 0), .inr (2, [.ref (a 1), .int yc]))], [((a 1), .inl (cG, 4, .inr (.inr (.inr (.inr (hRefs (a 2) (a 12) (a 22) (a 32) yp))))))], wGV cI (a 2) (a 3) (a 4) (a 5) (a 6) (a 7) (a 8) (a 9) (a 10) (a 11) (yg 0), wGV cI (a 12) (a 13) (a 14) (a 15) (a 16) (a 17) (a 18) (a 19) (a 20) (a 21) (yg 1), wGV cI (a 22) (a 23) (a 24) (a 25) (a 26) (a 27) (a 28) (a 29) (a 30) (a 31) (yg 2), wGV cI (a 32) (a 33) (a 34) (a 35) (a 36) (a 37) (a 38) (a 39) (a 40) (a 41) (yg 3)]) (bs2 := [[((a 0), .inr (2, [.ref (a 1), .int yc]))], [((a 1), .inl (cG, 4, .inr (.inr (.inr (.inr (hRefs (a 2) (a 12) (a 22) (a 32) yp))))))], wGV cI (a 2) (a 3) (a 4) (a 5) (a 6) (a 7) (a 8) (a 9) (a 10) (a 11) (yg 0), wGV cI (a 12) (a 13) (a 14) (a 15) (a 16) (a 17) (a 18) (a 19) (a 20) (a 21) (yg 1), wGV cI (a 22) (a 23) (a 24) (a 25) (a 26) (a 27) (a 28) (a 29) (a 30) (a 31) (yg 2), wGV cI (a 32) (a 33) (a 34) (a 35) (a 36) (a 37) (a 38) (a 39) (a 40) (a 41) (yg 3), wG cI b0 b1 b2 b3 b4 b5 b6 b7 b8 b9 o_ft o_er o_eb o_li o_st o_rd o_tu o_la o_dl o_sh o_tb]) ⟨hx, hb, hml, hown, hts⟩ (cX2_slotAt_ok l G cI cG a yc yp yg yc x1 ex1) (cwV 1 hts gX2_save_X2_slotAt_25 rfl rfl rfl hdX2_slotAt ⟨Nat.le_of_ble_eq_true rfl, Nat.le_of_ble_eq_true rfl⟩) hP hD hS hA hK 2 rfl rfl rfl [0, 1, 2, 3, 4, 5] rfl rfl rfl rfl rfl rfl rfl rfl rfl hl.1 (Nat.le_of_ble_eq_true rfl) dX2_save_21 ⟨Nat.zero_le _, Nat.zero_le _⟩ (fun H locs hP hD hS => ?_)
    refine lv_astore_n (lv' := [(2, .ref (adr4 (a 2) (a 12) (a 22) (a 32) x1)), (0, .ref (a 0)), (1, .ref b0)]) hx hb dX2_save_24 rfl hl (by decide) rfl (fun ls hl => ?_)
    refine lv_aload_n hx hb dX2_save_25 rfl (lv_at hl 0 rfl) ?_
    refine lv_ifnull hx hb dX2_save_26 ?_
    refine lv_aload_n hx hb dX2_save_29 rfl (lv_at hl 0 rfl) ?_
    refine lv_aload_n hx hb dX2_save_30 rfl (lv_at hl 2 rfl) ?_
    obtain ⟨hk, h⟩ := o_g h
    obtain rfl | rfl | rfl | rfl := k4 hk
    · obtain ⟨x3, ex3, h⟩ := o_b h
      refine bcall_vV (As := [.ref b0]) (rest := []) (c0 := [wGV cI (a 2) (a 3) (a 4) (a 5) (a 6) (a 7) (a 8) (a 9) (a 10) (a 11) (yg 0), wG cI b0 b1 b2 b3 b4 b5 b6 b7 b8 b9 o_ft o_er o_eb o_li o_st o_rd o_tu o_la o_dl o_sh o_tb]) (c1 := [wGV cI (a 2) (a 3) (a 4) (a 5) (a 6) (a 7) (a 8) (a 9) (a 10) (a 11) ((va_up yg 0 x3) 0), wG cI b0 b1 b2 b3 b4 b5 b6 b7 b8 b9 o_ft o_er o_eb o_li o_st o_rd o_tu o_la o_dl o_sh o_tb]) (bs2 := [[((a 0), .inr (2, [.ref (a 1), .int yc]))], [((a 1), .inl (cG, 4, .inr (.inr (.inr (.inr (hRefs (a 2) (a 12) (a 22) (a 32) yp))))))], wGV cI (a 2) (a 3) (a 4) (a 5) (a 6) (a 7) (a 8) (a 9) (a 10) (a 11) ((va_up yg 0 x3) 0), wGV cI (a 12) (a 13) (a 14) (a 15) (a 16) (a 17) (a 18) (a 19) (a 20) (a 21) ((va_up yg 0 x3) 1), wGV cI (a 22) (a 23) (a 24) (a 25) (a 26) (a 27) (a 28) (a 29) (a 30) (a 31) ((va_up yg 0 x3) 2), wGV cI (a 32) (a 33) (a 34) (a 35) (a 36) (a 37) (a 38) (a 39) (a 40) (a 41) ((va_up yg 0 x3) 3), wG cI b0 b1 b2 b3 b4 b5 b6 b7 b8 b9 o_ft o_er o_eb o_li o_st o_rd o_tu o_la o_dl o_sh o_tb]) ⟨hx, hb, hml, hown, hts⟩ (cX1_copyFrom_ok l G cI cG (a 2) (a 3) (a 4) (a 5) (a 6) (a 7) (a 8) (a 9) (a 10) (a 11) b0 b1 b2 b3 b4 b5 b6 b7 b8 b9 (yg 0).1 (yg 0).2.1 (yg 0).2.2.1 (yg 0).2.2.2.1 (yg 0).2.2.2.2.1 (yg 0).2.2.2.2.2.1 (yg 0).2.2.2.2.2.2.1 (yg 0).2.2.2.2.2.2.2.1 (yg 0).2.2.2.2.2.2.2.2.1 (yg 0).2.2.2.2.2.2.2.2.2.1 (yg 0).2.2.2.2.2.2.2.2.2.2 o_ft o_er o_eb o_li o_st o_rd o_tu o_la o_dl o_sh o_tb x3 ex3) (cwV 1 hts gX2_save_X1_copyFrom_29 rfl rfl rfl hdX1_copyFrom ⟨Nat.le_of_ble_eq_true rfl, Nat.le_of_ble_eq_true rfl⟩) hP hD hS hA hK 1 rfl rfl rfl [2, 6] rfl rfl rfl rfl rfl rfl rfl rfl rfl hl.1 (Nat.le_of_ble_eq_true rfl) dX2_save_31 ⟨Nat.zero_le _, Nat.zero_le _⟩ (fun H locs hP hD hS => ?_)
      refine lv_aload_n hx hb dX2_save_34 rfl (lv_at hl 1 rfl) ?_
      refine lv_dup hx hb dX2_save_35 rfl ?_
      refine va_get (D := G) (ci := 2) (v := .int yc) (C := RX2) (T := TX2) (N := 2) hx hb hts huX2_save_X2 hown hK.1 hP 0 rfl rfl 1 (by decide) hw0 (fun _ h9 => h9) rfl dX2_save_36 ?_
      refine lv_iconst (v := 1) hx hb dX2_save_39 (by decide) ?_
      refine lv_iadd hx hb dX2_save_40 ?_
      refine va_put (D := G) (ci := 2) (v := .int (yc + (1 : Int32))) (ty := .int) (C := RX2) (T := TX2) (N := 2) hx hb hts huX2_save_X2 tyX2 tyX2_ok nmX2 hown hK.1 hP hD hS 0 rfl rfl 1 (by decide) hw0 (fun _ h9 => h9) rfl (by decide +kernel) rfl rfl (Nat.le_of_ble_eq_true rfl) dX2_save_41 (fun H locs hP hD hS => ?_)
      have hP : va_P G vwCl (([[((a 0), .inr (2, [.ref (a 1), .int (yc + (1 : Int32))]))], [((a 1), .inl (cG, 4, .inr (.inr (.inr (.inr (hRefs (a 2) (a 12) (a 22) (a 32) yp))))))], wGV cI (a 2) (a 3) (a 4) (a 5) (a 6) (a 7) (a 8) (a 9) (a 10) (a 11) ((va_up yg 0 x3) 0), wGV cI (a 12) (a 13) (a 14) (a 15) (a 16) (a 17) (a 18) (a 19) (a 20) (a 21) ((va_up yg 0 x3) 1), wGV cI (a 22) (a 23) (a 24) (a 25) (a 26) (a 27) (a 28) (a 29) (a 30) (a 31) ((va_up yg 0 x3) 2), wGV cI (a 32) (a 33) (a 34) (a 35) (a 36) (a 37) (a 38) (a 39) (a 40) (a 41) ((va_up yg 0 x3) 3), wG cI b0 b1 b2 b3 b4 b5 b6 b7 b8 b9 o_ft o_er o_eb o_li o_st o_rd o_tu o_la o_dl o_sh o_tb] : List va_W).flatten) H := hP
      have hD : va_D A (([[((a 0), .inr (2, [.ref (a 1), .int (yc + (1 : Int32))]))], [((a 1), .inl (cG, 4, .inr (.inr (.inr (.inr (hRefs (a 2) (a 12) (a 22) (a 32) yp))))))], wGV cI (a 2) (a 3) (a 4) (a 5) (a 6) (a 7) (a 8) (a 9) (a 10) (a 11) ((va_up yg 0 x3) 0), wGV cI (a 12) (a 13) (a 14) (a 15) (a 16) (a 17) (a 18) (a 19) (a 20) (a 21) ((va_up yg 0 x3) 1), wGV cI (a 22) (a 23) (a 24) (a 25) (a 26) (a 27) (a 28) (a 29) (a 30) (a 31) ((va_up yg 0 x3) 2), wGV cI (a 32) (a 33) (a 34) (a 35) (a 36) (a 37) (a 38) (a 39) (a 40) (a 41) ((va_up yg 0 x3) 3), wG cI b0 b1 b2 b3 b4 b5 b6 b7 b8 b9 o_ft o_er o_eb o_li o_st o_rd o_tu o_la o_dl o_sh o_tb] : List va_W).flatten) := hD
      obtain rfl := o_s h
      rw [hQ]
      exact end_v hx hb hr hP hD hS dX2_save_44 hlocks
    · obtain ⟨x4, ex4, h⟩ := o_b h
      refine bcall_vV (As := [.ref b0]) (rest := []) (c0 := [wGV cI (a 12) (a 13) (a 14) (a 15) (a 16) (a 17) (a 18) (a 19) (a 20) (a 21) (yg 1), wG cI b0 b1 b2 b3 b4 b5 b6 b7 b8 b9 o_ft o_er o_eb o_li o_st o_rd o_tu o_la o_dl o_sh o_tb]) (c1 := [wGV cI (a 12) (a 13) (a 14) (a 15) (a 16) (a 17) (a 18) (a 19) (a 20) (a 21) ((va_up yg 1 x4) 1), wG cI b0 b1 b2 b3 b4 b5 b6 b7 b8 b9 o_ft o_er o_eb o_li o_st o_rd o_tu o_la o_dl o_sh o_tb]) (bs2 := [[((a 0), .inr (2, [.ref (a 1), .int yc]))], [((a 1), .inl (cG, 4, .inr (.inr (.inr (.inr (hRefs (a 2) (a 12) (a 22) (a 32) yp))))))], wGV cI (a 2) (a 3) (a 4) (a 5) (a 6) (a 7) (a 8) (a 9) (a 10) (a 11) ((va_up yg 1 x4) 0), wGV cI (a 12) (a 13) (a 14) (a 15) (a 16) (a 17) (a 18) (a 19) (a 20) (a 21) ((va_up yg 1 x4) 1), wGV cI (a 22) (a 23) (a 24) (a 25) (a 26) (a 27) (a 28) (a 29) (a 30) (a 31) ((va_up yg 1 x4) 2), wGV cI (a 32) (a 33) (a 34) (a 35) (a 36) (a 37) (a 38) (a 39) (a 40) (a 41) ((va_up yg 1 x4) 3), wG cI b0 b1 b2 b3 b4 b5 b6 b7 b8 b9 o_ft o_er o_eb o_li o_st o_rd o_tu o_la o_dl o_sh o_tb]) ⟨hx, hb, hml, hown, hts⟩ (cX1_copyFrom_ok l G cI cG (a 12) (a 13) (a 14) (a 15) (a 16) (a 17) (a 18) (a 19) (a 20) (a 21) b0 b1 b2 b3 b4 b5 b6 b7 b8 b9 (yg 1).1 (yg 1).2.1 (yg 1).2.2.1 (yg 1).2.2.2.1 (yg 1).2.2.2.2.1 (yg 1).2.2.2.2.2.1 (yg 1).2.2.2.2.2.2.1 (yg 1).2.2.2.2.2.2.2.1 (yg 1).2.2.2.2.2.2.2.2.1 (yg 1).2.2.2.2.2.2.2.2.2.1 (yg 1).2.2.2.2.2.2.2.2.2.2 o_ft o_er o_eb o_li o_st o_rd o_tu o_la o_dl o_sh o_tb x4 ex4) (cwV 1 hts gX2_save_X1_copyFrom_29 rfl rfl rfl hdX1_copyFrom ⟨Nat.le_of_ble_eq_true rfl, Nat.le_of_ble_eq_true rfl⟩) hP hD hS hA hK 1 rfl rfl rfl [3, 6] rfl rfl rfl rfl rfl rfl rfl rfl rfl hl.1 (Nat.le_of_ble_eq_true rfl) dX2_save_31 ⟨Nat.zero_le _, Nat.zero_le _⟩ (fun H locs hP hD hS => ?_)
      refine lv_aload_n hx hb dX2_save_34 rfl (lv_at hl 1 rfl) ?_
      refine lv_dup hx hb dX2_save_35 rfl ?_
      refine va_get (D := G) (ci := 2) (v := .int yc) (C := RX2) (T := TX2) (N := 2) hx hb hts huX2_save_X2 hown hK.1 hP 0 rfl rfl 1 (by decide) hw0 (fun _ h9 => h9) rfl dX2_save_36 ?_
      refine lv_iconst (v := 1) hx hb dX2_save_39 (by decide) ?_
      refine lv_iadd hx hb dX2_save_40 ?_
      refine va_put (D := G) (ci := 2) (v := .int (yc + (1 : Int32))) (ty := .int) (C := RX2) (T := TX2) (N := 2) hx hb hts huX2_save_X2 tyX2 tyX2_ok nmX2 hown hK.1 hP hD hS 0 rfl rfl 1 (by decide) hw0 (fun _ h9 => h9) rfl (by decide +kernel) rfl rfl (Nat.le_of_ble_eq_true rfl) dX2_save_41 (fun H locs hP hD hS => ?_)
      have hP : va_P G vwCl (([[((a 0), .inr (2, [.ref (a 1), .int (yc + (1 : Int32))]))], [((a 1), .inl (cG, 4, .inr (.inr (.inr (.inr (hRefs (a 2) (a 12) (a 22) (a 32) yp))))))], wGV cI (a 2) (a 3) (a 4) (a 5) (a 6) (a 7) (a 8) (a 9) (a 10) (a 11) ((va_up yg 1 x4) 0), wGV cI (a 12) (a 13) (a 14) (a 15) (a 16) (a 17) (a 18) (a 19) (a 20) (a 21) ((va_up yg 1 x4) 1), wGV cI (a 22) (a 23) (a 24) (a 25) (a 26) (a 27) (a 28) (a 29) (a 30) (a 31) ((va_up yg 1 x4) 2), wGV cI (a 32) (a 33) (a 34) (a 35) (a 36) (a 37) (a 38) (a 39) (a 40) (a 41) ((va_up yg 1 x4) 3), wG cI b0 b1 b2 b3 b4 b5 b6 b7 b8 b9 o_ft o_er o_eb o_li o_st o_rd o_tu o_la o_dl o_sh o_tb] : List va_W).flatten) H := hP
      have hD : va_D A (([[((a 0), .inr (2, [.ref (a 1), .int (yc + (1 : Int32))]))], [((a 1), .inl (cG, 4, .inr (.inr (.inr (.inr (hRefs (a 2) (a 12) (a 22) (a 32) yp))))))], wGV cI (a 2) (a 3) (a 4) (a 5) (a 6) (a 7) (a 8) (a 9) (a 10) (a 11) ((va_up yg 1 x4) 0), wGV cI (a 12) (a 13) (a 14) (a 15) (a 16) (a 17) (a 18) (a 19) (a 20) (a 21) ((va_up yg 1 x4) 1), wGV cI (a 22) (a 23) (a 24) (a 25) (a 26) (a 27) (a 28) (a 29) (a 30) (a 31) ((va_up yg 1 x4) 2), wGV cI (a 32) (a 33) (a 34) (a 35) (a 36) (a 37) (a 38) (a 39) (a 40) (a 41) ((va_up yg 1 x4) 3), wG cI b0 b1 b2 b3 b4 b5 b6 b7 b8 b9 o_ft o_er o_eb o_li o_st o_rd o_tu o_la o_dl o_sh o_tb] : List va_W).flatten) := hD
      obtain rfl := o_s h
      rw [hQ]
      exact end_v hx hb hr hP hD hS dX2_save_44 hlocks
    · obtain ⟨x5, ex5, h⟩ := o_b h
      refine bcall_vV (As := [.ref b0]) (rest := []) (c0 := [wGV cI (a 22) (a 23) (a 24) (a 25) (a 26) (a 27) (a 28) (a 29) (a 30) (a 31) (yg 2), wG cI b0 b1 b2 b3 b4 b5 b6 b7 b8 b9 o_ft o_er o_eb o_li o_st o_rd o_tu o_la o_dl o_sh o_tb]) (c1 := [wGV cI (a 22) (a 23) (a 24) (a 25) (a 26) (a 27) (a 28) (a 29) (a 30) (a 31) ((va_up yg 2 x5) 2), wG cI b0 b1 b2 b3 b4 b5 b6 b7 b8 b9 o_ft o_er o_eb o_li o_st o_rd o_tu o_la o_dl o_sh o_tb]) (bs2 := [[((a 0), .inr (2, [.ref (a 1), .int yc]))], [((a 1), .inl (cG, 4, .inr (.inr (.inr (.inr (hRefs (a 2) (a 12) (a 22) (a 32) yp))))))], wGV cI (a 2) (a 3) (a 4) (a 5) (a 6) (a 7) (a 8) (a 9) (a 10) (a 11) ((va_up yg 2 x5) 0), wGV cI (a 12) (a 13) (a 14) (a 15) (a 16) (a 17) (a 18) (a 19) (a 20) (a 21) ((va_up yg 2 x5) 1), wGV cI (a 22) (a 23) (a 24) (a 25) (a 26) (a 27) (a 28) (a 29) (a 30) (a 31) ((va_up yg 2 x5) 2), wGV cI (a 32) (a 33) (a 34) (a 35) (a 36) (a 37) (a 38) (a 39) (a 40) (a 41) ((va_up yg 2 x5) 3), wG cI b0 b1 b2 b3 b4 b5 b6 b7 b8 b9 o_ft o_er o_eb o_li o_st o_rd o_tu o_la o_dl o_sh o_tb]) ⟨hx, hb, hml, hown, hts⟩ (cX1_copyFrom_ok l G cI cG (a 22) (a 23) (a 24) (a 25) (a 26) (a 27) (a 28) (a 29) (a 30) (a 31) b0 b1 b2 b3 b4 b5 b6 b7 b8 b9 (yg 2).1 (yg 2).2.1 (yg 2).2.2.1 (yg 2).2.2.2.1 (yg 2).2.2.2.2.1 (yg 2).2.2.2.2.2.1 (yg 2).2.2.2.2.2.2.1 (yg 2).2.2.2.2.2.2.2.1 (yg 2).2.2.2.2.2.2.2.2.1 (yg 2).2.2.2.2.2.2.2.2.2.1 (yg 2).2.2.2.2.2.2.2.2.2.2 o_ft o_er o_eb o_li o_st o_rd o_tu o_la o_dl o_sh o_tb x5 ex5) (cwV 1 hts gX2_save_X1_copyFrom_29 rfl rfl rfl hdX1_copyFrom ⟨Nat.le_of_ble_eq_true rfl, Nat.le_of_ble_eq_true rfl⟩) hP hD hS hA hK 1 rfl rfl rfl [4, 6] rfl rfl rfl rfl rfl rfl rfl rfl rfl hl.1 (Nat.le_of_ble_eq_true rfl) dX2_save_31 ⟨Nat.zero_le _, Nat.zero_le _⟩ (fun H locs hP hD hS => ?_)
      refine lv_aload_n hx hb dX2_save_34 rfl (lv_at hl 1 rfl) ?_
      refine lv_dup hx hb dX2_save_35 rfl ?_
      refine va_get (D := G) (ci := 2) (v := .int yc) (C := RX2) (T := TX2) (N := 2) hx hb hts huX2_save_X2 hown hK.1 hP 0 rfl rfl 1 (by decide) hw0 (fun _ h9 => h9) rfl dX2_save_36 ?_
      refine lv_iconst (v := 1) hx hb dX2_save_39 (by decide) ?_
      refine lv_iadd hx hb dX2_save_40 ?_
      refine va_put (D := G) (ci := 2) (v := .int (yc + (1 : Int32))) (ty := .int) (C := RX2) (T := TX2) (N := 2) hx hb hts huX2_save_X2 tyX2 tyX2_ok nmX2 hown hK.1 hP hD hS 0 rfl rfl 1 (by decide) hw0 (fun _ h9 => h9) rfl (by decide +kernel) rfl rfl (Nat.le_of_ble_eq_true rfl) dX2_save_41 (fun H locs hP hD hS => ?_)
      have hP : va_P G vwCl (([[((a 0), .inr (2, [.ref (a 1), .int (yc + (1 : Int32))]))], [((a 1), .inl (cG, 4, .inr (.inr (.inr (.inr (hRefs (a 2) (a 12) (a 22) (a 32) yp))))))], wGV cI (a 2) (a 3) (a 4) (a 5) (a 6) (a 7) (a 8) (a 9) (a 10) (a 11) ((va_up yg 2 x5) 0), wGV cI (a 12) (a 13) (a 14) (a 15) (a 16) (a 17) (a 18) (a 19) (a 20) (a 21) ((va_up yg 2 x5) 1), wGV cI (a 22) (a 23) (a 24) (a 25) (a 26) (a 27) (a 28) (a 29) (a 30) (a 31) ((va_up yg 2 x5) 2), wGV cI (a 32) (a 33) (a 34) (a 35) (a 36) (a 37) (a 38) (a 39) (a 40) (a 41) ((va_up yg 2 x5) 3), wG cI b0 b1 b2 b3 b4 b5 b6 b7 b8 b9 o_ft o_er o_eb o_li o_st o_rd o_tu o_la o_dl o_sh o_tb] : List va_W).flatten) H := hP
      have hD : va_D A (([[((a 0), .inr (2, [.ref (a 1), .int (yc + (1 : Int32))]))], [((a 1), .inl (cG, 4, .inr (.inr (.inr (.inr (hRefs (a 2) (a 12) (a 22) (a 32) yp))))))], wGV cI (a 2) (a 3) (a 4) (a 5) (a 6) (a 7) (a 8) (a 9) (a 10) (a 11) ((va_up yg 2 x5) 0), wGV cI (a 12) (a 13) (a 14) (a 15) (a 16) (a 17) (a 18) (a 19) (a 20) (a 21) ((va_up yg 2 x5) 1), wGV cI (a 22) (a 23) (a 24) (a 25) (a 26) (a 27) (a 28) (a 29) (a 30) (a 31) ((va_up yg 2 x5) 2), wGV cI (a 32) (a 33) (a 34) (a 35) (a 36) (a 37) (a 38) (a 39) (a 40) (a 41) ((va_up yg 2 x5) 3), wG cI b0 b1 b2 b3 b4 b5 b6 b7 b8 b9 o_ft o_er o_eb o_li o_st o_rd o_tu o_la o_dl o_sh o_tb] : List va_W).flatten) := hD
      obtain rfl := o_s h
      rw [hQ]
      exact end_v hx hb hr hP hD hS dX2_save_44 hlocks
    · obtain ⟨x6, ex6, h⟩ := o_b h
      refine bcall_vV (As := [.ref b0]) (rest := []) (c0 := [wGV cI (a 32) (a 33) (a 34) (a 35) (a 36) (a 37) (a 38) (a 39) (a 40) (a 41) (yg 3), wG cI b0 b1 b2 b3 b4 b5 b6 b7 b8 b9 o_ft o_er o_eb o_li o_st o_rd o_tu o_la o_dl o_sh o_tb]) (c1 := [wGV cI (a 32) (a 33) (a 34) (a 35) (a 36) (a 37) (a 38) (a 39) (a 40) (a 41) ((va_up yg 3 x6) 3), wG cI b0 b1 b2 b3 b4 b5 b6 b7 b8 b9 o_ft o_er o_eb o_li o_st o_rd o_tu o_la o_dl o_sh o_tb]) (bs2 := [[((a 0), .inr (2, [.ref (a 1), .int yc]))], [((a 1), .inl (cG, 4, .inr (.inr (.inr (.inr (hRefs (a 2) (a 12) (a 22) (a 32) yp))))))], wGV cI (a 2) (a 3) (a 4) (a 5) (a 6) (a 7) (a 8) (a 9) (a 10) (a 11) ((va_up yg 3 x6) 0), wGV cI (a 12) (a 13) (a 14) (a 15) (a 16) (a 17) (a 18) (a 19) (a 20) (a 21) ((va_up yg 3 x6) 1), wGV cI (a 22) (a 23) (a 24) (a 25) (a 26) (a 27) (a 28) (a 29) (a 30) (a 31) ((va_up yg 3 x6) 2), wGV cI (a 32) (a 33) (a 34) (a 35) (a 36) (a 37) (a 38) (a 39) (a 40) (a 41) ((va_up yg 3 x6) 3), wG cI b0 b1 b2 b3 b4 b5 b6 b7 b8 b9 o_ft o_er o_eb o_li o_st o_rd o_tu o_la o_dl o_sh o_tb]) ⟨hx, hb, hml, hown, hts⟩ (cX1_copyFrom_ok l G cI cG (a 32) (a 33) (a 34) (a 35) (a 36) (a 37) (a 38) (a 39) (a 40) (a 41) b0 b1 b2 b3 b4 b5 b6 b7 b8 b9 (yg 3).1 (yg 3).2.1 (yg 3).2.2.1 (yg 3).2.2.2.1 (yg 3).2.2.2.2.1 (yg 3).2.2.2.2.2.1 (yg 3).2.2.2.2.2.2.1 (yg 3).2.2.2.2.2.2.2.1 (yg 3).2.2.2.2.2.2.2.2.1 (yg 3).2.2.2.2.2.2.2.2.2.1 (yg 3).2.2.2.2.2.2.2.2.2.2 o_ft o_er o_eb o_li o_st o_rd o_tu o_la o_dl o_sh o_tb x6 ex6) (cwV 1 hts gX2_save_X1_copyFrom_29 rfl rfl rfl hdX1_copyFrom ⟨Nat.le_of_ble_eq_true rfl, Nat.le_of_ble_eq_true rfl⟩) hP hD hS hA hK 1 rfl rfl rfl [5, 6] rfl rfl rfl rfl rfl rfl rfl rfl rfl hl.1 (Nat.le_of_ble_eq_true rfl) dX2_save_31 ⟨Nat.zero_le _, Nat.zero_le _⟩ (fun H locs hP hD hS => ?_)
      refine lv_aload_n hx hb dX2_save_34 rfl (lv_at hl 1 rfl) ?_
      refine lv_dup hx hb dX2_save_35 rfl ?_
      refine va_get (D := G) (ci := 2) (v := .int yc) (C := RX2) (T := TX2) (N := 2) hx hb hts huX2_save_X2 hown hK.1 hP 0 rfl rfl 1 (by decide) hw0 (fun _ h9 => h9) rfl dX2_save_36 ?_
      refine lv_iconst (v := 1) hx hb dX2_save_39 (by decide) ?_
      refine lv_iadd hx hb dX2_save_40 ?_
      refine va_put (D := G) (ci := 2) (v := .int (yc + (1 : Int32))) (ty := .int) (C := RX2) (T := TX2) (N := 2) hx hb hts huX2_save_X2 tyX2 tyX2_ok nmX2 hown hK.1 hP hD hS 0 rfl rfl 1 (by decide) hw0 (fun _ h9 => h9) rfl (by decide +kernel) rfl rfl (Nat.le_of_ble_eq_true rfl) dX2_save_41 (fun H locs hP hD hS => ?_)
      have hP : va_P G vwCl (([[((a 0), .inr (2, [.ref (a 1), .int (yc + (1 : Int32))]))], [((a 1), .inl (cG, 4, .inr (.inr (.inr (.inr (hRefs (a 2) (a 12) (a 22) (a 32) yp))))))], wGV cI (a 2) (a 3) (a 4) (a 5) (a 6) (a 7) (a 8) (a 9) (a 10) (a 11) ((va_up yg 3 x6) 0), wGV cI (a 12) (a 13) (a 14) (a 15) (a 16) (a 17) (a 18) (a 19) (a 20) (a 21) ((va_up yg 3 x6) 1), wGV cI (a 22) (a 23) (a 24) (a 25) (a 26) (a 27) (a 28) (a 29) (a 30) (a 31) ((va_up yg 3 x6) 2), wGV cI (a 32) (a 33) (a 34) (a 35) (a 36) (a 37) (a 38) (a 39) (a 40) (a 41) ((va_up yg 3 x6) 3), wG cI b0 b1 b2 b3 b4 b5 b6 b7 b8 b9 o_ft o_er o_eb o_li o_st o_rd o_tu o_la o_dl o_sh o_tb] : List va_W).flatten) H := hP
      have hD : va_D A (([[((a 0), .inr (2, [.ref (a 1), .int (yc + (1 : Int32))]))], [((a 1), .inl (cG, 4, .inr (.inr (.inr (.inr (hRefs (a 2) (a 12) (a 22) (a 32) yp))))))], wGV cI (a 2) (a 3) (a 4) (a 5) (a 6) (a 7) (a 8) (a 9) (a 10) (a 11) ((va_up yg 3 x6) 0), wGV cI (a 12) (a 13) (a 14) (a 15) (a 16) (a 17) (a 18) (a 19) (a 20) (a 21) ((va_up yg 3 x6) 1), wGV cI (a 22) (a 23) (a 24) (a 25) (a 26) (a 27) (a 28) (a 29) (a 30) (a 31) ((va_up yg 3 x6) 2), wGV cI (a 32) (a 33) (a 34) (a 35) (a 36) (a 37) (a 38) (a 39) (a 40) (a 41) ((va_up yg 3 x6) 3), wG cI b0 b1 b2 b3 b4 b5 b6 b7 b8 b9 o_ft o_er o_eb o_li o_st o_rd o_tu o_la o_dl o_sh o_tb] : List va_W).flatten) := hD
      obtain rfl := o_s h
      rw [hQ]
      exact end_v hx hb hr hP hD hS dX2_save_44 hlocks
  have h := hf
  rw [fX2_save] at h
  have hl := lv_entry ([.ref (a 0), .ref b0]) (n := 3) (Nat.le_of_ble_eq_true rfl)
  rw [lg_entry_eq]
  generalize (lg_sl ([.ref (a 0), .ref b0]) ++ List.replicate (3 - (lg_sl ([.ref (a 0), .ref b0])).length) Slot.unset).toArray = ls at hl ⊢
  have hl : lv_has ls 3 [(0, .ref (a 0)), (1, .ref b0)] := hl
  refine lv_aload_n hx hb dX2_save_0 rfl (lv_at hl 0 rfl) ?_
  refine va_get (D := G) (ci := 2) (v := .int yc) (C := RX2) (T := TX2) (N := 2) hx hb hts huX2_save_X2 hown hK.1 hP 0 rfl rfl 1 (by decide) hw0 (fun _ h9 => h9) rfl dX2_save_1 ?_
  refine lv_aload_n hx hb dX2_save_4 rfl (lv_at hl 0 rfl) ?_
  refine va_get (D := G) (ci := 2) (v := .ref (a 1)) (C := RX2) (T := TX2) (N := 2) hx hb hts huX2_save_X2 hown hK.1 hP 0 rfl rfl 0 (by decide) hw1 (fun _ h9 => h9) rfl dX2_save_5 ?_
  refine va_alen (v := (Int32.ofNat 4)) hx hb hK.1 hP 1 1 rfl rfl rfl dX2_save_8 ?_
  refine lv_icmp_lt (tgt := 16) hx hb dX2_save_9 (by decide) (fun hc => ?_) (fun hc => ?_)
  · have h := o_t h hc
    exact J16 yc yp _ _ _ h hP hD hS (lv_sub hl [0, 1] rfl)
  · have h := o_f h hc
    refine lv_aload_n hx hb dX2_save_12 rfl (lv_at hl 0 rfl) ?_
    obtain ⟨x7, ex7, h⟩ := o_b h
    refine bcall_vV (As := []) (rest := []) (c0 := [[((a 0), .inr (2, [.ref (a 1), .int yc]))], [((a 1), .inl (cG, 4, .inr (.inr (.inr (.inr (hRefs (a 2) (a 12) (a 22) (a 32) yp))))))], wGV cI (a 2) (a 3) (a 4) (a 5) (a 6) (a 7) (a 8) (a 9) (a 10) (a 11) (yg 0), wGV cI (a 12) (a 13) (a 14) (a 15) (a 16) (a 17) (a 18) (a 19) (a 20) (a 21) (yg 1), wGV cI (a 22) (a 23) (a 24) (a 25) (a 26) (a 27) (a 28) (a 29) (a 30) (a 31) (yg 2), wGV cI (a 32) (a 33) (a 34) (a 35) (a 36) (a 37) (a 38) (a 39) (a 40) (a 41) (yg 3)]) (c1 := [[((a 0), .inr (2, [.ref (a 1), .int x7.1]))], [((a 1), .inl (cG, 4, .inr (.inr (.inr (.inr (hRefs (a 2) (a 12) (a 22) (a 32) x7.2))))))], wGV cI (a 2) (a 3) (a 4) (a 5) (a 6) (a 7) (a 8) (a 9) (a 10) (a 11) (yg 0), wGV cI (a 12) (a 13) (a 14) (a 15) (a 16) (a 17) (a 18) (a 19) (a 20) (a 21) (yg 1), wGV cI (a 22) (a 23) (a 24) (a 25) (a 26) (a 27) (a 28) (a 29) (a 30) (a 31) (yg 2), wGV cI (a 32) (a 33) (a 34) (a 35) (a 36) (a 37) (a 38) (a 39) (a 40) (a 41) (yg 3)]) (bs2 := [[((a 0), .inr (2, [.ref (a 1), .int x7.1]))], [((a 1), .inl (cG, 4, .inr (.inr (.inr (.inr (hRefs (a 2) (a 12) (a 22) (a 32) x7.2))))))], wGV cI (a 2) (a 3) (a 4) (a 5) (a 6) (a 7) (a 8) (a 9) (a 10) (a 11) (yg 0), wGV cI (a 12) (a 13) (a 14) (a 15) (a 16) (a 17) (a 18) (a 19) (a 20) (a 21) (yg 1), wGV cI (a 22) (a 23) (a 24) (a 25) (a 26) (a 27) (a 28) (a 29) (a 30) (a 31) (yg 2), wGV cI (a 32) (a 33) (a 34) (a 35) (a 36) (a 37) (a 38) (a 39) (a 40) (a 41) (yg 3), wG cI b0 b1 b2 b3 b4 b5 b6 b7 b8 b9 o_ft o_er o_eb o_li o_st o_rd o_tu o_la o_dl o_sh o_tb]) ⟨hx, hb, hml, hown, hts⟩ (cX2_dropOldest_ok l G cI cG a fu yc yp yg x7 ex7) (cwV 0 hts gX2_save_X2_dropOldest_22 rfl rfl rfl hdX2_dropOldest ⟨Nat.le_of_ble_eq_true rfl, Nat.le_of_ble_eq_true rfl⟩) hP hD hS hA hK 2 rfl rfl rfl [0, 1, 2, 3, 4, 5] rfl rfl rfl rfl rfl rfl rfl rfl rfl hl.1 (Nat.le_of_ble_eq_true rfl) dX2_save_13 ⟨Nat.zero_le _, Nat.zero_le _⟩ (fun H locs hP hD hS => ?_)
    exact J16 x7.1 x7.2 _ _ _ h hP hD hS (lv_sub hl [0, 1] rfl)
theorem hdX2_restore : yX2_restore.cls = RX2 ∧ yX2_restore.cls ≠ "java/lang/invoke/MethodHandle" ∧ yX2_restore.cls ≠ "java/lang/invoke/VarHandle" ∧ (parseMethodDescriptor yX2_restore.desc).map (fun d => d.parameters.length) = some 1 := by decide +kernel
set_option maxHeartbeats 4000000 in
set_option maxRecDepth 100000 in
theorem cX2_restore_ok (l : Launch) (G : va_G) (cI cG : ClassId) (a : Nat → Nat) (b0 b1 b2 b3 b4 b5 b6 b7 b8 b9 : Nat) (yc : Int32) (yp : (Nat → Nat)) (yg : (Nat → GV)) (o_ft : Tab) (o_er : Tab) (o_eb : Int32) (o_li : Tab) (o_st : Tab) (o_rd : Int32) (o_tu : Int32) (o_la : Int32) (o_dl : Bool) (o_sh : Int32) (o_tb : Int32) (out : Int32 × Tab × Tab × Int32 × Tab × Tab × Int32 × Int32 × Int32 × Bool × Int32 × Int32) (hf : fX2_restore yc yp yg o_ft o_er o_eb o_li o_st o_rd o_tu o_la o_dl o_sh o_tb = some out) : CV l G (tyz cI cG) yX2_restore wsX2_restore ({ frames := 4, cells := 0, slots := 0, locals := 123 } : Room) [.ref (a 0), .ref b0] (([wH cI cG a yc yp yg, wG cI b0 b1 b2 b3 b4 b5 b6 b7 b8 b9 o_ft o_er o_eb o_li o_st o_rd o_tu o_la o_dl o_sh o_tb] : List va_W).flatten) (([wH cI cG a out.1 yp yg, wG cI b0 b1 b2 b3 b4 b5 b6 b7 b8 b9 out.2.1 out.2.2.1 out.2.2.2.1 out.2.2.2.2.1 out.2.2.2.2.2.1 out.2.2.2.2.2.2.1 out.2.2.2.2.2.2.2.1 out.2.2.2.2.2.2.2.2.1 out.2.2.2.2.2.2.2.2.2.1 out.2.2.2.2.2.2.2.2.2.2.1 out.2.2.2.2.2.2.2.2.2.2.2] : List va_W).flatten) := by
  intro sz
  refine Met.ofW (cc := cX2_restore) (maxL := 3) (ret := none) (by decide) rfl ?_
  intro p e s m args below meth c s₁ B hml hv
  obtain ⟨rfl, hsz, hP, hK, hD0⟩ := hv
  have hx := B.exec
  have hb := B.bytes
  have hr := B.returns
  have hts := atoms_spec (ws := wsX2_restore) B.pre
  have hown : s.vm.findClass RX2 = some m.cls := findClass_of_methodNamed B.named
  have hlocks := B.notSynchronized
  subst hsz
  have hD := hD0.self (sz := s.heap.size)
  generalize hAe : va_A (([wH cI cG a yc yp yg, wG cI b0 b1 b2 b3 b4 b5 b6 b7 b8 b9 o_ft o_er o_eb o_li o_st o_rd o_tu o_la o_dl o_sh o_tb] : List va_W).flatten) s.heap.size = A at hD ⊢
  have hA : ∀ q : Nat, s.heap.size ≤ q → A q := fun q h => by rw [← hAe]; exact Or.inr h
  have hS : va_S A s.heap s.heap [] := va_S.rf
  have hP : va_P G vwCl (([[((a 0), .inr (2, [.ref (a 1), .int yc]))], [((a 1), .inl (cG, 4, .inr (.inr (.inr (.inr (hRefs (a 2) (a 12) (a 22) (a 32) yp))))))], wGV cI (a 2) (a 3) (a 4) (a 5) (a 6) (a 7) (a 8) (a 9) (a 10) (a 11) (yg 0), wGV cI (a 12) (a 13) (a 14) (a 15) (a 16) (a 17) (a 18) (a 19) (a 20) (a 21) (yg 1), wGV cI (a 22) (a 23) (a 24) (a 25) (a 26) (a 27) (a 28) (a 29) (a 30) (a 31) (yg 2), wGV cI (a 32) (a 33) (a 34) (a 35) (a 36) (a 37) (a 38) (a 39) (a 40) (a 41) (yg 3), wG cI b0 b1 b2 b3 b4 b5 b6 b7 b8 b9 o_ft o_er o_eb o_li o_st o_rd o_tu o_la o_dl o_sh o_tb] : List va_W).flatten) s.heap := hP
  have hD : va_D A (([[((a 0), .inr (2, [.ref (a 1), .int yc]))], [((a 1), .inl (cG, 4, .inr (.inr (.inr (.inr (hRefs (a 2) (a 12) (a 22) (a 32) yp))))))], wGV cI (a 2) (a 3) (a 4) (a 5) (a 6) (a 7) (a 8) (a 9) (a 10) (a 11) (yg 0), wGV cI (a 12) (a 13) (a 14) (a 15) (a 16) (a 17) (a 18) (a 19) (a 20) (a 21) (yg 1), wGV cI (a 22) (a 23) (a 24) (a 25) (a 26) (a 27) (a 28) (a 29) (a 30) (a 31) (yg 2), wGV cI (a 32) (a 33) (a 34) (a 35) (a 36) (a 37) (a 38) (a 39) (a 40) (a 41) (yg 3), wG cI b0 b1 b2 b3 b4 b5 b6 b7 b8 b9 o_ft o_er o_eb o_li o_st o_rd o_tu o_la o_dl o_sh o_tb] : List va_W).flatten) := hD
  have hw0 := hts (.fieldLink RX2 18 "SpeedTurns$History" "count" "I") (List.mem_of_getElem? (i := 1) rfl)
  show W p l e ({ frames := 4, cells := 0, slots := 0, locals := 123 } : Room) s m _ below meth c s.heap [] 0 0 _ _
  refine W_genQ (fun Q hQ => ?_)
  have h := hf
  rw [fX2_restore] at h
  have hl := lv_entry ([.ref (a 0), .ref b0]) (n := 3) (Nat.le_of_ble_eq_true rfl)
  rw [lg_entry_eq]
  generalize (lg_sl ([.ref (a 0), .ref b0]) ++ List.replicate (3 - (lg_sl ([.ref (a 0), .ref b0])).length) Slot.unset).toArray = ls at hl ⊢
  have hl : lv_has ls 3 [(0, .ref (a 0)), (1, .ref b0)] := hl
  refine lv_aload_n hx hb dX2_restore_0 rfl (lv_at hl 0 rfl) ?_
  refine lv_aload_n hx hb dX2_restore_1 rfl (lv_at hl 0 rfl) ?_
  refine va_get (D := G) (ci := 2) (v := .int yc) (C := RX2) (T := TX2) (N := 2) hx hb hts huX2_restore_X2 hown hK.1 hP 0 rfl rfl 1 (by decide) hw0 (fun _ h9 => h9) rfl dX2_restore_2 ?_
  refine lv_iconst (v := 1) hx hb dX2_restore_5 (by decide) ?_
  refine lv_isub hx hb dX2_restore_6 ?_
  obtain ⟨x1, ex1, h⟩ := o_b h
  refine bcall_rV (As := [.int (yc - (1 : Int32))]) (rest := []) (c0 := [[((a 0), .inr (2, [.ref (a 1), .int yc]))], [((a 1), .inl (cG, 4, .inr (.inr (.inr (.inr (hRefs (a 2) (a 12) (a 22) (a 32) yp))))))], wGV cI (a 2) (a 3) (a 4) (a 5) (a 6) (a 7) (a 8) (a 9) (a 10) (a 11) (yg 0), wGV cI (a 12) (a 13) (a 14) (a 15) (a 16) (a 17) (a 18) (a 19) (a 20) (a 21) (yg 1), wGV cI (a 22) (a 23) (a 24) (a 25) (a 26) (a 27) (a 28) (a 29) (a 30) (a 31) (yg 2), wGV cI (a 32) (a 33) (a 34) (a 35) (a 36) (a 37) (a 38) (a 39) (a 40) (a 41) (yg 3)]) (c1 := [[((a 0), .inr (2, [.ref (a 1), .int yc]))], [((a 1), .inl (cG, 4, .inr (.inr (.inr (.inr (hRefs (a 2) (a 12) (a 22) (a 32) yp))))))], wGV cI (a 2) (a 3) (a 4) (a 5) (a 6) (a 7) (a 8) (a 9) (a 10) (a 11) (yg 0), wGV cI (a 12) (a 13) (a 14) (a 15) (a 16) (a 17) (a 18) (a 19) (a 20) (a 21) (yg 1), wGV cI (a 22) (a 23) (a 24) (a 25) (a 26) (a 27) (a 28) (a 29) (a 30) (a 31) (yg 2), wGV cI (a 32) (a 33) (a 34) (a 35) (a 36) (a 37) (a 38) (a 39) (a 40) (a 41) (yg 3)]) (bs2 := [[((a 0), .inr (2, [.ref (a 1), .int yc]))], [((a 1), .inl (cG, 4, .inr (.inr (.inr (.inr (hRefs (a 2) (a 12) (a 22) (a 32) yp))))))], wGV cI (a 2) (a 3) (a 4) (a 5) (a 6) (a 7) (a 8) (a 9) (a 10) (a 11) (yg 0), wGV cI (a 12) (a 13) (a 14) (a 15) (a 16) (a 17) (a 18) (a 19) (a 20) (a 21) (yg 1), wGV cI (a 22) (a 23) (a 24) (a 25) (a 26) (a 27) (a 28) (a 29) (a 30) (a 31) (yg 2), wGV cI (a 32) (a 33) (a 34) (a 35) (a 36) (a 37) (a 38) (a 39) (a 40) (a 41) (yg 3), wG cI b0 b1 b2 b3 b4 b5 b6 b7 b8 b9 o_ft o_er o_eb o_li o_st o_rd o_tu o_la o_dl o_sh o_tb]) ⟨hx, hb, hml, hown, hts⟩ (cX2_slotAt_ok l G cI cG a yc yp yg (yc - (1 : Int32)) x1 ex1) (cwV 1 hts gX2_restore_X2_slotAt_25 rfl rfl rfl hdX2_slotAt ⟨Nat.le_of_ble_eq_true rfl, Nat.le_of_ble_eq_true rfl⟩) hP hD hS hA hK 2 rfl rfl rfl [0, 1, 2, 3, 4, 5] rfl rfl rfl rfl rfl rfl rfl rfl rfl hl.1 (Nat.le_of_ble_eq_true rfl) dX2_restore_7 ⟨Nat.zero_le _, Nat.zero_le _⟩ (fun H locs hP hD hS => ?_)
  refine lv_astore_n (lv' := [(2, .ref (adr4 (a 2) (a 12) (a 22) (a 32) x1)), (0, .ref (a 0)), (1, .ref b0)]) hx hb dX2_restore_10 rfl hl (by decide) rfl (fun ls hl => ?_)
  refine lv_aload_n hx hb dX2_restore_11 rfl (lv_at hl 0 rfl) ?_
  refine lv_ifnull hx hb dX2_restore_12 ?_
  refine lv_aload_n hx hb dX2_restore_15 rfl (lv_at hl 2 rfl) ?_
  refine lv_aload_n hx hb dX2_restore_16 rfl (lv_at hl 0 rfl) ?_
  obtain ⟨hk, h⟩ := o_g h
  obtain rfl | rfl | rfl | rfl := k4 hk
  · obtain ⟨x3, ex3, h⟩ := o_b h
    refine bcall_vV (As := [.ref (a 2)]) (rest := []) (c0 := [wG cI b0 b1 b2 b3 b4 b5 b6 b7 b8 b9 o_ft o_er o_eb o_li o_st o_rd o_tu o_la o_dl o_sh o_tb, wGV cI (a 2) (a 3) (a 4) (a 5) (a 6) (a 7) (a 8) (a 9) (a 10) (a 11) (yg 0)]) (c1 := [wG cI b0 b1 b2 b3 b4 b5 b6 b7 b8 b9 x3.1 x3.2.1 x3.2.2.1 x3.2.2.2.1 x3.2.2.2.2.1 x3.2.2.2.2.2.1 x3.2.2.2.2.2.2.1 x3.2.2.2.2.2.2.2.1 x3.2.2.2.2.2.2.2.2.1 x3.2.2.2.2.2.2.2.2.2.1 x3.2.2.2.2.2.2.2.2.2.2, wGV cI (a 2) (a 3) (a 4) (a 5) (a 6) (a 7) (a 8) (a 9) (a 10) (a 11) (yg 0)]) (bs2 := [[((a 0), .inr (2, [.ref (a 1), .int yc]))], [((a 1), .inl (cG, 4, .inr (.inr (.inr (.inr (hRefs (a 2) (a 12) (a 22) (a 32) yp))))))], wGV cI (a 2) (a 3) (a 4) (a 5) (a 6) (a 7) (a 8) (a 9) (a 10) (a 11) (yg 0), wGV cI (a 12) (a 13) (a 14) (a 15) (a 16) (a 17) (a 18) (a 19) (a 20) (a 21) (yg 1), wGV cI (a 22) (a 23) (a 24) (a 25) (a 26) (a 27) (a 28) (a 29) (a 30) (a 31) (yg 2), wGV cI (a 32) (a 33) (a 34) (a 35) (a 36) (a 37) (a 38) (a 39) (a 40) (a 41) (yg 3), wG cI b0 b1 b2 b3 b4 b5 b6 b7 b8 b9 x3.1 x3.2.1 x3.2.2.1 x3.2.2.2.1 x3.2.2.2.2.1 x3.2.2.2.2.2.1 x3.2.2.2.2.2.2.1 x3.2.2.2.2.2.2.2.1 x3.2.2.2.2.2.2.2.2.1 x3.2.2.2.2.2.2.2.2.2.1 x3.2.2.2.2.2.2.2.2.2.2]) ⟨hx, hb, hml, hown, hts⟩ (cX1_copyFrom_ok l G cI cG b0 b1 b2 b3 b4 b5 b6 b7 b8 b9 (a 2) (a 3) (a 4) (a 5) (a 6) (a 7) (a 8) (a 9) (a 10) (a 11) o_ft o_er o_eb o_li o_st o_rd o_tu o_la o_dl o_sh o_tb (yg 0).1 (yg 0).2.1 (yg 0).2.2.1 (yg 0).2.2.2.1 (yg 0).2.2.2.2.1 (yg 0).2.2.2.2.2.1 (yg 0).2.2.2.2.2.2.1 (yg 0).2.2.2.2.2.2.2.1 (yg 0).2.2.2.2.2.2.2.2.1 (yg 0).2.2.2.2.2.2.2.2.2.1 (yg 0).2.2.2.2.2.2.2.2.2.2 x3 ex3) (cwV 1 hts gX2_restore_X1_copyFrom_29 rfl rfl rfl hdX1_copyFrom ⟨Nat.le_of_ble_eq_true rfl, Nat.le_of_ble_eq_true rfl⟩) hP hD hS hA hK 1 rfl rfl rfl [6, 2] rfl rfl rfl rfl rfl rfl rfl rfl rfl hl.1 (Nat.le_of_ble_eq_true rfl) dX2_restore_17 ⟨Nat.zero_le _, Nat.zero_le _⟩ (fun H locs hP hD hS => ?_)
    refine lv_aload_n hx hb dX2_restore_20 rfl (lv_at hl 1 rfl) ?_
    refine lv_dup hx hb dX2_restore_21 rfl ?_
    refine va_get (D := G) (ci := 2) (v := .int yc) (C := RX2) (T := TX2) (N := 2) hx hb hts huX2_restore_X2 hown hK.1 hP 0 rfl rfl 1 (by decide) hw0 (fun _ h9 => h9) rfl dX2_restore_22 ?_
    refine lv_iconst (v := 1) hx hb dX2_restore_25 (by decide) ?_
    refine lv_isub hx hb dX2_restore_26 ?_
    refine va_put (D := G) (ci := 2) (v := .int (yc - (1 : Int32))) (ty := .int) (C := RX2) (T := TX2) (N := 2) hx hb hts huX2_restore_X2 tyX2 tyX2_ok nmX2 hown hK.1 hP hD hS 0 rfl rfl 1 (by decide) hw0 (fun _ h9 => h9) rfl (by decide +kernel) rfl rfl (Nat.le_of_ble_eq_true rfl) dX2_restore_27 (fun H locs hP hD hS => ?_)
    have hP : va_P G vwCl (([[((a 0), .inr (2, [.ref (a 1), .int (yc - (1 : Int32))]))], [((a 1), .inl (cG, 4, .inr (.inr (.inr (.inr (hRefs (a 2) (a 12) (a 22) (a 32) yp))))))], wGV cI (a 2) (a 3) (a 4) (a 5) (a 6) (a 7) (a 8) (a 9) (a 10) (a 11) (yg 0), wGV cI (a 12) (a 13) (a 14) (a 15) (a 16) (a 17) (a 18) (a 19) (a 20) (a 21) (yg 1), wGV cI (a 22) (a 23) (a 24) (a 25) (a 26) (a 27) (a 28) (a 29) (a 30) (a 31) (yg 2), wGV cI (a 32) (a 33) (a 34) (a 35) (a 36) (a 37) (a 38) (a 39) (a 40) (a 41) (yg 3), wG cI b0 b1 b2 b3 b4 b5 b6 b7 b8 b9 x3.1 x3.2.1 x3.2.2.1 x3.2.2.2.1 x3.2.2.2.2.1 x3.2.2.2.2.2.1 x3.2.2.2.2.2.2.1 x3.2.2.2.2.2.2.2.1 x3.2.2.2.2.2.2.2.2.1 x3.2.2.2.2.2.2.2.2.2.1 x3.2.2.2.2.2.2.2.2.2.2] : List va_W).flatten) H := hP
    have hD : va_D A (([[((a 0), .inr (2, [.ref (a 1), .int (yc - (1 : Int32))]))], [((a 1), .inl (cG, 4, .inr (.inr (.inr (.inr (hRefs (a 2) (a 12) (a 22) (a 32) yp))))))], wGV cI (a 2) (a 3) (a 4) (a 5) (a 6) (a 7) (a 8) (a 9) (a 10) (a 11) (yg 0), wGV cI (a 12) (a 13) (a 14) (a 15) (a 16) (a 17) (a 18) (a 19) (a 20) (a 21) (yg 1), wGV cI (a 22) (a 23) (a 24) (a 25) (a 26) (a 27) (a 28) (a 29) (a 30) (a 31) (yg 2), wGV cI (a 32) (a 33) (a 34) (a 35) (a 36) (a 37) (a 38) (a 39) (a 40) (a 41) (yg 3), wG cI b0 b1 b2 b3 b4 b5 b6 b7 b8 b9 x3.1 x3.2.1 x3.2.2.1 x3.2.2.2.1 x3.2.2.2.2.1 x3.2.2.2.2.2.1 x3.2.2.2.2.2.2.1 x3.2.2.2.2.2.2.2.1 x3.2.2.2.2.2.2.2.2.1 x3.2.2.2.2.2.2.2.2.2.1 x3.2.2.2.2.2.2.2.2.2.2] : List va_W).flatten) := hD
    obtain rfl := o_s h
    rw [hQ]
    exact end_v hx hb hr hP hD hS dX2_restore_30 hlocks
  · obtain ⟨x4, ex4, h⟩ := o_b h
    refine bcall_vV (As := [.ref (a 12)]) (rest := []) (c0 := [wG cI b0 b1 b2 b3 b4 b5 b6 b7 b8 b9 o_ft o_er o_eb o_li o_st o_rd o_tu o_la o_dl o_sh o_tb, wGV cI (a 12) (a 13) (a 14) (a 15) (a 16) (a 17) (a 18) (a 19) (a 20) (a 21) (yg 1)]) (c1 := [wG cI b0 b1 b2 b3 b4 b5 b6 b7 b8 b9 x4.1 x4.2.1 x4.2.2.1 x4.2.2.2.1 x4.2.2.2.2.1 x4.2.2.2.2.2.1 x4.2.2.2.2.2.2.1 x4.2.2.2.2.2.2.2.1 x4.2.2.2.2.2.2.2.2.1 x4.2.2.2.2.2.2.2.2.2.1 x4.2.2.2.2.2.2.2.2.2.2, wGV cI (a 12) (a 13) (a 14) (a 15) (a 16) (a 17) (a 18) (a 19) (a 20) (a 21) (yg 1)]) (bs2 := [[((a 0), .inr (2, [.ref (a 1), .int yc]))], [((a 1), .inl (cG, 4, .inr (.inr (.inr (.inr (hRefs (a 2) (a 12) (a 22) (a 32) yp))))))], wGV cI (a 2) (a 3) (a 4) (a 5) (a 6) (a 7) (a 8) (a 9) (a 10) (a 11) (yg 0), wGV cI (a 12) (a 13) (a 14) (a 15) (a 16) (a 17) (a 18) (a 19) (a 20) (a 21) (yg 1), wGV cI (a 22) (a 23) (a 24) (a 25) (a 26) (a 27) (a 28) (a 29) (a 30) (a 31) (yg 2), wGV cI (a 32) (a 33) (a 34) (a 35) (a 36) (a 37) (a 38) (a 39) (a 40) (a 41) (yg 3), wG cI b0 b1 b2 b3 b4 b5 b6 b7 b8 b9 x4.1 x4.2.1 x4.2.2.1 x4.2.2.2.1 x4.2.2.2.2.1 x4.2.2.2.2.2.1 x4.2.2.2.2.2.2.1 x4.2.2.2.2.2.2.2.1 x4.2.2.2.2.2.2.2.2.1 x4.2.2.2.2.2.2.2.2.2.1 x4.2.2.2.2.2.2.2.2.2.2]) ⟨hx, hb, hml, hown, hts⟩ (cX1_copyFrom_ok l G cI cG b0 b1 b2 b3 b4 b5 b6 b7 b8 b9 (a 12) (a 13) (a 14) (a 15) (a 16) (a 17) (a 18) (a 19) (a 20) (a 21) o_ft o_er o_eb o_li o_st o_rd o_tu o_la o_dl o_sh o_tb (yg 1).1 (yg 1).2.1 (yg 1).2.2.1 (yg 1).2.2.2.1 (yg 1).2.2.2.2.1 (yg 1).2.2.2.2.2.1 (yg 1).2.2.2.2.2.2.1 (yg 1).2.2.2.2.2.2.2.1 (yg 1).2.2.2.2.2.2.2.2.1 (yg 1).2.2.2.2.2.2.2.2.2.1 (yg 1).2.2.2.2.2.2.2.2.2.2 x4 ex4) (cwV 1 hts gX2_restore_X1_copyFrom_29 rfl rfl rfl hdX1_copyFrom ⟨Nat.le_of_ble_eq_true rfl, Nat.le_of_ble_eq_true rfl⟩) hP hD hS hA hK 1 rfl rfl rfl [6, 3] rfl rfl rfl rfl rfl rfl rfl rfl rfl hl.1 (Nat.le_of_ble_eq_true rfl) dX2_restore_17 ⟨Nat.zero_le _, Nat.zero_le _⟩ (fun H locs hP hD hS => ?_)
    refine lv_aload_n hx hb dX2_restore_20 rfl (lv_at hl 1 rfl) ?_
    refine lv_dup hx hb dX2_restore_21 rfl ?_
    refine va_get (D := G) (ci := 2) (v := .int yc) (C := RX2) (T := TX2) (N := 2) hx hb hts huX2_restore_X2 hown hK.1 hP 0 rfl rfl 1 (by decide) hw0 (fun _ h9 => h9) rfl dX2_restore_22 ?_
    refine lv_iconst (v := 1) hx hb dX2_restore_25 (by decide) ?_
    refine lv_isub hx hb dX2_restore_26 ?_
    refine va_put (D := G) (ci := 2) (v := .int (yc - (1 : Int32))) (ty := .int) (C := RX2) (T := TX2) (N := 2) hx hb hts huX2_restore_X2 tyX2 tyX2_ok nmX2 hown hK.1 hP hD hS 0 rfl rfl 1 (by decide) hw0 (fun _ h9 => h9) rfl (by decide +kernel) rfl rfl (Nat.le_of_ble_eq_true rfl) dX2_restore_27 (fun H locs hP hD hS => ?_)
    have hP : va_P G vwCl (([[((a 0), .inr (2, [.ref (a 1), .int (yc - (1 : Int32))]))], [((a 1), .inl (cG, 4, .inr (.inr (.inr (.inr (hRefs (a 2) (a 12) (a 22) (a 32) yp))))))], wGV cI (a 2) (a 3) (a 4) (a 5) (a 6) (a 7) (a 8) (a 9) (a 10) (a 11) (yg 0), wGV cI (a 12) (a 13) (a 14) (a 15) (a 16) (a 17) (a 18) (a 19) (a 20) (a 21) (yg 1), wGV cI (a 22) (a 23) (a 24) (a 25) (a 26) (a 27) (a 28) (a 29) (a 30) (a 31) (yg 2), wGV cI (a 32) (a 33) (a 34) (a 35) (a 36) (a 37) (a 38) (a 39) (a 40) (a 41) (yg 3), wG cI b0 b1 b2 b3 b4 b5 b6 b7 b8 b9 x4.1 x4.2.1 x4.2.2.1 x4.2.2.2.1 x4.2.2.2.2.1 x4.2.2.2.2.2.1 x4.2.2.2.2.2.2.1 x4.2.2.2.2.2.2.2.1 x4.2.2.2.2.2.2.2.2.1 x4.2.2.2.2.2.2.2.2.2.1 x4.2.2.2.2.2.2.2.2.2.2] : List va_W).flatten) H := hP
    have hD : va_D A (([[((a 0), .inr (2, [.ref (a 1), .int (yc - (1 : Int32))]))], [((a 1), .inl (cG, 4, .inr (.inr (.inr (.inr (hRefs (a 2) (a 12) (a 22) (a 32) yp))))))], wGV cI (a 2) (a 3) (a 4) (a 5) (a 6) (a 7) (a 8) (a 9) (a 10) (a 11) (yg 0), wGV cI (a 12) (a 13) (a 14) (a 15) (a 16) (a 17) (a 18) (a 19) (a 20) (a 21) (yg 1), wGV cI (a 22) (a 23) (a 24) (a 25) (a 26) (a 27) (a 28) (a 29) (a 30) (a 31) (yg 2), wGV cI (a 32) (a 33) (a 34) (a 35) (a 36) (a 37) (a 38) (a 39) (a 40) (a 41) (yg 3), wG cI b0 b1 b2 b3 b4 b5 b6 b7 b8 b9 x4.1 x4.2.1 x4.2.2.1 x4.2.2.2.1 x4.2.2.2.2.1 x4.2.2.2.2.2.1 x4.2.2.2.2.2.2.1 x4.2.2.2.2.2.2.2.1 x4.2.2.2.2.2.2.2.2.1 x4.2.2.2.2.2.2.2.2.2.1 x4.2.2.2.2.2.2.2.2.2.2] : List va_W).flatten) := hD
    obtain rfl := o_s h
    rw [hQ]
    exact end_v hx hb hr hP hD hS dX2_restore_30 hlocks
  · obtain ⟨x5, ex5, h⟩ := o_b h
    refine bcall_vV (As := [.ref (a 22)]) (rest := []) (c0 := [wG cI b0 b1 b2 b3 b4 b5 b6 b7 b8 b9 o_ft o_er o_eb o_li o_st o_rd o_tu o_la o_dl o_sh o_tb, wGV cI (a 22) (a 23) (a 24) (a 25) (a 26) (a 27) (a 28) (a 29) (a 30) (a 31) (yg 2)]) (c1 := [wG cI b0 b1 b2 b3 b4 b5 b6 b7 b8 b9 x5.1 x5.2.1 x5.2.2.1 x5.2.2.2.1 x5.2.2.2.2.1 x5.2.2.2.2.2.1 x5.2.2.2.2.2.2.1 x5.2.2.2.2.2.2.2.1 x5.2.2.2.2.2.2.2.2.1 x5.2.2.2.2.2.2.2.2.2.1 x5.2.2.2.2.2.2.2.2.2.2, wGV cI (a 22) (a 23) (a 24) (a 25) (a 26) (a 27) (a 28) (a 29) (a 30) (a 31) (yg 2)]) (bs2 := [[((a 0), .inr (2, [.ref (a 1), .int yc]))], [((a 1), .inl (cG, 4, .inr (.inr (.inr (.inr (hRefs (a 2) (a 12) (a 22) (a 32) yp))))))], wGV cI (a 2) (a 3) (a 4) (a 5) (a 6) (a 7) (a 8) (a 9) (a 10) (a 11) (yg 0), wGV cI (a 12) (a 13) (a 14) (a 15) (a 16) (a 17) (a 18) (a 19) (a 20) (a 21) (yg 1), wGV cI (a 22) (a 23) (a 24) (a 25) (a 26) (a 27) (a 28) (a 29) (a 30) (a 31) (yg 2), wGV cI (a 32) (a 33) (a 34) (a 35) (a 36) (a 37) (a 38) (a 39) (a 40) (a 41) (yg 3), wG cI b0 b1 b2 b3 b4 b5 b6 b7 b8 b9 x5.1 x5.2.1 x5.2.2.1 x5.2.2.2.1 x5.2.2.2.2.1 x5.2.2.2.2.2.1 x5.2.2.2.2.2.2.1 x5.2.2.2.2.2.2.2.1 x5.2.2.2.2.2.2.2.2.1 x5.2.2.2.2.2.2.2.2.2.1 x5.2.2.2.2.2.2.2.2.2.2]) ⟨hx, hb, hml, hown, hts⟩ (cX1_copyFrom_ok l G cI cG b0 b1 b2 b3 b4 b5 b6 b7 b8 b9 (a 22) (a 23) (a 24) (a 25) (a 26) (a 27) (a 28) (a 29) (a 30) (a 31) o_ft o_er o_eb o_li o_st o_rd o_tu o_la o_dl o_sh o_tb (yg 2).1 (yg 2).2.1 (yg 2).2.2.1 (yg 2).2.2.2.1 (yg 2).2.2.2.2.1 (yg 2).2.2.2.2.2.1 (yg 2).2.2.2.2.2.2.1 (yg 2).2.2.2.2.2.2.2.1 (yg 2).2.2.2.2.2.2.2.2.1 (yg 2).2.2.2.2.2.2.2.2.2.1 (yg 2).2.2.2.2.2.2.2.2.2.2 x5 ex5) (cwV 1 hts gX2_restore_X1_copyFrom_29 rfl rfl rfl hdX1_copyFrom ⟨Nat.le_of_ble_eq_true rfl, Nat.le_of_ble_eq_true rfl⟩) hP hD hS hA hK 1 rfl rfl rfl [6, 4] rfl rfl rfl rfl rfl rfl rfl rfl rfl hl.1 (Nat.le_of_ble_eq_true rfl) dX2_restore_17 ⟨Nat.zero_le _, Nat.zero_le _⟩ (fun H locs hP hD hS => ?_)
    refine lv_aload_n hx hb dX2_restore_20 rfl (lv_at hl 1 rfl) ?_
    refine lv_dup hx hb dX2_restore_21 rfl ?_
    refine va_get (D := G) (ci := 2) (v := .int yc) (C := RX2) (T := TX2) (N := 2) hx hb hts huX2_restore_X2 hown hK.1 hP 0 rfl rfl 1 (by decide) hw0 (fun _ h9 => h9) rfl dX2_restore_22 ?_
    refine lv_iconst (v := 1) hx hb dX2_restore_25 (by decide) ?_
    refine lv_isub hx hb dX2_restore_26 ?_
    refine va_put (D := G) (ci := 2) (v := .int (yc - (1 : Int32))) (ty := .int) (C := RX2) (T := TX2) (N := 2) hx hb hts huX2_restore_X2 tyX2 tyX2_ok nmX2 hown hK.1 hP hD hS 0 rfl rfl 1 (by decide) hw0 (fun _ h9 => h9) rfl (by decide +kernel) rfl rfl (Nat.le_of_ble_eq_true rfl) dX2_restore_27 (fun H locs hP hD hS => ?_)
    have hP : va_P G vwCl (([[((a 0), .inr (2, [.ref (a 1), .int (yc - (1 : Int32))]))], [((a 1), .inl (cG, 4, .inr (.inr (.inr (.inr (hRefs (a 2) (a 12) (a 22) (a 32) yp))))))], wGV cI (a 2) (a 3) (a 4) (a 5) (a 6) (a 7) (a 8) (a 9) (a 10) (a 11) (yg 0), wGV cI (a 12) (a 13) (a 14) (a 15) (a 16) (a 17) (a 18) (a 19) (a 20) (a 21) (yg 1), wGV cI (a 22) (a 23) (a 24) (a 25) (a 26) (a 27) (a 28) (a 29) (a 30) (a 31) (yg 2), wGV cI (a 32) (a 33) (a 34) (a 35) (a 36) (a 37) (a 38) (a 39) (a 40) (a 41) (yg 3), wG cI b0 b1 b2 b3 b4 b5 b6 b7 b8 b9 x5.1 x5.2.1 x5.2.2.1 x5.2.2.2.1 x5.2.2.2.2.1 x5.2.2.2.2.2.1 x5.2.2.2.2.2.2.1 x5.2.2.2.2.2.2.2.1 x5.2.2.2.2.2.2.2.2.1 x5.2.2.2.2.2.2.2.2.2.1 x5.2.2.2.2.2.2.2.2.2.2] : List va_W).flatten) H := hP
    have hD : va_D A (([[((a 0), .inr (2, [.ref (a 1), .int (yc - (1 : Int32))]))], [((a 1), .inl (cG, 4, .inr (.inr (.inr (.inr (hRefs (a 2) (a 12) (a 22) (a 32) yp))))))], wGV cI (a 2) (a 3) (a 4) (a 5) (a 6) (a 7) (a 8) (a 9) (a 10) (a 11) (yg 0), wGV cI (a 12) (a 13) (a 14) (a 15) (a 16) (a 17) (a 18) (a 19) (a 20) (a 21) (yg 1), wGV cI (a 22) (a 23) (a 24) (a 25) (a 26) (a 27) (a 28) (a 29) (a 30) (a 31) (yg 2), wGV cI (a 32) (a 33) (a 34) (a 35) (a 36) (a 37) (a 38) (a 39) (a 40) (a 41) (yg 3), wG cI b0 b1 b2 b3 b4 b5 b6 b7 b8 b9 x5.1 x5.2.1 x5.2.2.1 x5.2.2.2.1 x5.2.2.2.2.1 x5.2.2.2.2.2.1 x5.2.2.2.2.2.2.1 x5.2.2.2.2.2.2.2.1 x5.2.2.2.2.2.2.2.2.1 x5.2.2.2.2.2.2.2.2.2.1 x5.2.2.2.2.2.2.2.2.2.2] : List va_W).flatten) := hD
    obtain rfl := o_s h
    rw [hQ]
    exact end_v hx hb hr hP hD hS dX2_restore_30 hlocks
  · obtain ⟨x6, ex6, h⟩ := o_b h
    refine bcall_vV (As := [.ref (a 32)]) (rest := []) (c0 := [wG cI b0 b1 b2 b3 b4 b5 b6 b7 b8 b9 o_ft o_er o_eb o_li o_st o_rd o_tu o_la o_dl o_sh o_tb, wGV cI (a 32) (a 33) (a 34) (a 35) (a 36) (a 37) (a 38) (a 39) (a 40) (a 41) (yg 3)]) (c1 := [wG cI b0 b1 b2 b3 b4 b5 b6 b7 b8 b9 x6.1 x6.2.1 x6.2.2.1 x6.2.2.2.1 x6.2.2.2.2.1 x6.2.2.2.2.2.1 x6.2.2.2.2.2.2.1 x6.2.2.2.2.2.2.2.1 x6.2.2.2.2.2.2.2.2.1 x6.2.2.2.2.2.2.2.2.2.1 x6.2.2.2.2.2.2.2.2.2.2, wGV cI (a 32) (a 33) (a 34) (a 35) (a 36) (a 37) (a 38) (a 39) (a 40) (a 41) (yg 3)]) (bs2 := [[((a 0), .inr (2, [.ref (a 1), .int yc]))], [((a 1), .inl (cG, 4, .inr (.inr (.inr (.inr (hRefs (a 2) (a 12) (a 22) (a 32) yp))))))], wGV cI (a 2) (a 3) (a 4) (a 5) (a 6) (a 7) (a 8) (a 9) (a 10) (a 11) (yg 0), wGV cI (a 12) (a 13) (a 14) (a 15) (a 16) (a 17) (a 18) (a 19) (a 20) (a 21) (yg 1), wGV cI (a 22) (a 23) (a 24) (a 25) (a 26) (a 27) (a 28) (a 29) (a 30) (a 31) (yg 2), wGV cI (a 32) (a 33) (a 34) (a 35) (a 36) (a 37) (a 38) (a 39) (a 40) (a 41) (yg 3), wG cI b0 b1 b2 b3 b4 b5 b6 b7 b8 b9 x6.1 x6.2.1 x6.2.2.1 x6.2.2.2.1 x6.2.2.2.2.1 x6.2.2.2.2.2.1 x6.2.2.2.2.2.2.1 x6.2.2.2.2.2.2.2.1 x6.2.2.2.2.2.2.2.2.1 x6.2.2.2.2.2.2.2.2.2.1 x6.2.2.2.2.2.2.2.2.2.2]) ⟨hx, hb, hml, hown, hts⟩ (cX1_copyFrom_ok l G cI cG b0 b1 b2 b3 b4 b5 b6 b7 b8 b9 (a 32) (a 33) (a 34) (a 35) (a 36) (a 37) (a 38) (a 39) (a 40) (a 41) o_ft o_er o_eb o_li o_st o_rd o_tu o_la o_dl o_sh o_tb (yg 3).1 (yg 3).2.1 (yg 3).2.2.1 (yg 3).2.2.2.1 (yg 3).2.2.2.2.1 (yg 3).2.2.2.2.2.1 (yg 3).2.2.2.2.2.2.1 (yg 3).2.2.2.2.2.2.2.1 (yg 3).2.2.2.2.2.2.2.2.1 (yg 3).2.2.2.2.2.2.2.2.2.1 (yg 3).2.2.2.2.2.2.2.2.2.2 x6 ex6) (cwV 1 hts gX2_restore_X1_copyFrom_29 rfl rfl rfl hdX1_copyFrom ⟨Nat.le_of_ble_eq_true rfl, Nat.le_of_ble_eq_true rfl⟩) hP hD hS hA hK 1 rfl rfl rfl [6, 5] rfl rfl rfl rfl rfl rfl rfl rfl rfl hl.1 (Nat.le_of_ble_eq_true rfl) dX2_restore_17 ⟨Nat.zero_le _, Nat.zero_le _⟩ (fun H locs hP hD hS => ?_)
    refine lv_aload_n hx hb dX2_restore_20 rfl (lv_at hl 1 rfl) ?_
    refine lv_dup hx hb dX2_restore_21 rfl ?_
    refine va_get (D := G) (ci := 2) (v := .int yc) (C := RX2) (T := TX2) (N := 2) hx hb hts huX2_restore_X2 hown hK.1 hP 0 rfl rfl 1 (by decide) hw0 (fun _ h9 => h9) rfl dX2_restore_22 ?_
    refine lv_iconst (v := 1) hx hb dX2_restore_25 (by decide) ?_
    refine lv_isub hx hb dX2_restore_26 ?_
    refine va_put (D := G) (ci := 2) (v := .int (yc - (1 : Int32))) (ty := .int) (C := RX2) (T := TX2) (N := 2) hx hb hts huX2_restore_X2 tyX2 tyX2_ok nmX2 hown hK.1 hP hD hS 0 rfl rfl 1 (by decide) hw0 (fun _ h9 => h9) rfl (by decide +kernel) rfl rfl (Nat.le_of_ble_eq_true rfl) dX2_restore_27 (fun H locs hP hD hS => ?_)
    have hP : va_P G vwCl (([[((a 0), .inr (2, [.ref (a 1), .int (yc - (1 : Int32))]))], [((a 1), .inl (cG, 4, .inr (.inr (.inr (.inr (hRefs (a 2) (a 12) (a 22) (a 32) yp))))))], wGV cI (a 2) (a 3) (a 4) (a 5) (a 6) (a 7) (a 8) (a 9) (a 10) (a 11) (yg 0), wGV cI (a 12) (a 13) (a 14) (a 15) (a 16) (a 17) (a 18) (a 19) (a 20) (a 21) (yg 1), wGV cI (a 22) (a 23) (a 24) (a 25) (a 26) (a 27) (a 28) (a 29) (a 30) (a 31) (yg 2), wGV cI (a 32) (a 33) (a 34) (a 35) (a 36) (a 37) (a 38) (a 39) (a 40) (a 41) (yg 3), wG cI b0 b1 b2 b3 b4 b5 b6 b7 b8 b9 x6.1 x6.2.1 x6.2.2.1 x6.2.2.2.1 x6.2.2.2.2.1 x6.2.2.2.2.2.1 x6.2.2.2.2.2.2.1 x6.2.2.2.2.2.2.2.1 x6.2.2.2.2.2.2.2.2.1 x6.2.2.2.2.2.2.2.2.2.1 x6.2.2.2.2.2.2.2.2.2.2] : List va_W).flatten) H := hP
    have hD : va_D A (([[((a 0), .inr (2, [.ref (a 1), .int (yc - (1 : Int32))]))], [((a 1), .inl (cG, 4, .inr (.inr (.inr (.inr (hRefs (a 2) (a 12) (a 22) (a 32) yp))))))], wGV cI (a 2) (a 3) (a 4) (a 5) (a 6) (a 7) (a 8) (a 9) (a 10) (a 11) (yg 0), wGV cI (a 12) (a 13) (a 14) (a 15) (a 16) (a 17) (a 18) (a 19) (a 20) (a 21) (yg 1), wGV cI (a 22) (a 23) (a 24) (a 25) (a 26) (a 27) (a 28) (a 29) (a 30) (a 31) (yg 2), wGV cI (a 32) (a 33) (a 34) (a 35) (a 36) (a 37) (a 38) (a 39) (a 40) (a 41) (yg 3), wG cI b0 b1 b2 b3 b4 b5 b6 b7 b8 b9 x6.1 x6.2.1 x6.2.2.1 x6.2.2.2.1 x6.2.2.2.2.1 x6.2.2.2.2.2.1 x6.2.2.2.2.2.2.1 x6.2.2.2.2.2.2.2.1 x6.2.2.2.2.2.2.2.2.1 x6.2.2.2.2.2.2.2.2.2.1 x6.2.2.2.2.2.2.2.2.2.2] : List va_W).flatten) := hD
    obtain rfl := o_s h
    rw [hQ]
    exact end_v hx hb hr hP hD hS dX2_restore_30 hlocks
