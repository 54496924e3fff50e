theorem hdX6_thrown : yX6_thrown.cls = RX6 ∧ yX6_thrown.cls ≠ "java/lang/invoke/MethodHandle" ∧ yX6_thrown.cls ≠ "java/lang/invoke/VarHandle" ∧ (parseMethodDescriptor yX6_thrown.desc).map (fun d => d.parameters.length) = some 0 := by decide +kernel
set_option maxHeartbeats 4000000 in
set_option maxRecDepth 100000 in
theorem cX6_thrown_ok (l : Launch) (G : va_G) (cI cG : ClassId) (a0 a1 a2 a3 a4 : Nat) (th : Int32) (sa : (Nat → Int32)) (asd : (Nat → Int32)) (sv : (Nat → Int32)) (sm : Int32) (mt : (Nat → Int32)) (ln : Int32) (nx : Int32) (cd : Int32) (dg : Int32) (pw : Int32) (hs : Int64) (out : Int32) (hf : fX6_thrown th = some out) : CI l G (tyz cI cG) yX6_thrown wsX6_thrown ({ frames := 0, cells := 0, slots := 0, locals := 0 } : Room) [.ref a0] [(a0, .inr (9, [.int th, .ref a1, .ref a2, .ref a3, .int sm, .ref a4, .int ln, .int nx, .int cd, .int dg, .int pw, .long hs])), (a1, .inl (cI, 378, .inl sa)), (a2, .inl (cI, 378, .inl asd)), (a3, .inl (cI, 1512, .inl sv)), (a4, .inl (cI, 120, .inl mt))] out [(a0, .inr (9, [.int th, .ref a1, .ref a2, .ref a3, .int sm, .ref a4, .int ln, .int nx, .int cd, .int dg, .int pw, .long hs])), (a1, .inl (cI, 378, .inl sa)), (a2, .inl (cI, 378, .inl asd)), (a3, .inl (cI, 1512, .inl sv)), (a4, .inl (cI, 120, .inl mt))] := by
  intro sz
  refine Met.ofW (cc := cX6_thrown) (maxL := 1) (ret := (some .int)) (by decide) rfl ?_
  intro p e s m args below meth c s₁ B hml hv
  obtain ⟨rfl, hsz, hP, hK, hD0⟩ := hv
  have hx := B.exec
  have hb := B.bytes
  have hr := B.returns
  have hts := atoms_spec (ws := wsX6_thrown) B.pre
  have hown : s.vm.findClass RX6 = some m.cls := findClass_of_methodNamed B.named
  have hlocks := B.notSynchronized
  subst hsz
  have hD := hD0.self (sz := s.heap.size)
  generalize hAe : va_A [(a0, .inr (9, [.int th, .ref a1, .ref a2, .ref a3, .int sm, .ref a4, .int ln, .int nx, .int cd, .int dg, .int pw, .long hs])), (a1, .inl (cI, 378, .inl sa)), (a2, .inl (cI, 378, .inl asd)), (a3, .inl (cI, 1512, .inl sv)), (a4, .inl (cI, 120, .inl mt))] s.heap.size = A at hD ⊢
  have hA : ∀ q : Nat, s.heap.size ≤ q → A q := fun q h => by rw [← hAe]; exact Or.inr h
  have hS : va_S A s.heap s.heap [] := va_S.rf
  have hw0 := hts (.fieldLink RX6 22 "SpeedTurnsModel" "thrown" "I") (List.mem_of_getElem? (i := 1) rfl)
  have hin6 : ∀ w ∈ u_ws RX6 TX6 12, w ∈ wsX6_thrown := by decide +kernel
  show W p l e ({ frames := 0, cells := 0, slots := 0, locals := 0 } : Room) s m _ below meth c s.heap [] 0 0 _ _
  refine W_genQ (fun Q hQ => ?_)
  have h := hf
  rw [fX6_thrown] at h
  have hl := lv_entry ([.ref a0]) (n := 1) (Nat.le_of_ble_eq_true rfl)
  rw [lg_entry_eq]
  generalize (lg_sl ([.ref a0]) ++ List.replicate (1 - (lg_sl ([.ref a0])).length) Slot.unset).toArray = ls at hl ⊢
  have hl : lv_has ls 1 [(0, .ref a0)] := hl
  refine lv_aload_n hx hb dX6_thrown_0 rfl (lv_at hl 0 rfl) ?_
  refine va_get (D := G) (ci := 9) (v := .int th) (C := RX6) (T := TX6) (N := 12) hx hb hts hin6 hown hK.1 hP 0 rfl rfl 0 (by decide) hw0 (fun _ h9 => h9) rfl dX6_thrown_1 ?_
  obtain rfl := o_s h
  rw [hQ]
  exact end_i hx hb hr rfl hP hD hS dX6_thrown_4 hlocks
theorem hdX6_in : yX6_in.cls ≠ "java/lang/invoke/MethodHandle" ∧ yX6_in.cls ≠ "java/lang/invoke/VarHandle" ∧ (parseMethodDescriptor yX6_in.desc).map (fun d => d.parameters.length) = some 3 := by decide +kernel
set_option maxHeartbeats 4000000 in
set_option maxRecDepth 100000 in
theorem cX6_in_ok (l : Launch) (G : va_G) (cI cG : ClassId) (p0 : Int32) (p1 : Int32) (p2 : Int32) (out : Bool) (hf : fX6_in p0 p1 p2 = some out) : CI l G (tyz cI cG) yX6_in wsX6_in ({ frames := 0, cells := 0, slots := 0, locals := 0 } : Room) [.int p0, .int p1, .int p2] [] (bI out) [] := by
  intro sz
  refine Met.ofW (cc := cX6_in) (maxL := 3) (ret := (some .boolean)) (by decide) rfl ?_
  intro p e s m args below meth c s₁ B hml hv
  obtain ⟨rfl, hsz, hP, hK, hD0⟩ := hv
  have hx := B.exec
  have hb := B.bytes
  have hr := B.returns
  have hts := atoms_spec (ws := wsX6_in) B.pre
  have hown : s.vm.findClass RX6 = some m.cls := findClass_of_methodNamed B.named
  have hlocks := B.notSynchronized
  subst hsz
  have hD := hD0.self (sz := s.heap.size)
  generalize hAe : va_A [] s.heap.size = A at hD ⊢
  have hA : ∀ q : Nat, s.heap.size ≤ q → A q := fun q h => by rw [← hAe]; exact Or.inr h
  have hS : va_S A s.heap s.heap [] := va_S.rf
  show W p l e ({ frames := 0, cells := 0, slots := 0, locals := 0 } : Room) s m _ below meth c s.heap [] 0 0 _ _
  refine W_genQ (fun Q hQ => ?_)
  have h := hf
  rw [fX6_in] at h
  have hl := lv_entry ([.int p0, .int p1, .int p2]) (n := 3) (Nat.le_of_ble_eq_true rfl)
  rw [lg_entry_eq]
  generalize (lg_sl ([.int p0, .int p1, .int p2]) ++ List.replicate (3 - (lg_sl ([.int p0, .int p1, .int p2])).length) Slot.unset).toArray = ls at hl ⊢
  have hl : lv_has ls 3 [(0, .int p0), (1, .int p1), (2, .int p2)] := hl
  refine lv_iload_n hx hb dX6_in_0 rfl (lv_at hl 0 rfl) ?_
  refine lv_iload_n hx hb dX6_in_1 rfl (lv_at hl 1 rfl) ?_
  refine lv_icmp_lt (tgt := 14) hx hb dX6_in_2 (by decide) (fun hc => ?_) (fun hc => ?_)
  · have h := o_t h hc
    refine lv_iconst (v := 0) hx hb dX6_in_14 (by decide) ?_
    obtain rfl := o_s h
    rw [hQ]
    exact end_z hx hb hr rfl rfl hP hD hS dX6_in_15 hlocks
  · have h := o_f h hc
    refine lv_iload_n hx hb dX6_in_5 rfl (lv_at hl 0 rfl) ?_
    refine lv_iload_n hx hb dX6_in_6 rfl (lv_at hl 2 rfl) ?_
    refine lv_icmp_gt (tgt := 14) hx hb dX6_in_7 (by decide) (fun hc => ?_) (fun hc => ?_)
    · have h := o_t h hc
      refine lv_iconst (v := 0) hx hb dX6_in_14 (by decide) ?_
      obtain rfl := o_s h
      rw [hQ]
      exact end_z hx hb hr rfl rfl hP hD hS dX6_in_15 hlocks
    · have h := o_f h hc
      refine lv_iconst (v := 1) hx hb dX6_in_10 (by decide) ?_
      refine lv_goto (tgt := 15) hx hb dX6_in_11 (by decide) ?_
      obtain rfl := o_s h
      rw [hQ]
      exact end_z hx hb hr rfl rfl hP hD hS dX6_in_15 hlocks
theorem hdX6_fails : yX6_fails.cls = RX6 ∧ yX6_fails.cls ≠ "java/lang/invoke/MethodHandle" ∧ yX6_fails.cls ≠ "java/lang/invoke/VarHandle" ∧ (parseMethodDescriptor yX6_fails.desc).map (fun d => d.parameters.length) = some 1 := by decide +kernel
set_option maxHeartbeats 4000000 in
set_option maxRecDepth 100000 in
theorem cX6_fails_ok (l : Launch) (G : va_G) (cI cG : ClassId) (a0 a1 a2 a3 a4 : Nat) (th : Int32) (sa : (Nat → Int32)) (asd : (Nat → Int32)) (sv : (Nat → Int32)) (sm : Int32) (mt : (Nat → Int32)) (ln : Int32) (nx : Int32) (cd : Int32) (dg : Int32) (pw : Int32) (hs : Int64) (p1 : Int32) (out : Int32 × Int32) (hf : fX6_fails th p1 = some out) : CI l G (tyz cI cG) yX6_fails wsX6_fails ({ frames := 0, cells := 0, slots := 0, locals := 0 } : Room) [.ref a0, .int p1] [(a0, .inr (9, [.int th, .ref a1, .ref a2, .ref a3, .int sm, .ref a4, .int ln, .int nx, .int cd, .int dg, .int pw, .long hs])), (a1, .inl (cI, 378, .inl sa)), (a2, .inl (cI, 378, .inl asd)), (a3, .inl (cI, 1512, .inl sv)), (a4, .inl (cI, 120, .inl mt))] out.1 [(a0, .inr (9, [.int out.2, .ref a1, .ref a2, .ref a3, .int sm, .ref a4, .int ln, .int nx, .int cd, .int dg, .int pw, .long hs])), (a1, .inl (cI, 378, .inl sa)), (a2, .inl (cI, 378, .inl asd)), (a3, .inl (cI, 1512, .inl sv)), (a4, .inl (cI, 120, .inl mt))] := by
  intro sz
  refine Met.ofW (cc := cX6_fails) (maxL := 2) (ret := (some .int)) (by decide) rfl ?_
  intro p e s m args below meth c s₁ B hml hv
  obtain ⟨rfl, hsz, hP, hK, hD0⟩ := hv
  have hx := B.exec
  have hb := B.bytes
  have hr := B.returns
  have hts := atoms_spec (ws := wsX6_fails) B.pre
  have hown : s.vm.findClass RX6 = some m.cls := findClass_of_methodNamed B.named
  have hlocks := B.notSynchronized
  subst hsz
  have hD := hD0.self (sz := s.heap.size)
  generalize hAe : va_A [(a0, .inr (9, [.int th, .ref a1, .ref a2, .ref a3, .int sm, .ref a4, .int ln, .int nx, .int cd, .int dg, .int pw, .long hs])), (a1, .inl (cI, 378, .inl sa)), (a2, .inl (cI, 378, .inl asd)), (a3, .inl (cI, 1512, .inl sv)), (a4, .inl (cI, 120, .inl mt))] s.heap.size = A at hD ⊢
  have hA : ∀ q : Nat, s.heap.size ≤ q → A q := fun q h => by rw [← hAe]; exact Or.inr h
  have hS : va_S A s.heap s.heap [] := va_S.rf
  have hw0 := hts (.fieldLink RX6 22 "SpeedTurnsModel" "thrown" "I") (List.mem_of_getElem? (i := 1) rfl)
  have hin6 : ∀ w ∈ u_ws RX6 TX6 12, w ∈ wsX6_fails := by decide +kernel
  show W p l e ({ frames := 0, cells := 0, slots := 0, locals := 0 } : Room) s m _ below meth c s.heap [] 0 0 _ _
  refine W_genQ (fun Q hQ => ?_)
  have h := hf
  rw [fX6_fails] at h
  have hl := lv_entry ([.ref a0, .int p1]) (n := 2) (Nat.le_of_ble_eq_true rfl)
  rw [lg_entry_eq]
  generalize (lg_sl ([.ref a0, .int p1]) ++ List.replicate (2 - (lg_sl ([.ref a0, .int p1])).length) Slot.unset).toArray = ls at hl ⊢
  have hl : lv_has ls 2 [(0, .ref a0), (1, .int p1)] := hl
  refine lv_aload_n hx hb dX6_fails_0 rfl (lv_at hl 0 rfl) ?_
  refine lv_iload_n hx hb dX6_fails_1 rfl (lv_at hl 1 rfl) ?_
  refine va_put (D := G) (ci := 9) (v := .int p1) (ty := .int) (C := RX6) (T := TX6) (N := 12) hx hb hts hin6 tyX6 tyX6_ok nmX6 hown hK.1 hP hD hS 0 rfl rfl 0 (by decide) hw0 (fun _ h9 => h9) rfl (by decide +kernel) rfl rfl (Nat.le_of_ble_eq_true rfl) dX6_fails_2 (fun H locs hP hD hS => ?_)
  have hP : va_P G vwCl [(a0, .inr (9, [.int p1, .ref a1, .ref a2, .ref a3, .int sm, .ref a4, .int ln, .int nx, .int cd, .int dg, .int pw, .long hs])), (a1, .inl (cI, 378, .inl sa)), (a2, .inl (cI, 378, .inl asd)), (a3, .inl (cI, 1512, .inl sv)), (a4, .inl (cI, 120, .inl mt))] H := hP
  have hD : va_D A [(a0, .inr (9, [.int p1, .ref a1, .ref a2, .ref a3, .int sm, .ref a4, .int ln, .int nx, .int cd, .int dg, .int pw, .long hs])), (a1, .inl (cI, 378, .inl sa)), (a2, .inl (cI, 378, .inl asd)), (a3, .inl (cI, 1512, .inl sv)), (a4, .inl (cI, 120, .inl mt))] := hD
  refine lv_iconst (v := 0) hx hb dX6_fails_5 (by decide) ?_
  obtain rfl := o_s h
  rw [hQ]
  exact end_i hx hb hr rfl hP hD hS dX6_fails_6 hlocks
theorem hdX6_save : yX6_save.cls = RX6 ∧ yX6_save.cls ≠ "java/lang/invoke/MethodHandle" ∧ yX6_save.cls ≠ "java/lang/invoke/VarHandle" ∧ (parseMethodDescriptor yX6_save.desc).map (fun d => d.parameters.length) = some 0 := by decide +kernel
set_option maxHeartbeats 4000000 in
set_option maxRecDepth 100000 in
theorem cX6_save_ok (l : Launch) (G : va_G) (cI cG : ClassId) (a0 a1 a2 a3 a4 : Nat) (fu : Nat) (th : Int32) (sa : (Nat → Int32)) (asd : (Nat → Int32)) (sv : (Nat → Int32)) (sm : Int32) (mt : (Nat → Int32)) (ln : Int32) (nx : Int32) (cd : Int32) (dg : Int32) (pw : Int32) (hs : Int64) (out : (Nat → Int32) × Int32) (hf : fX6_save fu sa sv sm = some out) : CV l G (tyz cI cG) yX6_save wsX6_save ({ frames := 0, cells := 0, slots := 0, locals := 0 } : Room) [.ref a0] [(a0, .inr (9, [.int th, .ref a1, .ref a2, .ref a3, .int sm, .ref a4, .int ln, .int nx, .int cd, .int dg, .int pw, .long hs])), (a1, .inl (cI, 378, .inl sa)), (a2, .inl (cI, 378, .inl asd)), (a3, .inl (cI, 1512, .inl sv)), (a4, .inl (cI, 120, .inl mt))] [(a0, .inr (9, [.int th, .ref a1, .ref a2, .ref a3, .int out.2, .ref a4, .int ln, .int nx, .int cd, .int dg, .int pw, .long hs])), (a1, .inl (cI, 378, .inl sa)), (a2, .inl (cI, 378, .inl asd)), (a3, .inl (cI, 1512, .inl out.1)), (a4, .inl (cI, 120, .inl mt))] := by
  intro sz
  refine Met.ofW (cc := cX6_save) (maxL := 2) (ret := none) (by decide) rfl ?_
  intro p e s m args below meth c s₁ B hml hv
  obtain ⟨rfl, hsz, hP, hK, hD0⟩ := hv
  have hx := B.exec
  have hb := B.bytes
  have hr := B.returns
  have hts := atoms_spec (ws := wsX6_save) B.pre
  have hown : s.vm.findClass RX6 = some m.cls := findClass_of_methodNamed B.named
  have hlocks := B.notSynchronized
  subst hsz
  have hD := hD0.self (sz := s.heap.size)
  generalize hAe : va_A [(a0, .inr (9, [.int th, .ref a1, .ref a2, .ref a3, .int sm, .ref a4, .int ln, .int nx, .int cd, .int dg, .int pw, .long hs])), (a1, .inl (cI, 378, .inl sa)), (a2, .inl (cI, 378, .inl asd)), (a3, .inl (cI, 1512, .inl sv)), (a4, .inl (cI, 120, .inl mt))] s.heap.size = A at hD ⊢
  have hA : ∀ q : Nat, s.heap.size ≤ q → A q := fun q h => by rw [← hAe]; exact Or.inr h
  have hS : va_S A s.heap s.heap [] := va_S.rf
  have hw0 := hts (.fieldLink RX6 26 "SpeedTurnsModel" "savedMany" "I") (List.mem_of_getElem? (i := 1) rfl)
  have hin6 : ∀ w ∈ u_ws RX6 TX6 12, w ∈ wsX6_save := by decide +kernel
  have hw2 := hts (.fieldLink RX6 16 "SpeedTurnsModel" "saved" "[I") (List.mem_of_getElem? (i := 2) rfl)
  have hw3 := hts (.fieldLink RX6 7 "SpeedTurnsModel" "s" "[I") (List.mem_of_getElem? (i := 3) rfl)
  show W p l e ({ frames := 0, cells := 0, slots := 0, locals := 0 } : Room) s m _ below meth c s.heap [] 0 0 _ _
  refine W_genQ (fun Q hQ => ?_)
  have L51 : ∀ (k : Nat) (sv : (Nat → Int32)) (sm : Int32) (v1 : Int32) (H : Heap) (locs : List Loc) (ls : Array Slot), fX6_save_L51 fu sa k sv sm v1 = some out → va_P G vwCl [(a0, .inr (9, [.int th, .ref a1, .ref a2, .ref a3, .int sm, .ref a4, .int ln, .int nx, .int cd, .int dg, .int pw, .long hs])), (a1, .inl (cI, 378, .inl sa)), (a2, .inl (cI, 378, .inl asd)), (a3, .inl (cI, 1512, .inl sv)), (a4, .inl (cI, 120, .inl mt))] H → va_D A [(a0, .inr (9, [.int th, .ref a1, .ref a2, .ref a3, .int sm, .ref a4, .int ln, .int nx, .int cd, .int dg, .int pw, .long hs])), (a1, .inl (cI, 378, .inl sa)), (a2, .inl (cI, 378, .inl asd)), (a3, .inl (cI, 1512, .inl sv)), (a4, .inl (cI, 120, .inl mt))] → va_S A s.heap H locs → lv_has ls 2 [(0, .ref a0), (1, .int v1)] → W p l e ({ frames := 0, cells := 0, slots := 0, locals := 0 } : Room) s m ([.ref a0] : List Value).toArray below meth c H locs 0 0 Q (F0 m 51 ls []) := by
    intro k
    induction k with
    | zero => intro sv sm v1 H locs ls h hP hD hS hl; rw [fX6_save_L51] at h; exact o_n h
    | succ k ih =>
      intro sv sm v1 H locs ls h hP hD hS hl
      rw [fX6_save_L51] at h
      refine lv_iload_n hx hb dX6_save_51 rfl (lv_at hl 1 rfl) ?_
      refine lv_sipush (v := 378) hx hb dX6_save_52 (by decide) ?_
      refine lv_icmp_ge (tgt := 85) hx hb dX6_save_55 (by decide) (fun hc => ?_) (fun hc => ?_)
      · have h := o_t h hc
        refine lv_aload_n hx hb dX6_save_85 rfl (lv_at hl 0 rfl) ?_
        refine lv_dup hx hb dX6_save_86 rfl ?_
        refine va_get (D := G) (ci := 9) (v := .int sm) (C := RX6) (T := TX6) (N := 12) hx hb hts hin6 hown hK.1 hP 0 rfl rfl 4 (by decide) hw0 (fun _ h9 => h9) rfl dX6_save_87 ?_
        refine lv_iconst (v := 1) hx hb dX6_save_90 (by decide) ?_
        refine lv_iadd hx hb dX6_save_91 ?_
        refine va_put (D := G) (ci := 9) (v := .int (sm + (1 : Int32))) (ty := .int) (C := RX6) (T := TX6) (N := 12) hx hb hts hin6 tyX6 tyX6_ok nmX6 hown hK.1 hP hD hS 0 rfl rfl 4 (by decide) hw0 (fun _ h9 => h9) rfl (by decide +kernel) rfl rfl (Nat.le_of_ble_eq_true rfl) dX6_save_92 (fun H locs hP hD hS => ?_)
        have hP : va_P G vwCl [(a0, .inr (9, [.int th, .ref a1, .ref a2, .ref a3, .int (sm + (1 : Int32)), .ref a4, .int ln, .int nx, .int cd, .int dg, .int pw, .long hs])), (a1, .inl (cI, 378, .inl sa)), (a2, .inl (cI, 378, .inl asd)), (a3, .inl (cI, 1512, .inl sv)), (a4, .inl (cI, 120, .inl mt))] H := hP
        have hD : va_D A [(a0, .inr (9, [.int th, .ref a1, .ref a2, .ref a3, .int (sm + (1 : Int32)), .ref a4, .int ln, .int nx, .int cd, .int dg, .int pw, .long hs])), (a1, .inl (cI, 378, .inl sa)), (a2, .inl (cI, 378, .inl asd)), (a3, .inl (cI, 1512, .inl sv)), (a4, .inl (cI, 120, .inl mt))] := hD
        obtain rfl := o_s h
        rw [hQ]
        exact end_v hx hb hr hP hD hS dX6_save_95 hlocks
      · have h := o_f h hc
        refine lv_aload_n hx hb dX6_save_58 rfl (lv_at hl 0 rfl) ?_
        refine va_get (D := G) (ci := 9) (v := .ref a3) (C := RX6) (T := TX6) (N := 12) hx hb hts hin6 hown hK.1 hP 0 rfl rfl 3 (by decide) hw2 (fun _ h9 => h9) rfl dX6_save_59 ?_
        refine lv_sipush (v := 378) hx hb dX6_save_62 (by decide) ?_
        refine lv_aload_n hx hb dX6_save_65 rfl (lv_at hl 0 rfl) ?_
        refine va_get (D := G) (ci := 9) (v := .int sm) (C := RX6) (T := TX6) (N := 12) hx hb hts hin6 hown hK.1 hP 0 rfl rfl 4 (by decide) hw0 (fun _ h9 => h9) rfl dX6_save_66 ?_
        refine lv_imul hx hb dX6_save_69 ?_
        refine lv_iload_n hx hb dX6_save_70 rfl (lv_at hl 1 rfl) ?_
        refine lv_iadd hx hb dX6_save_71 ?_
        refine lv_aload_n hx hb dX6_save_72 rfl (lv_at hl 0 rfl) ?_
        refine va_get (D := G) (ci := 9) (v := .ref a1) (C := RX6) (T := TX6) (N := 12) hx hb hts hin6 hown hK.1 hP 0 rfl rfl 1 (by decide) hw3 (fun _ h9 => h9) rfl dX6_save_73 ?_
        refine lv_iload_n hx hb dX6_save_76 rfl (lv_at hl 1 rfl) ?_
        obtain ⟨hin, h⟩ := o_g h
        refine va_iald hx hb hK.1 hP 1 0 rfl rfl hin dX6_save_77 ?_
        obtain ⟨hin, h⟩ := o_g h
        refine va_iast hx hb hK.1 hP hD hS 3 0 rfl rfl hin dX6_save_78 (fun H locs hP hD hS => ?_)
        have hP : va_P G vwCl [(a0, .inr (9, [.int th, .ref a1, .ref a2, .ref a3, .int sm, .ref a4, .int ln, .int nx, .int cd, .int dg, .int pw, .long hs])), (a1, .inl (cI, 378, .inl sa)), (a2, .inl (cI, 378, .inl asd)), (a3, .inl (cI, 1512, .inl (upd sv ((((378 : Int32) * sm) + v1)).toNatClampNeg (sa (v1).toNatClampNeg)))), (a4, .inl (cI, 120, .inl mt))] H := hP
        have hD : va_D A [(a0, .inr (9, [.int th, .ref a1, .ref a2, .ref a3, .int sm, .ref a4, .int ln, .int nx, .int cd, .int dg, .int pw, .long hs])), (a1, .inl (cI, 378, .inl sa)), (a2, .inl (cI, 378, .inl asd)), (a3, .inl (cI, 1512, .inl (upd sv ((((378 : Int32) * sm) + v1)).toNatClampNeg (sa (v1).toNatClampNeg)))), (a4, .inl (cI, 120, .inl mt))] := hD
        refine lv_iinc (v := (v1 + 1)) (lv' := [(1, .int (v1 + 1)), (0, .ref a0)]) hx hb dX6_save_79 hl (k := 1) rfl rfl (by decide) rfl (fun ls hl => ?_)
        refine lv_goto (tgt := 51) hx hb dX6_save_82 (by decide) ?_
        exact ih (upd sv ((((378 : Int32) * sm) + v1)).toNatClampNeg (sa (v1).toNatClampNeg)) sm (v1 + 1) _ _ _ h hP hD hS (lv_sub hl [1, 0] rfl)
  have J49 : ∀ (sv : (Nat → Int32)) (sm : Int32) (H : Heap) (locs : List Loc) (ls : Array Slot), fX6_save_J49 fu sa sv sm = some out → va_P G vwCl [(a0, .inr (9, [.int th, .ref a1, .ref a2, .ref a3, .int sm, .ref a4, .int ln, .int nx, .int cd, .int dg, .int pw, .long hs])), (a1, .inl (cI, 378, .inl sa)), (a2, .inl (cI, 378, .inl asd)), (a3, .inl (cI, 1512, .inl sv)), (a4, .inl (cI, 120, .inl mt))] H → va_D A [(a0, .inr (9, [.int th, .ref a1, .ref a2, .ref a3, .int sm, .ref a4, .int ln, .int nx, .int cd, .int dg, .int pw, .long hs])), (a1, .inl (cI, 378, .inl sa)), (a2, .inl (cI, 378, .inl asd)), (a3, .inl (cI, 1512, .inl sv)), (a4, .inl (cI, 120, .inl mt))] → va_S A s.heap H locs → lv_has ls 2 [(0, .ref a0)] → W p l e ({ frames := 0, cells := 0, slots := 0, locals := 0 } : Room) s m ([.ref a0] : List Value).toArray below meth c H locs 0 0 Q (F0 m 49 ls []) := by
    intro sv sm H locs ls h hP hD hS hl
    rw [fX6_save_J49] at h
    refine lv_iconst (v := 0) hx hb dX6_save_49 (by decide) ?_
    refine lv_istore_n (lv' := [(1, .int (0 : Int32)), (0, .ref a0)]) hx hb dX6_save_50 rfl hl (by decide) rfl (fun ls hl => ?_)
    exact L51 fu sv sm (0 : Int32) _ _ _ h hP hD hS (lv_sub hl [1, 0] rfl)
  have L10 : ∀ (k : Nat) (sv : (Nat → Int32)) (sm : Int32) (v1 : Int32) (H : Heap) (locs : List Loc) (ls : Array Slot), fX6_save_L10 fu sa k sv sm v1 = some out → va_P G vwCl [(a0, .inr (9, [.int th, .ref a1, .ref a2, .ref a3, .int sm, .ref a4, .int ln, .int nx, .int cd, .int dg, .int pw, .long hs])), (a1, .inl (cI, 378, .inl sa)), (a2, .inl (cI, 378, .inl asd)), (a3, .inl (cI, 1512, .inl sv)), (a4, .inl (cI, 120, .inl mt))] H → va_D A [(a0, .inr (9, [.int th, .ref a1, .ref a2, .ref a3, .int sm, .ref a4, .int ln, .int nx, .int cd, .int dg, .int pw, .long hs])), (a1, .inl (cI, 378, .inl sa)), (a2, .inl (cI, 378, .inl asd)), (a3, .inl (cI, 1512, .inl sv)), (a4, .inl (cI, 120, .inl mt))] → va_S A s.heap H locs → lv_has ls 2 [(0, .ref a0), (1, .int v1)] → W p l e ({ frames := 0, cells := 0, slots := 0, locals := 0 } : Room) s m ([.ref a0] : List Value).toArray below meth c H locs 0 0 Q (F0 m 10 ls []) := by
    intro k
    induction k with
    | zero => intro sv sm v1 H locs ls h hP hD hS hl; rw [fX6_save_L10] at h; exact o_n h
    | succ k ih =>
      intro sv sm v1 H locs ls h hP hD hS hl
      rw [fX6_save_L10] at h
      refine lv_iload_n hx hb dX6_save_10 rfl (lv_at hl 1 rfl) ?_
      refine lv_sipush (v := 1134) hx hb dX6_save_11 (by decide) ?_
      refine lv_icmp_ge (tgt := 39) hx hb dX6_save_14 (by decide) (fun hc => ?_) (fun hc => ?_)
      · have h := o_t h hc
        refine lv_aload_n hx hb dX6_save_39 rfl (lv_at hl 0 rfl) ?_
        refine lv_dup hx hb dX6_save_40 rfl ?_
        refine va_get (D := G) (ci := 9) (v := .int sm) (C := RX6) (T := TX6) (N := 12) hx hb hts hin6 hown hK.1 hP 0 rfl rfl 4 (by decide) hw0 (fun _ h9 => h9) rfl dX6_save_41 ?_
        refine lv_iconst (v := 1) hx hb dX6_save_44 (by decide) ?_
        refine lv_isub hx hb dX6_save_45 ?_
        refine va_put (D := G) (ci := 9) (v := .int (sm - (1 : Int32))) (ty := .int) (C := RX6) (T := TX6) (N := 12) hx hb hts hin6 tyX6 tyX6_ok nmX6 hown hK.1 hP hD hS 0 rfl rfl 4 (by decide) hw0 (fun _ h9 => h9) rfl (by decide +kernel) rfl rfl (Nat.le_of_ble_eq_true rfl) dX6_save_46 (fun H locs hP hD hS => ?_)
        have hP : va_P G vwCl [(a0, .inr (9, [.int th, .ref a1, .ref a2, .ref a3, .int (sm - (1 : Int32)), .ref a4, .int ln, .int nx, .int cd, .int dg, .int pw, .long hs])), (a1, .inl (cI, 378, .inl sa)), (a2, .inl (cI, 378, .inl asd)), (a3, .inl (cI, 1512, .inl sv)), (a4, .inl (cI, 120, .inl mt))] H := hP
        have hD : va_D A [(a0, .inr (9, [.int th, .ref a1, .ref a2, .ref a3, .int (sm - (1 : Int32)), .ref a4, .int ln, .int nx, .int cd, .int dg, .int pw, .long hs])), (a1, .inl (cI, 378, .inl sa)), (a2, .inl (cI, 378, .inl asd)), (a3, .inl (cI, 1512, .inl sv)), (a4, .inl (cI, 120, .inl mt))] := hD
        exact J49 sv (sm - (1 : Int32)) _ _ _ h hP hD hS (lv_sub hl [0] rfl)
      · have h := o_f h hc
        refine lv_aload_n hx hb dX6_save_17 rfl (lv_at hl 0 rfl) ?_
        refine va_get (D := G) (ci := 9) (v := .ref a3) (C := RX6) (T := TX6) (N := 12) hx hb hts hin6 hown hK.1 hP 0 rfl rfl 3 (by decide) hw2 (fun _ h9 => h9) rfl dX6_save_18 ?_
        refine lv_iload_n hx hb dX6_save_21 rfl (lv_at hl 1 rfl) ?_
        refine lv_aload_n hx hb dX6_save_22 rfl (lv_at hl 0 rfl) ?_
        refine va_get (D := G) (ci := 9) (v := .ref a3) (C := RX6) (T := TX6) (N := 12) hx hb hts hin6 hown hK.1 hP 0 rfl rfl 3 (by decide) hw2 (fun _ h9 => h9) rfl dX6_save_23 ?_
        refine lv_iload_n hx hb dX6_save_26 rfl (lv_at hl 1 rfl) ?_
        refine lv_sipush (v := 378) hx hb dX6_save_27 (by decide) ?_
        refine lv_iadd hx hb dX6_save_30 ?_
        obtain ⟨hin, h⟩ := o_g h
        refine va_iald hx hb hK.1 hP 3 0 rfl rfl hin dX6_save_31 ?_
        obtain ⟨hin, h⟩ := o_g h
        refine va_iast hx hb hK.1 hP hD hS 3 0 rfl rfl hin dX6_save_32 (fun H locs hP hD hS => ?_)
        have hP : va_P G vwCl [(a0, .inr (9, [.int th, .ref a1, .ref a2, .ref a3, .int sm, .ref a4, .int ln, .int nx, .int cd, .int dg, .int pw, .long hs])), (a1, .inl (cI, 378, .inl sa)), (a2, .inl (cI, 378, .inl asd)), (a3, .inl (cI, 1512, .inl (upd sv (v1).toNatClampNeg (sv ((v1 + (378 : Int32))).toNatClampNeg)))), (a4, .inl (cI, 120, .inl mt))] H := hP
        have hD : va_D A [(a0, .inr (9, [.int th, .ref a1, .ref a2, .ref a3, .int sm, .ref a4, .int ln, .int nx, .int cd, .int dg, .int pw, .long hs])), (a1, .inl (cI, 378, .inl sa)), (a2, .inl (cI, 378, .inl asd)), (a3, .inl (cI, 1512, .inl (upd sv (v1).toNatClampNeg (sv ((v1 + (378 : Int32))).toNatClampNeg)))), (a4, .inl (cI, 120, .inl mt))] := hD
        refine lv_iinc (v := (v1 + 1)) (lv' := [(1, .int (v1 + 1)), (0, .ref a0)]) hx hb dX6_save_33 hl (k := 1) rfl rfl (by decide) rfl (fun ls hl => ?_)
        refine lv_goto (tgt := 10) hx hb dX6_save_36 (by decide) ?_
        exact ih (upd sv (v1).toNatClampNeg (sv ((v1 + (378 : Int32))).toNatClampNeg)) sm (v1 + 1) _ _ _ h hP hD hS (lv_sub hl [1, 0] rfl)
  have h := hf
  rw [fX6_save] at h
  have hl := lv_entry ([.ref a0]) (n := 2) (Nat.le_of_ble_eq_true rfl)
  rw [lg_entry_eq]
  generalize (lg_sl ([.ref a0]) ++ List.replicate (2 - (lg_sl ([.ref a0])).length) Slot.unset).toArray = ls at hl ⊢
  have hl : lv_has ls 2 [(0, .ref a0)] := hl
  refine lv_aload_n hx hb dX6_save_0 rfl (lv_at hl 0 rfl) ?_
  refine va_get (D := G) (ci := 9) (v := .int sm) (C := RX6) (T := TX6) (N := 12) hx hb hts hin6 hown hK.1 hP 0 rfl rfl 4 (by decide) hw0 (fun _ h9 => h9) rfl dX6_save_1 ?_
  refine lv_iconst (v := 4) hx hb dX6_save_4 (by decide) ?_
  refine lv_icmp_ne (tgt := 49) hx hb dX6_save_5 (by decide) (fun hc => ?_) (fun hc => ?_)
  · have h := o_f h hc
    exact J49 sv sm _ _ _ h hP hD hS (lv_sub hl [0] rfl)
  · have h := o_t h hc
    refine lv_iconst (v := 0) hx hb dX6_save_8 (by decide) ?_
    refine lv_istore_n (lv' := [(1, .int (0 : Int32)), (0, .ref a0)]) hx hb dX6_save_9 rfl hl (by decide) rfl (fun ls hl => ?_)
    exact L10 fu sv sm (0 : Int32) _ _ _ h hP hD hS (lv_sub hl [1, 0] rfl)
theorem hdX6_hold : yX6_hold.cls = RX6 ∧ yX6_hold.cls ≠ "java/lang/invoke/MethodHandle" ∧ yX6_hold.cls ≠ "java/lang/invoke/VarHandle" ∧ (parseMethodDescriptor yX6_hold.desc).map (fun d => d.parameters.length) = some 0 := by decide +kernel
set_option maxHeartbeats 4000000 in
set_option maxRecDepth 100000 in
theorem cX6_hold_ok (l : Launch) (G : va_G) (cI cG : ClassId) (a0 a1 a2 a3 a4 : Nat) (fu : Nat) (th : Int32) (sa : (Nat → Int32)) (asd : (Nat → Int32)) (sv : (Nat → Int32)) (sm : Int32) (mt : (Nat → Int32)) (ln : Int32) (nx : Int32) (cd : Int32) (dg : Int32) (pw : Int32) (hs : Int64) (out : (Nat → Int32)) (hf : fX6_hold fu sa asd = some out) : CV l G (tyz cI cG) yX6_hold wsX6_hold ({ frames := 0, cells := 0, slots := 0, locals := 0 } : Room) [.ref a0] [(a0, .inr (9, [.int th, .ref a1, .ref a2, .ref a3, .int sm, .ref a4, .int ln, .int nx, .int cd, .int dg, .int pw, .long hs])), (a1, .inl (cI, 378, .inl sa)), (a2, .inl (cI, 378, .inl asd)), (a3, .inl (cI, 1512, .inl sv)), (a4, .inl (cI, 120, .inl mt))] [(a0, .inr (9, [.int th, .ref a1, .ref a2, .ref a3, .int sm, .ref a4, .int ln, .int nx, .int cd, .int dg, .int pw, .long hs])), (a1, .inl (cI, 378, .inl sa)), (a2, .inl (cI, 378, .inl out)), (a3, .inl (cI, 1512, .inl sv)), (a4, .inl (cI, 120, .inl mt))] := by
  intro sz
  refine Met.ofW (cc := cX6_hold) (maxL := 2) (ret := none) (by decide) rfl ?_
  intro p e s m args below meth c s₁ B hml hv
  obtain ⟨rfl, hsz, hP, hK, hD0⟩ := hv
  have hx := B.exec
  have hb := B.bytes
  have hr := B.returns
  have hts := atoms_spec (ws := wsX6_hold) B.pre
  have hown : s.vm.findClass RX6 = some m.cls := findClass_of_methodNamed B.named
  have hlocks := B.notSynchronized
  subst hsz
  have hD := hD0.self (sz := s.heap.size)
  generalize hAe : va_A [(a0, .inr (9, [.int th, .ref a1, .ref a2, .ref a3, .int sm, .ref a4, .int ln, .int nx, .int cd, .int dg, .int pw, .long hs])), (a1, .inl (cI, 378, .inl sa)), (a2, .inl (cI, 378, .inl asd)), (a3, .inl (cI, 1512, .inl sv)), (a4, .inl (cI, 120, .inl mt))] s.heap.size = A at hD ⊢
  have hA : ∀ q : Nat, s.heap.size ≤ q → A q := fun q h => by rw [← hAe]; exact Or.inr h
  have hS : va_S A s.heap s.heap [] := va_S.rf
  have hw0 := hts (.fieldLink RX6 13 "SpeedTurnsModel" "aside" "[I") (List.mem_of_getElem? (i := 1) rfl)
  have hin6 : ∀ w ∈ u_ws RX6 TX6 12, w ∈ wsX6_hold := by decide +kernel
  have hw2 := hts (.fieldLink RX6 7 "SpeedTurnsModel" "s" "[I") (List.mem_of_getElem? (i := 2) rfl)
  show W p l e ({ frames := 0, cells := 0, slots := 0, locals := 0 } : Room) s m _ below meth c s.heap [] 0 0 _ _
  refine W_genQ (fun Q hQ => ?_)
  have L2 : ∀ (k : Nat) (asd : (Nat → Int32)) (v1 : Int32) (H : Heap) (locs : List Loc) (ls : Array Slot), fX6_hold_L2 fu sa k asd v1 = some out → va_P G vwCl [(a0, .inr (9, [.int th, .ref a1, .ref a2, .ref a3, .int sm, .ref a4, .int ln, .int nx, .int cd, .int dg, .int pw, .long hs])), (a1, .inl (cI, 378, .inl sa)), (a2, .inl (cI, 378, .inl asd)), (a3, .inl (cI, 1512, .inl sv)), (a4, .inl (cI, 120, .inl mt))] H → va_D A [(a0, .inr (9, [.int th, .ref a1, .ref a2, .ref a3, .int sm, .ref a4, .int ln, .int nx, .int cd, .int dg, .int pw, .long hs])), (a1, .inl (cI, 378, .inl sa)), (a2, .inl (cI, 378, .inl asd)), (a3, .inl (cI, 1512, .inl sv)), (a4, .inl (cI, 120, .inl mt))] → va_S A s.heap H locs → lv_has ls 2 [(0, .ref a0), (1, .int v1)] → W p l e ({ frames := 0, cells := 0, slots := 0, locals := 0 } : Room) s m ([.ref a0] : List Value).toArray below meth c H locs 0 0 Q (F0 m 2 ls []) := by
    intro k
    induction k with
    | zero => intro asd v1 H locs ls h hP hD hS hl; rw [fX6_hold_L2] at h; exact o_n h
    | succ k ih =>
      intro asd v1 H locs ls h hP hD hS hl
      rw [fX6_hold_L2] at h
      refine lv_iload_n hx hb dX6_hold_2 rfl (lv_at hl 1 rfl) ?_
      refine lv_sipush (v := 378) hx hb dX6_hold_3 (by decide) ?_
      refine lv_icmp_ge (tgt := 27) hx hb dX6_hold_6 (by decide) (fun hc => ?_) (fun hc => ?_)
      · have h := o_t h hc
        obtain rfl := o_s h
        rw [hQ]
        exact end_v hx hb hr hP hD hS dX6_hold_27 hlocks
      · have h := o_f h hc
        refine lv_aload_n hx hb dX6_hold_9 rfl (lv_at hl 0 rfl) ?_
        refine va_get (D := G) (ci := 9) (v := .ref a2) (C := RX6) (T := TX6) (N := 12) hx hb hts hin6 hown hK.1 hP 0 rfl rfl 2 (by decide) hw0 (fun _ h9 => h9) rfl dX6_hold_10 ?_
        refine lv_iload_n hx hb dX6_hold_13 rfl (lv_at hl 1 rfl) ?_
        refine lv_aload_n hx hb dX6_hold_14 rfl (lv_at hl 0 rfl) ?_
        refine va_get (D := G) (ci := 9) (v := .ref a1) (C := RX6) (T := TX6) (N := 12) hx hb hts hin6 hown hK.1 hP 0 rfl rfl 1 (by decide) hw2 (fun _ h9 => h9) rfl dX6_hold_15 ?_
        refine lv_iload_n hx hb dX6_hold_18 rfl (lv_at hl 1 rfl) ?_
        obtain ⟨hin, h⟩ := o_g h
        refine va_iald hx hb hK.1 hP 1 0 rfl rfl hin dX6_hold_19 ?_
        obtain ⟨hin, h⟩ := o_g h
        refine va_iast hx hb hK.1 hP hD hS 2 0 rfl rfl hin dX6_hold_20 (fun H locs hP hD hS => ?_)
        have hP : va_P G vwCl [(a0, .inr (9, [.int th, .ref a1, .ref a2, .ref a3, .int sm, .ref a4, .int ln, .int nx, .int cd, .int dg, .int pw, .long hs])), (a1, .inl (cI, 378, .inl sa)), (a2, .inl (cI, 378, .inl (upd asd (v1).toNatClampNeg (sa (v1).toNatClampNeg)))), (a3, .inl (cI, 1512, .inl sv)), (a4, .inl (cI, 120, .inl mt))] H := hP
        have hD : va_D A [(a0, .inr (9, [.int th, .ref a1, .ref a2, .ref a3, .int sm, .ref a4, .int ln, .int nx, .int cd, .int dg, .int pw, .long hs])), (a1, .inl (cI, 378, .inl sa)), (a2, .inl (cI, 378, .inl (upd asd (v1).toNatClampNeg (sa (v1).toNatClampNeg)))), (a3, .inl (cI, 1512, .inl sv)), (a4, .inl (cI, 120, .inl mt))] := hD
        refine lv_iinc (v := (v1 + 1)) (lv' := [(1, .int (v1 + 1)), (0, .ref a0)]) hx hb dX6_hold_21 hl (k := 1) rfl rfl (by decide) rfl (fun ls hl => ?_)
        refine lv_goto (tgt := 2) hx hb dX6_hold_24 (by decide) ?_
        exact ih (upd asd (v1).toNatClampNeg (sa (v1).toNatClampNeg)) (v1 + 1) _ _ _ h hP hD hS (lv_sub hl [1, 0] rfl)
  have h := hf
  rw [fX6_hold] at h
  have hl := lv_entry ([.ref a0]) (n := 2) (Nat.le_of_ble_eq_true rfl)
  rw [lg_entry_eq]
  generalize (lg_sl ([.ref a0]) ++ List.replicate (2 - (lg_sl ([.ref a0])).length) Slot.unset).toArray = ls at hl ⊢
  have hl : lv_has ls 2 [(0, .ref a0)] := hl
  refine lv_iconst (v := 0) hx hb dX6_hold_0 (by decide) ?_
  refine lv_istore_n (lv' := [(1, .int (0 : Int32)), (0, .ref a0)]) hx hb dX6_hold_1 rfl hl (by decide) rfl (fun ls hl => ?_)
  exact L2 fu asd (0 : Int32) _ _ _ h hP hD hS (lv_sub hl [1, 0] rfl)
theorem hdX6_release : yX6_release.cls = RX6 ∧ yX6_release.cls ≠ "java/lang/invoke/MethodHandle" ∧ yX6_release.cls ≠ "java/lang/invoke/VarHandle" ∧ (parseMethodDescriptor yX6_release.desc).map (fun d => d.parameters.length) = some 0 := by decide +kernel
set_option maxHeartbeats 4000000 in
set_option maxRecDepth 100000 in
theorem cX6_release_ok (l : Launch) (G : va_G) (cI cG : ClassId) (a0 a1 a2 a3 a4 : Nat) (fu : Nat) (th : Int32) (sa : (Nat → Int32)) (asd : (Nat → Int32)) (sv : (Nat → Int32)) (sm : Int32) (mt : (Nat → Int32)) (ln : Int32) (nx : Int32) (cd : Int32) (dg : Int32) (pw : Int32) (hs : Int64) (out : (Nat → Int32)) (hf : fX6_release fu sa asd = some out) : CV l G (tyz cI cG) yX6_release wsX6_release ({ frames := 0, cells := 0, slots := 0, locals := 0 } : Room) [.ref a0] [(a0, .inr (9, [.int th, .ref a1, .ref a2, .ref a3, .int sm, .ref a4, .int ln, .int nx, .int cd, .int dg, .int pw, .long hs])), (a1, .inl (cI, 378, .inl sa)), (a2, .inl (cI, 378, .inl asd)), (a3, .inl (cI, 1512, .inl sv)), (a4, .inl (cI, 120, .inl mt))] [(a0, .inr (9, [.int th, .ref a1, .ref a2, .ref a3, .int sm, .ref a4, .int ln, .int nx, .int cd, .int dg, .int pw, .long hs])), (a1, .inl (cI, 378, .inl out)), (a2, .inl (cI, 378, .inl asd)), (a3, .inl (cI, 1512, .inl sv)), (a4, .inl (cI, 120, .inl mt))] := by
  intro sz
  refine Met.ofW (cc := cX6_release) (maxL := 2) (ret := none) (by decide) rfl ?_
  intro p e s m args below meth c s₁ B hml hv
  obtain ⟨rfl, hsz, hP, hK, hD0⟩ := hv
  have hx := B.exec
  have hb := B.bytes
  have hr := B.returns
  have hts := atoms_spec (ws := wsX6_release) B.pre
  have hown : s.vm.findClass RX6 = some m.cls := findClass_of_methodNamed B.named
  have hlocks := B.notSynchronized
  subst hsz
  have hD := hD0.self (sz := s.heap.size)
  generalize hAe : va_A [(a0, .inr (9, [.int th, .ref a1, .ref a2, .ref a3, .int sm, .ref a4, .int ln, .int nx, .int cd, .int dg, .int pw, .long hs])), (a1, .inl (cI, 378, .inl sa)), (a2, .inl (cI, 378, .inl asd)), (a3, .inl (cI, 1512, .inl sv)), (a4, .inl (cI, 120, .inl mt))] s.heap.size = A at hD ⊢
  have hA : ∀ q : Nat, s.heap.size ≤ q → A q := fun q h => by rw [← hAe]; exact Or.inr h
  have hS : va_S A s.heap s.heap [] := va_S.rf
  have hw0 := hts (.fieldLink RX6 7 "SpeedTurnsModel" "s" "[I") (List.mem_of_getElem? (i := 1) rfl)
  have hin6 : ∀ w ∈ u_ws RX6 TX6 12, w ∈ wsX6_release := by decide +kernel
  have hw2 := hts (.fieldLink RX6 13 "SpeedTurnsModel" "aside" "[I") (List.mem_of_getElem? (i := 2) rfl)
  show W p l e ({ frames := 0, cells := 0, slots := 0, locals := 0 } : Room) s m _ below meth c s.heap [] 0 0 _ _
  refine W_genQ (fun Q hQ => ?_)
  have L2 : ∀ (k : Nat) (sa : (Nat → Int32)) (v1 : Int32) (H : Heap) (locs : List Loc) (ls : Array Slot), fX6_release_L2 fu asd k sa v1 = some out → va_P G vwCl [(a0, .inr (9, [.int th, .ref a1, .ref a2, .ref a3, .int sm, .ref a4, .int ln, .int nx, .int cd, .int dg, .int pw, .long hs])), (a1, .inl (cI, 378, .inl sa)), (a2, .inl (cI, 378, .inl asd)), (a3, .inl (cI, 1512, .inl sv)), (a4, .inl (cI, 120, .inl mt))] H → va_D A [(a0, .inr (9, [.int th, .ref a1, .ref a2, .ref a3, .int sm, .ref a4, .int ln, .int nx, .int cd, .int dg, .int pw, .long hs])), (a1, .inl (cI, 378, .inl sa)), (a2, .inl (cI, 378, .inl asd)), (a3, .inl (cI, 1512, .inl sv)), (a4, .inl (cI, 120, .inl mt))] → va_S A s.heap H locs → lv_has ls 2 [(0, .ref a0), (1, .int v1)] → W p l e ({ frames := 0, cells := 0, slots := 0, locals := 0 } : Room) s m ([.ref a0] : List Value).toArray below meth c H locs 0 0 Q (F0 m 2 ls []) := by
    intro k
    induction k with
    | zero => intro sa v1 H locs ls h hP hD hS hl; rw [fX6_release_L2] at h; exact o_n h
    | succ k ih =>
      intro sa v1 H locs ls h hP hD hS hl
      rw [fX6_release_L2] at h
      refine lv_iload_n hx hb dX6_release_2 rfl (lv_at hl 1 rfl) ?_
      refine lv_sipush (v := 378) hx hb dX6_release_3 (by decide) ?_
      refine lv_icmp_ge (tgt := 27) hx hb dX6_release_6 (by decide) (fun hc => ?_) (fun hc => ?_)
      · have h := o_t h hc
        obtain rfl := o_s h
        rw [hQ]
        exact end_v hx hb hr hP hD hS dX6_release_27 hlocks
      · have h := o_f h hc
        refine lv_aload_n hx hb dX6_release_9 rfl (lv_at hl 0 rfl) ?_
        refine va_get (D := G) (ci := 9) (v := .ref a1) (C := RX6) (T := TX6) (N := 12) hx hb hts hin6 hown hK.1 hP 0 rfl rfl 1 (by decide) hw0 (fun _ h9 => h9) rfl dX6_release_10 ?_
        refine lv_iload_n hx hb dX6_release_13 rfl (lv_at hl 1 rfl) ?_
        refine lv_aload_n hx hb dX6_release_14 rfl (lv_at hl 0 rfl) ?_
        refine va_get (D := G) (ci := 9) (v := .ref a2) (C := RX6) (T := TX6) (N := 12) hx hb hts hin6 hown hK.1 hP 0 rfl rfl 2 (by decide) hw2 (fun _ h9 => h9) rfl dX6_release_15 ?_
        refine lv_iload_n hx hb dX6_release_18 rfl (lv_at hl 1 rfl) ?_
        obtain ⟨hin, h⟩ := o_g h
        refine va_iald hx hb hK.1 hP 2 0 rfl rfl hin dX6_release_19 ?_
        obtain ⟨hin, h⟩ := o_g h
        refine va_iast hx hb hK.1 hP hD hS 1 0 rfl rfl hin dX6_release_20 (fun H locs hP hD hS => ?_)
        have hP : va_P G vwCl [(a0, .inr (9, [.int th, .ref a1, .ref a2, .ref a3, .int sm, .ref a4, .int ln, .int nx, .int cd, .int dg, .int pw, .long hs])), (a1, .inl (cI, 378, .inl (upd sa (v1).toNatClampNeg (asd (v1).toNatClampNeg)))), (a2, .inl (cI, 378, .inl asd)), (a3, .inl (cI, 1512, .inl sv)), (a4, .inl (cI, 120, .inl mt))] H := hP
        have hD : va_D A [(a0, .inr (9, [.int th, .ref a1, .ref a2, .ref a3, .int sm, .ref a4, .int ln, .int nx, .int cd, .int dg, .int pw, .long hs])), (a1, .inl (cI, 378, .inl (upd sa (v1).toNatClampNeg (asd (v1).toNatClampNeg)))), (a2, .inl (cI, 378, .inl asd)), (a3, .inl (cI, 1512, .inl sv)), (a4, .inl (cI, 120, .inl mt))] := hD
        refine lv_iinc (v := (v1 + 1)) (lv' := [(1, .int (v1 + 1)), (0, .ref a0)]) hx hb dX6_release_21 hl (k := 1) rfl rfl (by decide) rfl (fun ls hl => ?_)
        refine lv_goto (tgt := 2) hx hb dX6_release_24 (by decide) ?_
        exact ih (upd sa (v1).toNatClampNeg (asd (v1).toNatClampNeg)) (v1 + 1) _ _ _ h hP hD hS (lv_sub hl [1, 0] rfl)
  have h := hf
  rw [fX6_release] at h
  have hl := lv_entry ([.ref a0]) (n := 2) (Nat.le_of_ble_eq_true rfl)
  rw [lg_entry_eq]
  generalize (lg_sl ([.ref a0]) ++ List.replicate (2 - (lg_sl ([.ref a0])).length) Slot.unset).toArray = ls at hl ⊢
  have hl : lv_has ls 2 [(0, .ref a0)] := hl
  refine lv_iconst (v := 0) hx hb dX6_release_0 (by decide) ?_
  refine lv_istore_n (lv' := [(1, .int (0 : Int32)), (0, .ref a0)]) hx hb dX6_release_1 rfl hl (by decide) rfl (fun ls hl => ?_)
  exact L2 fu sa (0 : Int32) _ _ _ h hP hD hS (lv_sub hl [1, 0] rfl)
theorem hdX6_isFighter : yX6_isFighter.cls = RX6 ∧ yX6_isFighter.cls ≠ "java/lang/invoke/MethodHandle" ∧ yX6_isFighter.cls ≠ "java/lang/invoke/VarHandle" ∧ (parseMethodDescriptor yX6_isFighter.desc).map (fun d => d.parameters.length) = some 1 := by decide +kernel
set_option maxHeartbeats 4000000 in
set_option maxRecDepth 100000 in
theorem cX6_isFighter_ok (l : Launch) (G : va_G) (cI cG : ClassId) (a0 a1 a2 a3 a4 : Nat) (th : Int32) (sa : (Nat → Int32)) (asd : (Nat → Int32)) (sv : (Nat → Int32)) (sm : Int32) (mt : (Nat → Int32)) (ln : Int32) (nx : Int32) (cd : Int32) (dg : Int32) (pw : Int32) (hs : Int64) (p1 : Int32) (out : Bool) (hf : fX6_isFighter sa p1 = some out) : CI l G (tyz cI cG) yX6_isFighter wsX6_isFighter ({ frames := 1, cells := 0, slots := 0, locals := 22 } : Room) [.ref a0, .int p1] [(a0, .inr (9, [.int th, .ref a1, .ref a2, .ref a3, .int sm, .ref a4, .int ln, .int nx, .int cd, .int dg, .int pw, .long hs])), (a1, .inl (cI, 378, .inl sa)), (a2, .inl (cI, 378, .inl asd)), (a3, .inl (cI, 1512, .inl sv)), (a4, .inl (cI, 120, .inl mt))] (bI out) [(a0, .inr (9, [.int th, .ref a1, .ref a2, .ref a3, .int sm, .ref a4, .int ln, .int nx, .int cd, .int dg, .int pw, .long hs])), (a1, .inl (cI, 378, .inl sa)), (a2, .inl (cI, 378, .inl asd)), (a3, .inl (cI, 1512, .inl sv)), (a4, .inl (cI, 120, .inl mt))] := by
  intro sz
  refine Met.ofW (cc := cX6_isFighter) (maxL := 2) (ret := (some .boolean)) (by decide) rfl ?_
  intro p e s m args below meth c s₁ B hml hv
  obtain ⟨rfl, hsz, hP, hK, hD0⟩ := hv
  have hx := B.exec
  have hb := B.bytes
  have hr := B.returns
  have hts := atoms_spec (ws := wsX6_isFighter) B.pre
  have hown : s.vm.findClass RX6 = some m.cls := findClass_of_methodNamed B.named
  have hlocks := B.notSynchronized
  subst hsz
  have hD := hD0.self (sz := s.heap.size)
  generalize hAe : va_A [(a0, .inr (9, [.int th, .ref a1, .ref a2, .ref a3, .int sm, .ref a4, .int ln, .int nx, .int cd, .int dg, .int pw, .long hs])), (a1, .inl (cI, 378, .inl sa)), (a2, .inl (cI, 378, .inl asd)), (a3, .inl (cI, 1512, .inl sv)), (a4, .inl (cI, 120, .inl mt))] s.heap.size = A at hD ⊢
  have hA : ∀ q : Nat, s.heap.size ≤ q → A q := fun q h => by rw [← hAe]; exact Or.inr h
  have hS : va_S A s.heap s.heap [] := va_S.rf
  have hw0 := hts (.fieldLink RX6 7 "SpeedTurnsModel" "s" "[I") (List.mem_of_getElem? (i := 1) rfl)
  have hin6 : ∀ w ∈ u_ws RX6 TX6 12, w ∈ wsX6_isFighter := by decide +kernel
  show W p l e ({ frames := 1, cells := 0, slots := 0, locals := 22 } : Room) s m _ below meth c s.heap [] 0 0 _ _
  refine W_genQ (fun Q hQ => ?_)
  have h := hf
  rw [fX6_isFighter] at h
  have hl := lv_entry ([.ref a0, .int p1]) (n := 2) (Nat.le_of_ble_eq_true rfl)
  rw [lg_entry_eq]
  generalize (lg_sl ([.ref a0, .int p1]) ++ List.replicate (2 - (lg_sl ([.ref a0, .int p1])).length) Slot.unset).toArray = ls at hl ⊢
  have hl : lv_has ls 2 [(0, .ref a0), (1, .int p1)] := hl
  refine lv_iload_n hx hb dX6_isFighter_0 rfl (lv_at hl 1 rfl) ?_
  refine lv_iconst (v := 0) hx hb dX6_isFighter_1 (by decide) ?_
  refine lv_aload_n hx hb dX6_isFighter_2 rfl (lv_at hl 0 rfl) ?_
  refine va_get (D := G) (ci := 9) (v := .ref a1) (C := RX6) (T := TX6) (N := 12) hx hb hts hin6 hown hK.1 hP 0 rfl rfl 1 (by decide) hw0 (fun _ h9 => h9) rfl dX6_isFighter_3 ?_
  refine lv_iconst (v := 0) hx hb dX6_isFighter_6 (by decide) ?_
  obtain ⟨hin, h⟩ := o_g h
  refine va_iald hx hb hK.1 hP 1 0 rfl rfl hin dX6_isFighter_7 ?_
  refine lv_iconst (v := 1) hx hb dX6_isFighter_8 (by decide) ?_
  refine lv_isub hx hb dX6_isFighter_9 ?_
  obtain ⟨x1, ex1, h⟩ := o_b h
  refine call_iS (As := [.int p1, .int (0 : Int32), .int ((sa ((0 : Int32)).toNatClampNeg) - (1 : Int32))]) (rest := []) (ws2 := [(a0, .inr (9, [.int th, .ref a1, .ref a2, .ref a3, .int sm, .ref a4, .int ln, .int nx, .int cd, .int dg, .int pw, .long hs])), (a1, .inl (cI, 378, .inl sa)), (a2, .inl (cI, 378, .inl asd)), (a3, .inl (cI, 1512, .inl sv)), (a4, .inl (cI, 120, .inl mt))]) ⟨hx, hb, hml, hown, hts⟩ (cX6_in_ok l G cI cG p1 (0 : Int32) ((sa ((0 : Int32)).toNatClampNeg) - (1 : Int32)) x1 ex1) (va_cwS 3 hts gX6_isFighter_X6_in rfl rfl rfl hdX6_in ⟨Nat.le_of_ble_eq_true rfl, Nat.le_of_ble_eq_true rfl⟩) hP hD hS hA hK [] rfl rfl rfl rfl rfl rfl rfl rfl hl.1 (Nat.le_of_ble_eq_true rfl) dX6_isFighter_10 ⟨Nat.zero_le _, Nat.zero_le _⟩ (fun H locs hP hD hS => ?_)
  obtain rfl := o_s h
  rw [hQ]
  exact end_z hx hb hr rfl (bI_n _) hP hD hS dX6_isFighter_13 hlocks
theorem hdX6_of : yX6_of.cls = RX6 ∧ yX6_of.cls ≠ "java/lang/invoke/MethodHandle" ∧ yX6_of.cls ≠ "java/lang/invoke/VarHandle" ∧ (parseMethodDescriptor yX6_of.desc).map (fun d => d.parameters.length) = some 2 := by decide +kernel
set_option maxHeartbeats 4000000 in
set_option maxRecDepth 100000 in
theorem cX6_of_ok (l : Launch) (G : va_G) (cI cG : ClassId) (a0 a1 a2 a3 a4 : Nat) (th : Int32) (sa : (Nat → Int32)) (asd : (Nat → Int32)) (sv : (Nat → Int32)) (sm : Int32) (mt : (Nat → Int32)) (ln : Int32) (nx : Int32) (cd : Int32) (dg : Int32) (pw : Int32) (hs : Int64) (p1 : Int32) (p2 : Int32) (out : Int32) (hf : fX6_of sa p1 p2 = some out) : CI l G (tyz cI cG) yX6_of wsX6_of ({ frames := 0, cells := 0, slots := 0, locals := 0 } : Room) [.ref a0, .int p1, .int p2] [(a0, .inr (9, [.int th, .ref a1, .ref a2, .ref a3, .int sm, .ref a4, .int ln, .int nx, .int cd, .int dg, .int pw, .long hs])), (a1, .inl (cI, 378, .inl sa)), (a2, .inl (cI, 378, .inl asd)), (a3, .inl (cI, 1512, .inl sv)), (a4, .inl (cI, 120, .inl mt))] out [(a0, .inr (9, [.int th, .ref a1, .ref a2, .ref a3, .int sm, .ref a4, .int ln, .int nx, .int cd, .int dg, .int pw, .long hs])), (a1, .inl (cI, 378, .inl sa)), (a2, .inl (cI, 378, .inl asd)), (a3, .inl (cI, 1512, .inl sv)), (a4, .inl (cI, 120, .inl mt))] := by
  intro sz
  refine Met.ofW (cc := cX6_of) (maxL := 3) (ret := (some .int)) (by decide) rfl ?_
  intro p e s m args below meth c s₁ B hml hv
  obtain ⟨rfl, hsz, hP, hK, hD0⟩ := hv
  have hx := B.exec
  have hb := B.bytes
  have hr := B.returns
  have hts := atoms_spec (ws := wsX6_of) B.pre
  have hown : s.vm.findClass RX6 = some m.cls := findClass_of_methodNamed B.named
  have hlocks := B.notSynchronized
  subst hsz
  have hD := hD0.self (sz := s.heap.size)
  generalize hAe : va_A [(a0, .inr (9, [.int th, .ref a1, .ref a2, .ref a3, .int sm, .ref a4, .int ln, .int nx, .int cd, .int dg, .int pw, .long hs])), (a1, .inl (cI, 378, .inl sa)), (a2, .inl (cI, 378, .inl asd)), (a3, .inl (cI, 1512, .inl sv)), (a4, .inl (cI, 120, .inl mt))] s.heap.size = A at hD ⊢
  have hA : ∀ q : Nat, s.heap.size ≤ q → A q := fun q h => by rw [← hAe]; exact Or.inr h
  have hS : va_S A s.heap s.heap [] := va_S.rf
  have hw0 := hts (.fieldLink RX6 7 "SpeedTurnsModel" "s" "[I") (List.mem_of_getElem? (i := 1) rfl)
  have hin6 : ∀ w ∈ u_ws RX6 TX6 12, w ∈ wsX6_of := by decide +kernel
  show W p l e ({ frames := 0, cells := 0, slots := 0, locals := 0 } : Room) s m _ below meth c s.heap [] 0 0 _ _
  refine W_genQ (fun Q hQ => ?_)
  have h := hf
  rw [fX6_of] at h
  have hl := lv_entry ([.ref a0, .int p1, .int p2]) (n := 3) (Nat.le_of_ble_eq_true rfl)
  rw [lg_entry_eq]
  generalize (lg_sl ([.ref a0, .int p1, .int p2]) ++ List.replicate (3 - (lg_sl ([.ref a0, .int p1, .int p2])).length) Slot.unset).toArray = ls at hl ⊢
  have hl : lv_has ls 3 [(0, .ref a0), (1, .int p1), (2, .int p2)] := hl
  refine lv_aload_n hx hb dX6_of_0 rfl (lv_at hl 0 rfl) ?_
  refine va_get (D := G) (ci := 9) (v := .ref a1) (C := RX6) (T := TX6) (N := 12) hx hb hts hin6 hown hK.1 hP 0 rfl rfl 1 (by decide) hw0 (fun _ h9 => h9) rfl dX6_of_1 ?_
  refine lv_bipush (v := 12) hx hb dX6_of_4 (by decide) ?_
  refine lv_bipush (v := 6) hx hb dX6_of_6 (by decide) ?_
  refine lv_iload_n hx hb dX6_of_8 rfl (lv_at hl 1 rfl) ?_
  refine lv_imul hx hb dX6_of_9 ?_
  refine lv_iadd hx hb dX6_of_10 ?_
  refine lv_iload_n hx hb dX6_of_11 rfl (lv_at hl 2 rfl) ?_
  refine lv_iadd hx hb dX6_of_12 ?_
  obtain ⟨hin, h⟩ := o_g h
  refine va_iald hx hb hK.1 hP 1 0 rfl rfl hin dX6_of_13 ?_
  obtain rfl := o_s h
  rw [hQ]
  exact end_i hx hb hr rfl hP hD hS dX6_of_14 hlocks
theorem hdX6_set : yX6_set.cls = RX6 ∧ yX6_set.cls ≠ "java/lang/invoke/MethodHandle" ∧ yX6_set.cls ≠ "java/lang/invoke/VarHandle" ∧ (parseMethodDescriptor yX6_set.desc).map (fun d => d.parameters.length) = some 3 := by decide +kernel
set_option maxHeartbeats 4000000 in
set_option maxRecDepth 100000 in
theorem cX6_set_ok (l : Launch) (G : va_G) (cI cG : ClassId) (a0 a1 a2 a3 a4 : Nat) (th : Int32) (sa : (Nat → Int32)) (asd : (Nat → Int32)) (sv : (Nat → Int32)) (sm : Int32) (mt : (Nat → Int32)) (ln : Int32) (nx : Int32) (cd : Int32) (dg : Int32) (pw : Int32) (hs : Int64) (p1 : Int32) (p2 : Int32) (p3 : Int32) (out : (Nat → Int32)) (hf : fX6_set sa p1 p2 p3 = some out) : CV l G (tyz cI cG) yX6_set wsX6_set ({ frames := 0, cells := 0, slots := 0, locals := 0 } : Room) [.ref a0, .int p1, .int p2, .int p3] [(a0, .inr (9, [.int th, .ref a1, .ref a2, .ref a3, .int sm, .ref a4, .int ln, .int nx, .int cd, .int dg, .int pw, .long hs])), (a1, .inl (cI, 378, .inl sa)), (a2, .inl (cI, 378, .inl asd)), (a3, .inl (cI, 1512, .inl sv)), (a4, .inl (cI, 120, .inl mt))] [(a0, .inr (9, [.int th, .ref a1, .ref a2, .ref a3, .int sm, .ref a4, .int ln, .int nx, .int cd, .int dg, .int pw, .long hs])), (a1, .inl (cI, 378, .inl out)), (a2, .inl (cI, 378, .inl asd)), (a3, .inl (cI, 1512, .inl sv)), (a4, .inl (cI, 120, .inl mt))] := by
  intro sz
  refine Met.ofW (cc := cX6_set) (maxL := 4) (ret := none) (by decide) rfl ?_
  intro p e s m args below meth c s₁ B hml hv
  obtain ⟨rfl, hsz, hP, hK, hD0⟩ := hv
  have hx := B.exec
  have hb := B.bytes
  have hr := B.returns
  have hts := atoms_spec (ws := wsX6_set) B.pre
  have hown : s.vm.findClass RX6 = some m.cls := findClass_of_methodNamed B.named
  have hlocks := B.notSynchronized
  subst hsz
  have hD := hD0.self (sz := s.heap.size)
  generalize hAe : va_A [(a0, .inr (9, [.int th, .ref a1, .ref a2, .ref a3, .int sm, .ref a4, .int ln, .int nx, .int cd, .int dg, .int pw, .long hs])), (a1, .inl (cI, 378, .inl sa)), (a2, .inl (cI, 378, .inl asd)), (a3, .inl (cI, 1512, .inl sv)), (a4, .inl (cI, 120, .inl mt))] s.heap.size = A at hD ⊢
  have hA : ∀ q : Nat, s.heap.size ≤ q → A q := fun q h => by rw [← hAe]; exact Or.inr h
  have hS : va_S A s.heap s.heap [] := va_S.rf
  have hw0 := hts (.fieldLink RX6 7 "SpeedTurnsModel" "s" "[I") (List.mem_of_getElem? (i := 1) rfl)
  have hin6 : ∀ w ∈ u_ws RX6 TX6 12, w ∈ wsX6_set := by decide +kernel
  show W p l e ({ frames := 0, cells := 0, slots := 0, locals := 0 } : Room) s m _ below meth c s.heap [] 0 0 _ _
  refine W_genQ (fun Q hQ => ?_)
  have h := hf
  rw [fX6_set] at h
  have hl := lv_entry ([.ref a0, .int p1, .int p2, .int p3]) (n := 4) (Nat.le_of_ble_eq_true rfl)
  rw [lg_entry_eq]
  generalize (lg_sl ([.ref a0, .int p1, .int p2, .int p3]) ++ List.replicate (4 - (lg_sl ([.ref a0, .int p1, .int p2, .int p3])).length) Slot.unset).toArray = ls at hl ⊢
  have hl : lv_has ls 4 [(0, .ref a0), (1, .int p1), (2, .int p2), (3, .int p3)] := hl
  refine lv_aload_n hx hb dX6_set_0 rfl (lv_at hl 0 rfl) ?_
  refine va_get (D := G) (ci := 9) (v := .ref a1) (C := RX6) (T := TX6) (N := 12) hx hb hts hin6 hown hK.1 hP 0 rfl rfl 1 (by decide) hw0 (fun _ h9 => h9) rfl dX6_set_1 ?_
  refine lv_bipush (v := 12) hx hb dX6_set_4 (by decide) ?_
  refine lv_bipush (v := 6) hx hb dX6_set_6 (by decide) ?_
  refine lv_iload_n hx hb dX6_set_8 rfl (lv_at hl 1 rfl) ?_
  refine lv_imul hx hb dX6_set_9 ?_
  refine lv_iadd hx hb dX6_set_10 ?_
  refine lv_iload_n hx hb dX6_set_11 rfl (lv_at hl 2 rfl) ?_
  refine lv_iadd hx hb dX6_set_12 ?_
  refine lv_iload_n hx hb dX6_set_13 rfl (lv_at hl 3 rfl) ?_
  obtain ⟨hin, h⟩ := o_g h
  refine va_iast hx hb hK.1 hP hD hS 1 0 rfl rfl hin dX6_set_14 (fun H locs hP hD hS => ?_)
  have hP : va_P G vwCl [(a0, .inr (9, [.int th, .ref a1, .ref a2, .ref a3, .int sm, .ref a4, .int ln, .int nx, .int cd, .int dg, .int pw, .long hs])), (a1, .inl (cI, 378, .inl (upd sa ((((12 : Int32) + ((6 : Int32) * p1)) + p2)).toNatClampNeg p3))), (a2, .inl (cI, 378, .inl asd)), (a3, .inl (cI, 1512, .inl sv)), (a4, .inl (cI, 120, .inl mt))] H := hP
  have hD : va_D A [(a0, .inr (9, [.int th, .ref a1, .ref a2, .ref a3, .int sm, .ref a4, .int ln, .int nx, .int cd, .int dg, .int pw, .long hs])), (a1, .inl (cI, 378, .inl (upd sa ((((12 : Int32) + ((6 : Int32) * p1)) + p2)).toNatClampNeg p3))), (a2, .inl (cI, 378, .inl asd)), (a3, .inl (cI, 1512, .inl sv)), (a4, .inl (cI, 120, .inl mt))] := hD
  obtain rfl := o_s h
  rw [hQ]
  exact end_v hx hb hr hP hD hS dX6_set_15 hlocks
theorem hdX6_ofEffect : yX6_ofEffect.cls = RX6 ∧ yX6_ofEffect.cls ≠ "java/lang/invoke/MethodHandle" ∧ yX6_ofEffect.cls ≠ "java/lang/invoke/VarHandle" ∧ (parseMethodDescriptor yX6_ofEffect.desc).map (fun d => d.parameters.length) = some 2 := by decide +kernel
set_option maxHeartbeats 4000000 in
set_option maxRecDepth 100000 in
theorem cX6_ofEffect_ok (l : Launch) (G : va_G) (cI cG : ClassId) (a0 a1 a2 a3 a4 : Nat) (th : Int32) (sa : (Nat → Int32)) (asd : (Nat → Int32)) (sv : (Nat → Int32)) (sm : Int32) (mt : (Nat → Int32)) (ln : Int32) (nx : Int32) (cd : Int32) (dg : Int32) (pw : Int32) (hs : Int64) (p1 : Int32) (p2 : Int32) (out : Int32) (hf : fX6_ofEffect sa p1 p2 = some out) : CI l G (tyz cI cG) yX6_ofEffect wsX6_ofEffect ({ frames := 0, cells := 0, slots := 0, locals := 0 } : Room) [.ref a0, .int p1, .int p2] [(a0, .inr (9, [.int th, .ref a1, .ref a2, .ref a3, .int sm, .ref a4, .int ln, .int nx, .int cd, .int dg, .int pw, .long hs])), (a1, .inl (cI, 378, .inl sa)), (a2, .inl (cI, 378, .inl asd)), (a3, .inl (cI, 1512, .inl sv)), (a4, .inl (cI, 120, .inl mt))] out [(a0, .inr (9, [.int th, .ref a1, .ref a2, .ref a3, .int sm, .ref a4, .int ln, .int nx, .int cd, .int dg, .int pw, .long hs])), (a1, .inl (cI, 378, .inl sa)), (a2, .inl (cI, 378, .inl asd)), (a3, .inl (cI, 1512, .inl sv)), (a4, .inl (cI, 120, .inl mt))] := by
  intro sz
  refine Met.ofW (cc := cX6_ofEffect) (maxL := 3) (ret := (some .int)) (by decide) rfl ?_
  intro p e s m args below meth c s₁ B hml hv
  obtain ⟨rfl, hsz, hP, hK, hD0⟩ := hv
  have hx := B.exec
  have hb := B.bytes
  have hr := B.returns
  have hts := atoms_spec (ws := wsX6_ofEffect) B.pre
  have hown : s.vm.findClass RX6 = some m.cls := findClass_of_methodNamed B.named
  have hlocks := B.notSynchronized
  subst hsz
  have hD := hD0.self (sz := s.heap.size)
  generalize hAe : va_A [(a0, .inr (9, [.int th, .ref a1, .ref a2, .ref a3, .int sm, .ref a4, .int ln, .int nx, .int cd, .int dg, .int pw, .long hs])), (a1, .inl (cI, 378, .inl sa)), (a2, .inl (cI, 378, .inl asd)), (a3, .inl (cI, 1512, .inl sv)), (a4, .inl (cI, 120, .inl mt))] s.heap.size = A at hD ⊢
  have hA : ∀ q : Nat, s.heap.size ≤ q → A q := fun q h => by rw [← hAe]; exact Or.inr h
  have hS : va_S A s.heap s.heap [] := va_S.rf
  have hw0 := hts (.fieldLink RX6 7 "SpeedTurnsModel" "s" "[I") (List.mem_of_getElem? (i := 1) rfl)
  have hin6 : ∀ w ∈ u_ws RX6 TX6 12, w ∈ wsX6_ofEffect := by decide +kernel
  show W p l e ({ frames := 0, cells := 0, slots := 0, locals := 0 } : Room) s m _ below meth c s.heap [] 0 0 _ _
  refine W_genQ (fun Q hQ => ?_)
  have h := hf
  rw [fX6_ofEffect] at h
  have hl := lv_entry ([.ref a0, .int p1, .int p2]) (n := 3) (Nat.le_of_ble_eq_true rfl)
  rw [lg_entry_eq]
  generalize (lg_sl ([.ref a0, .int p1, .int p2]) ++ List.replicate (3 - (lg_sl ([.ref a0, .int p1, .int p2])).length) Slot.unset).toArray = ls at hl ⊢
  have hl : lv_has ls 3 [(0, .ref a0), (1, .int p1), (2, .int p2)] := hl
  refine lv_aload_n hx hb dX6_ofEffect_0 rfl (lv_at hl 0 rfl) ?_
  refine va_get (D := G) (ci := 9) (v := .ref a1) (C := RX6) (T := TX6) (N := 12) hx hb hts hin6 hown hK.1 hP 0 rfl rfl 1 (by decide) hw0 (fun _ h9 => h9) rfl dX6_ofEffect_1 ?_
  refine lv_bipush (v := 82) hx hb dX6_ofEffect_4 (by decide) ?_
  refine lv_bipush (v := 8) hx hb dX6_ofEffect_6 (by decide) ?_
  refine lv_iload_n hx hb dX6_ofEffect_8 rfl (lv_at hl 1 rfl) ?_
  refine lv_imul hx hb dX6_ofEffect_9 ?_
  refine lv_iadd hx hb dX6_ofEffect_10 ?_
  refine lv_iload_n hx hb dX6_ofEffect_11 rfl (lv_at hl 2 rfl) ?_
  refine lv_iadd hx hb dX6_ofEffect_12 ?_
  obtain ⟨hin, h⟩ := o_g h
  refine va_iald hx hb hK.1 hP 1 0 rfl rfl hin dX6_ofEffect_13 ?_
  obtain rfl := o_s h
  rw [hQ]
  exact end_i hx hb hr rfl hP hD hS dX6_ofEffect_14 hlocks
theorem hdX6_stands : yX6_stands.cls = RX6 ∧ yX6_stands.cls ≠ "java/lang/invoke/MethodHandle" ∧ yX6_stands.cls ≠ "java/lang/invoke/VarHandle" ∧ (parseMethodDescriptor yX6_stands.desc).map (fun d => d.parameters.length) = some 1 := by decide +kernel
set_option maxHeartbeats 4000000 in
set_option maxRecDepth 100000 in
theorem cX6_stands_ok (l : Launch) (G : va_G) (cI cG : ClassId) (a0 a1 a2 a3 a4 : Nat) (th : Int32) (sa : (Nat → Int32)) (asd : (Nat → Int32)) (sv : (Nat → Int32)) (sm : Int32) (mt : (Nat → Int32)) (ln : Int32) (nx : Int32) (cd : Int32) (dg : Int32) (pw : Int32) (hs : Int64) (p1 : Int32) (out : Bool) (hf : fX6_stands sa p1 = some out) : CI l G (tyz cI cG) yX6_stands wsX6_stands ({ frames := 1, cells := 0, slots := 0, locals := 22 } : Room) [.ref a0, .int p1] [(a0, .inr (9, [.int th, .ref a1, .ref a2, .ref a3, .int sm, .ref a4, .int ln, .int nx, .int cd, .int dg, .int pw, .long hs])), (a1, .inl (cI, 378, .inl sa)), (a2, .inl (cI, 378, .inl asd)), (a3, .inl (cI, 1512, .inl sv)), (a4, .inl (cI, 120, .inl mt))] (bI out) [(a0, .inr (9, [.int th, .ref a1, .ref a2, .ref a3, .int sm, .ref a4, .int ln, .int nx, .int cd, .int dg, .int pw, .long hs])), (a1, .inl (cI, 378, .inl sa)), (a2, .inl (cI, 378, .inl asd)), (a3, .inl (cI, 1512, .inl sv)), (a4, .inl (cI, 120, .inl mt))] := by
  intro sz
  refine Met.ofW (cc := cX6_stands) (maxL := 2) (ret := (some .boolean)) (by decide) rfl ?_
  intro p e s m args below meth c s₁ B hml hv
  obtain ⟨rfl, hsz, hP, hK, hD0⟩ := hv
  have hx := B.exec
  have hb := B.bytes
  have hr := B.returns
  have hts := atoms_spec (ws := wsX6_stands) B.pre
  have hown : s.vm.findClass RX6 = some m.cls := findClass_of_methodNamed B.named
  have hlocks := B.notSynchronized
  subst hsz
  have hD := hD0.self (sz := s.heap.size)
  generalize hAe : va_A [(a0, .inr (9, [.int th, .ref a1, .ref a2, .ref a3, .int sm, .ref a4, .int ln, .int nx, .int cd, .int dg, .int pw, .long hs])), (a1, .inl (cI, 378, .inl sa)), (a2, .inl (cI, 378, .inl asd)), (a3, .inl (cI, 1512, .inl sv)), (a4, .inl (cI, 120, .inl mt))] s.heap.size = A at hD ⊢
  have hA : ∀ q : Nat, s.heap.size ≤ q → A q := fun q h => by rw [← hAe]; exact Or.inr h
  have hS : va_S A s.heap s.heap [] := va_S.rf
  show W p l e ({ frames := 1, cells := 0, slots := 0, locals := 22 } : Room) s m _ below meth c s.heap [] 0 0 _ _
  refine W_genQ (fun Q hQ => ?_)
  have h := hf
  rw [fX6_stands] at h
  have hl := lv_entry ([.ref a0, .int p1]) (n := 2) (Nat.le_of_ble_eq_true rfl)
  rw [lg_entry_eq]
  generalize (lg_sl ([.ref a0, .int p1]) ++ List.replicate (2 - (lg_sl ([.ref a0, .int p1])).length) Slot.unset).toArray = ls at hl ⊢
  have hl : lv_has ls 2 [(0, .ref a0), (1, .int p1)] := hl
  refine lv_aload_n hx hb dX6_stands_0 rfl (lv_at hl 0 rfl) ?_
  refine lv_iload_n hx hb dX6_stands_1 rfl (lv_at hl 1 rfl) ?_
  refine lv_iconst (v := 2) hx hb dX6_stands_2 (by decide) ?_
  obtain ⟨x1, ex1, h⟩ := o_b h
  refine call_iV (As := [.int p1, .int (2 : Int32)]) (rest := []) (ws2 := [(a0, .inr (9, [.int th, .ref a1, .ref a2, .ref a3, .int sm, .ref a4, .int ln, .int nx, .int cd, .int dg, .int pw, .long hs])), (a1, .inl (cI, 378, .inl sa)), (a2, .inl (cI, 378, .inl asd)), (a3, .inl (cI, 1512, .inl sv)), (a4, .inl (cI, 120, .inl mt))]) ⟨hx, hb, hml, hown, hts⟩ (cX6_of_ok l G cI cG a0 a1 a2 a3 a4 th sa asd sv sm mt ln nx cd dg pw hs p1 (2 : Int32) x1 ex1) (cwV 2 hts gX6_stands_X6_of rfl rfl rfl hdX6_of ⟨Nat.le_of_ble_eq_true rfl, Nat.le_of_ble_eq_true rfl⟩) hP hD hS hA hK 9 rfl rfl rfl [0, 1, 2, 3, 4] rfl rfl rfl rfl rfl rfl rfl rfl hl.1 (Nat.le_of_ble_eq_true rfl) dX6_stands_3 ⟨Nat.zero_le _, Nat.zero_le _⟩ (fun H locs hP hD hS => ?_)
  refine lv_if_le (tgt := 13) hx hb dX6_stands_6 (by decide) (fun hc => ?_) (fun hc => ?_)
  · have h := o_t h hc
    refine lv_iconst (v := 0) hx hb dX6_stands_13 (by decide) ?_
    obtain rfl := o_s h
    rw [hQ]
    exact end_z hx hb hr rfl rfl hP hD hS dX6_stands_14 hlocks
  · have h := o_f h hc
    refine lv_iconst (v := 1) hx hb dX6_stands_9 (by decide) ?_
    refine lv_goto (tgt := 14) hx hb dX6_stands_10 (by decide) ?_
    obtain rfl := o_s h
    rw [hQ]
    exact end_z hx hb hr rfl rfl hP hD hS dX6_stands_14 hlocks
theorem hdX6_endEffect : yX6_endEffect.cls = RX6 ∧ yX6_endEffect.cls ≠ "java/lang/invoke/MethodHandle" ∧ yX6_endEffect.cls ≠ "java/lang/invoke/VarHandle" ∧ (parseMethodDescriptor yX6_endEffect.desc).map (fun d => d.parameters.length) = some 1 := by decide +kernel
set_option maxHeartbeats 4000000 in
set_option maxRecDepth 100000 in
theorem cX6_endEffect_ok (l : Launch) (G : va_G) (cI cG : ClassId) (a0 a1 a2 a3 a4 : Nat) (fu : Nat) (th : Int32) (sa : (Nat → Int32)) (asd : (Nat → Int32)) (sv : (Nat → Int32)) (sm : Int32) (mt : (Nat → Int32)) (ln : Int32) (nx : Int32) (cd : Int32) (dg : Int32) (pw : Int32) (hs : Int64) (p1 : Int32) (out : (Nat → Int32)) (hf : fX6_endEffect fu sa p1 = some out) : CV l G (tyz cI cG) yX6_endEffect wsX6_endEffect ({ frames := 0, cells := 0, slots := 0, locals := 0 } : Room) [.ref a0, .int p1] [(a0, .inr (9, [.int th, .ref a1, .ref a2, .ref a3, .int sm, .ref a4, .int ln, .int nx, .int cd, .int dg, .int pw, .long hs])), (a1, .inl (cI, 378, .inl sa)), (a2, .inl (cI, 378, .inl asd)), (a3, .inl (cI, 1512, .inl sv)), (a4, .inl (cI, 120, .inl mt))] [(a0, .inr (9, [.int th, .ref a1, .ref a2, .ref a3, .int sm, .ref a4, .int ln, .int nx, .int cd, .int dg, .int pw, .long hs])), (a1, .inl (cI, 378, .inl out)), (a2, .inl (cI, 378, .inl asd)), (a3, .inl (cI, 1512, .inl sv)), (a4, .inl (cI, 120, .inl mt))] := by
  intro sz
  refine Met.ofW (cc := cX6_endEffect) (maxL := 3) (ret := none) (by decide) rfl ?_
  intro p e s m args below meth c s₁ B hml hv
  obtain ⟨rfl, hsz, hP, hK, hD0⟩ := hv
  have hx := B.exec
  have hb := B.bytes
  have hr := B.returns
  have hts := atoms_spec (ws := wsX6_endEffect) B.pre
  have hown : s.vm.findClass RX6 = some m.cls := findClass_of_methodNamed B.named
  have hlocks := B.notSynchronized
  subst hsz
  have hD := hD0.self (sz := s.heap.size)
  generalize hAe : va_A [(a0, .inr (9, [.int th, .ref a1, .ref a2, .ref a3, .int sm, .ref a4, .int ln, .int nx, .int cd, .int dg, .int pw, .long hs])), (a1, .inl (cI, 378, .inl sa)), (a2, .inl (cI, 378, .inl asd)), (a3, .inl (cI, 1512, .inl sv)), (a4, .inl (cI, 120, .inl mt))] s.heap.size = A at hD ⊢
  have hA : ∀ q : Nat, s.heap.size ≤ q → A q := fun q h => by rw [← hAe]; exact Or.inr h
  have hS : va_S A s.heap s.heap [] := va_S.rf
  have hw0 := hts (.fieldLink RX6 7 "SpeedTurnsModel" "s" "[I") (List.mem_of_getElem? (i := 1) rfl)
  have hin6 : ∀ w ∈ u_ws RX6 TX6 12, w ∈ wsX6_endEffect := by decide +kernel
  show W p l e ({ frames := 0, cells := 0, slots := 0, locals := 0 } : Room) s m _ below meth c s.heap [] 0 0 _ _
  refine W_genQ (fun Q hQ => ?_)
  have L18 : ∀ (k : Nat) (sa : (Nat → Int32)) (v2 : Int32) (H : Heap) (locs : List Loc) (ls : Array Slot), fX6_endEffect_L18 fu  k sa v2 = some out → va_P G vwCl [(a0, .inr (9, [.int th, .ref a1, .ref a2, .ref a3, .int sm, .ref a4, .int ln, .int nx, .int cd, .int dg, .int pw, .long hs])), (a1, .inl (cI, 378, .inl sa)), (a2, .inl (cI, 378, .inl asd)), (a3, .inl (cI, 1512, .inl sv)), (a4, .inl (cI, 120, .inl mt))] H → va_D A [(a0, .inr (9, [.int th, .ref a1, .ref a2, .ref a3, .int sm, .ref a4, .int ln, .int nx, .int cd, .int dg, .int pw, .long hs])), (a1, .inl (cI, 378, .inl sa)), (a2, .inl (cI, 378, .inl asd)), (a3, .inl (cI, 1512, .inl sv)), (a4, .inl (cI, 120, .inl mt))] → va_S A s.heap H locs → lv_has ls 3 [(0, .ref a0), (2, .int v2)] → W p l e ({ frames := 0, cells := 0, slots := 0, locals := 0 } : Room) s m ([.ref a0, .int p1] : List Value).toArray below meth c H locs 0 0 Q (F0 m 18 ls []) := by
    intro k
    induction k with
    | zero => intro sa v2 H locs ls h hP hD hS hl; rw [fX6_endEffect_L18] at h; exact o_n h
    | succ k ih =>
      intro sa v2 H locs ls h hP hD hS hl
      rw [fX6_endEffect_L18] at h
      refine lv_iload_n hx hb dX6_endEffect_18 rfl (lv_at hl 1 rfl) ?_
      refine lv_bipush (v := 82) hx hb dX6_endEffect_19 (by decide) ?_
      refine lv_bipush (v := 8) hx hb dX6_endEffect_21 (by decide) ?_
      refine lv_aload_n hx hb dX6_endEffect_23 rfl (lv_at hl 0 rfl) ?_
      refine va_get (D := G) (ci := 9) (v := .ref a1) (C := RX6) (T := TX6) (N := 12) hx hb hts hin6 hown hK.1 hP 0 rfl rfl 1 (by decide) hw0 (fun _ h9 => h9) rfl dX6_endEffect_24 ?_
      refine lv_iconst (v := 1) hx hb dX6_endEffect_27 (by decide) ?_
      obtain ⟨hin, h⟩ := o_g h
      refine va_iald hx hb hK.1 hP 1 0 rfl rfl hin dX6_endEffect_28 ?_
      refine lv_imul hx hb dX6_endEffect_29 ?_
      refine lv_iadd hx hb dX6_endEffect_30 ?_
      refine lv_icmp_ge (tgt := 55) hx hb dX6_endEffect_31 (by decide) (fun hc => ?_) (fun hc => ?_)
      · have h := o_t h hc
        refine lv_aload_n hx hb dX6_endEffect_55 rfl (lv_at hl 0 rfl) ?_
        refine va_get (D := G) (ci := 9) (v := .ref a1) (C := RX6) (T := TX6) (N := 12) hx hb hts hin6 hown hK.1 hP 0 rfl rfl 1 (by decide) hw0 (fun _ h9 => h9) rfl dX6_endEffect_56 ?_
        refine lv_bipush (v := 10) hx hb dX6_endEffect_59 (by decide) ?_
        refine lv_dup2_11 hx hb dX6_endEffect_61 rfl rfl ?_
        obtain ⟨hin, h⟩ := o_g h
        refine va_iald hx hb hK.1 hP 1 0 rfl rfl hin dX6_endEffect_62 ?_
        refine lv_iconst (v := 1) hx hb dX6_endEffect_63 (by decide) ?_
        refine lv_iadd hx hb dX6_endEffect_64 ?_
        obtain ⟨hin, h⟩ := o_g h
        refine va_iast hx hb hK.1 hP hD hS 1 0 rfl rfl hin dX6_endEffect_65 (fun H locs hP hD hS => ?_)
        have hP : va_P G vwCl [(a0, .inr (9, [.int th, .ref a1, .ref a2, .ref a3, .int sm, .ref a4, .int ln, .int nx, .int cd, .int dg, .int pw, .long hs])), (a1, .inl (cI, 378, .inl (upd sa ((10 : Int32)).toNatClampNeg ((sa ((10 : Int32)).toNatClampNeg) + (1 : Int32))))), (a2, .inl (cI, 378, .inl asd)), (a3, .inl (cI, 1512, .inl sv)), (a4, .inl (cI, 120, .inl mt))] H := hP
        have hD : va_D A [(a0, .inr (9, [.int th, .ref a1, .ref a2, .ref a3, .int sm, .ref a4, .int ln, .int nx, .int cd, .int dg, .int pw, .long hs])), (a1, .inl (cI, 378, .inl (upd sa ((10 : Int32)).toNatClampNeg ((sa ((10 : Int32)).toNatClampNeg) + (1 : Int32))))), (a2, .inl (cI, 378, .inl asd)), (a3, .inl (cI, 1512, .inl sv)), (a4, .inl (cI, 120, .inl mt))] := hD
        obtain rfl := o_s h
        rw [hQ]
        exact end_v hx hb hr hP hD hS dX6_endEffect_66 hlocks
      · have h := o_f h hc
        refine lv_aload_n hx hb dX6_endEffect_34 rfl (lv_at hl 0 rfl) ?_
        refine va_get (D := G) (ci := 9) (v := .ref a1) (C := RX6) (T := TX6) (N := 12) hx hb hts hin6 hown hK.1 hP 0 rfl rfl 1 (by decide) hw0 (fun _ h9 => h9) rfl dX6_endEffect_35 ?_
        refine lv_iload_n hx hb dX6_endEffect_38 rfl (lv_at hl 1 rfl) ?_
        refine lv_aload_n hx hb dX6_endEffect_39 rfl (lv_at hl 0 rfl) ?_
        refine va_get (D := G) (ci := 9) (v := .ref a1) (C := RX6) (T := TX6) (N := 12) hx hb hts hin6 hown hK.1 hP 0 rfl rfl 1 (by decide) hw0 (fun _ h9 => h9) rfl dX6_endEffect_40 ?_
        refine lv_iload_n hx hb dX6_endEffect_43 rfl (lv_at hl 1 rfl) ?_
        refine lv_bipush (v := 8) hx hb dX6_endEffect_44 (by decide) ?_
        refine lv_iadd hx hb dX6_endEffect_46 ?_
        obtain ⟨hin, h⟩ := o_g h
        refine va_iald hx hb hK.1 hP 1 0 rfl rfl hin dX6_endEffect_47 ?_
        obtain ⟨hin, h⟩ := o_g h
        refine va_iast hx hb hK.1 hP hD hS 1 0 rfl rfl hin dX6_endEffect_48 (fun H locs hP hD hS => ?_)
        have hP : va_P G vwCl [(a0, .inr (9, [.int th, .ref a1, .ref a2, .ref a3, .int sm, .ref a4, .int ln, .int nx, .int cd, .int dg, .int pw, .long hs])), (a1, .inl (cI, 378, .inl (upd sa (v2).toNatClampNeg (sa ((v2 + (8 : Int32))).toNatClampNeg)))), (a2, .inl (cI, 378, .inl asd)), (a3, .inl (cI, 1512, .inl sv)), (a4, .inl (cI, 120, .inl mt))] H := hP
        have hD : va_D A [(a0, .inr (9, [.int th, .ref a1, .ref a2, .ref a3, .int sm, .ref a4, .int ln, .int nx, .int cd, .int dg, .int pw, .long hs])), (a1, .inl (cI, 378, .inl (upd sa (v2).toNatClampNeg (sa ((v2 + (8 : Int32))).toNatClampNeg)))), (a2, .inl (cI, 378, .inl asd)), (a3, .inl (cI, 1512, .inl sv)), (a4, .inl (cI, 120, .inl mt))] := hD
        refine lv_iinc (v := (v2 + 1)) (lv' := [(2, .int (v2 + 1)), (0, .ref a0)]) hx hb dX6_endEffect_49 hl (k := 1) rfl rfl (by decide) rfl (fun ls hl => ?_)
        refine lv_goto (tgt := 18) hx hb dX6_endEffect_52 (by decide) ?_
        exact ih (upd sa (v2).toNatClampNeg (sa ((v2 + (8 : Int32))).toNatClampNeg)) (v2 + 1) _ _ _ h hP hD hS (lv_sub hl [1, 0] rfl)
  have h := hf
  rw [fX6_endEffect] at h
  have hl := lv_entry ([.ref a0, .int p1]) (n := 3) (Nat.le_of_ble_eq_true rfl)
  rw [lg_entry_eq]
  generalize (lg_sl ([.ref a0, .int p1]) ++ List.replicate (3 - (lg_sl ([.ref a0, .int p1])).length) Slot.unset).toArray = ls at hl ⊢
  have hl : lv_has ls 3 [(0, .ref a0), (1, .int p1)] := hl
  refine lv_aload_n hx hb dX6_endEffect_0 rfl (lv_at hl 0 rfl) ?_
  refine va_get (D := G) (ci := 9) (v := .ref a1) (C := RX6) (T := TX6) (N := 12) hx hb hts hin6 hown hK.1 hP 0 rfl rfl 1 (by decide) hw0 (fun _ h9 => h9) rfl dX6_endEffect_1 ?_
  refine lv_iconst (v := 1) hx hb dX6_endEffect_4 (by decide) ?_
  refine lv_dup2_11 hx hb dX6_endEffect_5 rfl rfl ?_
  obtain ⟨hin, h⟩ := o_g h
  refine va_iald hx hb hK.1 hP 1 0 rfl rfl hin dX6_endEffect_6 ?_
  refine lv_iconst (v := 1) hx hb dX6_endEffect_7 (by decide) ?_
  refine lv_isub hx hb dX6_endEffect_8 ?_
  obtain ⟨hin, h⟩ := o_g h
  refine va_iast hx hb hK.1 hP hD hS 1 0 rfl rfl hin dX6_endEffect_9 (fun H locs hP hD hS => ?_)
  have hP : va_P G vwCl [(a0, .inr (9, [.int th, .ref a1, .ref a2, .ref a3, .int sm, .ref a4, .int ln, .int nx, .int cd, .int dg, .int pw, .long hs])), (a1, .inl (cI, 378, .inl (upd sa ((1 : Int32)).toNatClampNeg ((sa ((1 : Int32)).toNatClampNeg) - (1 : Int32))))), (a2, .inl (cI, 378, .inl asd)), (a3, .inl (cI, 1512, .inl sv)), (a4, .inl (cI, 120, .inl mt))] H := hP
  have hD : va_D A [(a0, .inr (9, [.int th, .ref a1, .ref a2, .ref a3, .int sm, .ref a4, .int ln, .int nx, .int cd, .int dg, .int pw, .long hs])), (a1, .inl (cI, 378, .inl (upd sa ((1 : Int32)).toNatClampNeg ((sa ((1 : Int32)).toNatClampNeg) - (1 : Int32))))), (a2, .inl (cI, 378, .inl asd)), (a3, .inl (cI, 1512, .inl sv)), (a4, .inl (cI, 120, .inl mt))] := hD
  refine lv_bipush (v := 82) hx hb dX6_endEffect_10 (by decide) ?_
  refine lv_bipush (v := 8) hx hb dX6_endEffect_12 (by decide) ?_
  refine lv_iload_n hx hb dX6_endEffect_14 rfl (lv_at hl 1 rfl) ?_
  refine lv_imul hx hb dX6_endEffect_15 ?_
  refine lv_iadd hx hb dX6_endEffect_16 ?_
  refine lv_istore_n (lv' := [(2, .int ((82 : Int32) + ((8 : Int32) * p1))), (0, .ref a0), (1, .int p1)]) hx hb dX6_endEffect_17 rfl hl (by decide) rfl (fun ls hl => ?_)
  exact L18 fu (upd sa ((1 : Int32)).toNatClampNeg ((sa ((1 : Int32)).toNatClampNeg) - (1 : Int32))) ((82 : Int32) + ((8 : Int32) * p1)) _ _ _ h hP hD hS (lv_sub hl [1, 0] rfl)
theorem hdX6_heldBy : yX6_heldBy.cls = RX6 ∧ yX6_heldBy.cls ≠ "java/lang/invoke/MethodHandle" ∧ yX6_heldBy.cls ≠ "java/lang/invoke/VarHandle" ∧ (parseMethodDescriptor yX6_heldBy.desc).map (fun d => d.parameters.length) = some 1 := by decide +kernel
set_option maxHeartbeats 4000000 in
set_option maxRecDepth 100000 in
theorem cX6_heldBy_ok (l : Launch) (G : va_G) (cI cG : ClassId) (a0 a1 a2 a3 a4 : Nat) (fu : Nat) (th : Int32) (sa : (Nat → Int32)) (asd : (Nat → Int32)) (sv : (Nat → Int32)) (sm : Int32) (mt : (Nat → Int32)) (ln : Int32) (nx : Int32) (cd : Int32) (dg : Int32) (pw : Int32) (hs : Int64) (p1 : Int32) (out : Int32) (hf : fX6_heldBy fu sa p1 = some out) : CI l G (tyz cI cG) yX6_heldBy wsX6_heldBy ({ frames := 1, cells := 0, slots := 0, locals := 22 } : Room) [.ref a0, .int p1] [(a0, .inr (9, [.int th, .ref a1, .ref a2, .ref a3, .int sm, .ref a4, .int ln, .int nx, .int cd, .int dg, .int pw, .long hs])), (a1, .inl (cI, 378, .inl sa)), (a2, .inl (cI, 378, .inl asd)), (a3, .inl (cI, 1512, .inl sv)), (a4, .inl (cI, 120, .inl mt))] out [(a0, .inr (9, [.int th, .ref a1, .ref a2, .ref a3, .int sm, .ref a4, .int ln, .int nx, .int cd, .int dg, .int pw, .long hs])), (a1, .inl (cI, 378, .inl sa)), (a2, .inl (cI, 378, .inl asd)), (a3, .inl (cI, 1512, .inl sv)), (a4, .inl (cI, 120, .inl mt))] := by
  intro sz
  refine Met.ofW (cc := cX6_heldBy) (maxL := 3) (ret := (some .int)) (by decide) rfl ?_
  intro p e s m args below meth c s₁ B hml hv
  obtain ⟨rfl, hsz, hP, hK, hD0⟩ := hv
  have hx := B.exec
  have hb := B.bytes
  have hr := B.returns
  have hts := atoms_spec (ws := wsX6_heldBy) B.pre
  have hown : s.vm.findClass RX6 = some m.cls := findClass_of_methodNamed B.named
  have hlocks := B.notSynchronized
  subst hsz
  have hD := hD0.self (sz := s.heap.size)
  generalize hAe : va_A [(a0, .inr (9, [.int th, .ref a1, .ref a2, .ref a3, .int sm, .ref a4, .int ln, .int nx, .int cd, .int dg, .int pw, .long hs])), (a1, .inl (cI, 378, .inl sa)), (a2, .inl (cI, 378, .inl asd)), (a3, .inl (cI, 1512, .inl sv)), (a4, .inl (cI, 120, .inl mt))] s.heap.size = A at hD ⊢
  have hA : ∀ q : Nat, s.heap.size ≤ q → A q := fun q h => by rw [← hAe]; exact Or.inr h
  have hS : va_S A s.heap s.heap [] := va_S.rf
  have hw0 := hts (.fieldLink RX6 7 "SpeedTurnsModel" "s" "[I") (List.mem_of_getElem? (i := 1) rfl)
  have hin6 : ∀ w ∈ u_ws RX6 TX6 12, w ∈ wsX6_heldBy := by decide +kernel
  show W p l e ({ frames := 1, cells := 0, slots := 0, locals := 22 } : Room) s m _ below meth c s.heap [] 0 0 _ _
  refine W_genQ (fun Q hQ => ?_)
  have L2 : ∀ (k : Nat) (v2 : Int32) (H : Heap) (locs : List Loc) (ls : Array Slot), fX6_heldBy_L2 fu sa p1 k v2 = some out → va_P G vwCl [(a0, .inr (9, [.int th, .ref a1, .ref a2, .ref a3, .int sm, .ref a4, .int ln, .int nx, .int cd, .int dg, .int pw, .long hs])), (a1, .inl (cI, 378, .inl sa)), (a2, .inl (cI, 378, .inl asd)), (a3, .inl (cI, 1512, .inl sv)), (a4, .inl (cI, 120, .inl mt))] H → va_D A [(a0, .inr (9, [.int th, .ref a1, .ref a2, .ref a3, .int sm, .ref a4, .int ln, .int nx, .int cd, .int dg, .int pw, .long hs])), (a1, .inl (cI, 378, .inl sa)), (a2, .inl (cI, 378, .inl asd)), (a3, .inl (cI, 1512, .inl sv)), (a4, .inl (cI, 120, .inl mt))] → va_S A s.heap H locs → lv_has ls 3 [(0, .ref a0), (1, .int p1), (2, .int v2)] → W p l e ({ frames := 1, cells := 0, slots := 0, locals := 22 } : Room) s m ([.ref a0, .int p1] : List Value).toArray below meth c H locs 0 0 Q (F0 m 2 ls []) := by
    intro k
    induction k with
    | zero => intro v2 H locs ls h hP hD hS hl; rw [fX6_heldBy_L2] at h; exact o_n h
    | succ k ih =>
      intro v2 H locs ls h hP hD hS hl
      rw [fX6_heldBy_L2] at h
      refine lv_iload_n hx hb dX6_heldBy_2 rfl (lv_at hl 2 rfl) ?_
      refine lv_aload_n hx hb dX6_heldBy_3 rfl (lv_at hl 0 rfl) ?_
      refine va_get (D := G) (ci := 9) (v := .ref a1) (C := RX6) (T := TX6) (N := 12) hx hb hts hin6 hown hK.1 hP 0 rfl rfl 1 (by decide) hw0 (fun _ h9 => h9) rfl dX6_heldBy_4 ?_
      refine lv_iconst (v := 1) hx hb dX6_heldBy_7 (by decide) ?_
      obtain ⟨hin, h⟩ := o_g h
      refine va_iald hx hb hK.1 hP 1 0 rfl rfl hin dX6_heldBy_8 ?_
      refine lv_icmp_ge (tgt := 41) hx hb dX6_heldBy_9 (by decide) (fun hc => ?_) (fun hc => ?_)
      · have h := o_t h hc
        refine lv_iconst (v := (-1)) hx hb dX6_heldBy_41 (by decide) ?_
        obtain rfl := o_s h
        rw [hQ]
        exact end_i hx hb hr rfl hP hD hS dX6_heldBy_42 hlocks
      · have h := o_f h hc
        refine lv_aload_n hx hb dX6_heldBy_12 rfl (lv_at hl 0 rfl) ?_
        refine lv_iload_n hx hb dX6_heldBy_13 rfl (lv_at hl 2 rfl) ?_
        refine lv_iconst (v := 2) hx hb dX6_heldBy_14 (by decide) ?_
        obtain ⟨x1, ex1, h⟩ := o_b h
        refine call_iV (As := [.int v2, .int (2 : Int32)]) (rest := []) (ws2 := [(a0, .inr (9, [.int th, .ref a1, .ref a2, .ref a3, .int sm, .ref a4, .int ln, .int nx, .int cd, .int dg, .int pw, .long hs])), (a1, .inl (cI, 378, .inl sa)), (a2, .inl (cI, 378, .inl asd)), (a3, .inl (cI, 1512, .inl sv)), (a4, .inl (cI, 120, .inl mt))]) ⟨hx, hb, hml, hown, hts⟩ (cX6_ofEffect_ok l G cI cG a0 a1 a2 a3 a4 th sa asd sv sm mt ln nx cd dg pw hs v2 (2 : Int32) x1 ex1) (cwV 2 hts gX6_heldBy_X6_ofEffect rfl rfl rfl hdX6_ofEffect ⟨Nat.le_of_ble_eq_true rfl, Nat.le_of_ble_eq_true rfl⟩) hP hD hS hA hK 9 rfl rfl rfl [0, 1, 2, 3, 4] rfl rfl rfl rfl rfl rfl rfl rfl hl.1 (Nat.le_of_ble_eq_true rfl) dX6_heldBy_15 ⟨Nat.zero_le _, Nat.zero_le _⟩ (fun H locs hP hD hS => ?_)
        refine lv_iload_n hx hb dX6_heldBy_18 rfl (lv_at hl 1 rfl) ?_
        refine lv_icmp_ne (tgt := 35) hx hb dX6_heldBy_19 (by decide) (fun hc => ?_) (fun hc => ?_)
        · have h := o_f h hc
          refine lv_iinc (v := (v2 + 1)) (lv' := [(2, .int (v2 + 1)), (0, .ref a0), (1, .int p1)]) hx hb dX6_heldBy_35 hl (k := 2) rfl rfl (by decide) rfl (fun ls hl => ?_)
          refine lv_goto (tgt := 2) hx hb dX6_heldBy_38 (by decide) ?_
          exact ih (v2 + 1) _ _ _ h hP hD hS (lv_sub hl [1, 2, 0] rfl)
        · have h := o_t h hc
          refine lv_aload_n hx hb dX6_heldBy_22 rfl (lv_at hl 0 rfl) ?_
          refine lv_iload_n hx hb dX6_heldBy_23 rfl (lv_at hl 2 rfl) ?_
          refine lv_bipush (v := 6) hx hb dX6_heldBy_24 (by decide) ?_
          obtain ⟨x2, ex2, h⟩ := o_b h
          refine call_iV (As := [.int v2, .int (6 : Int32)]) (rest := []) (ws2 := [(a0, .inr (9, [.int th, .ref a1, .ref a2, .ref a3, .int sm, .ref a4, .int ln, .int nx, .int cd, .int dg, .int pw, .long hs])), (a1, .inl (cI, 378, .inl sa)), (a2, .inl (cI, 378, .inl asd)), (a3, .inl (cI, 1512, .inl sv)), (a4, .inl (cI, 120, .inl mt))]) ⟨hx, hb, hml, hown, hts⟩ (cX6_ofEffect_ok l G cI cG a0 a1 a2 a3 a4 th sa asd sv sm mt ln nx cd dg pw hs v2 (6 : Int32) x2 ex2) (cwV 2 hts gX6_heldBy_X6_ofEffect rfl rfl rfl hdX6_ofEffect ⟨Nat.le_of_ble_eq_true rfl, Nat.le_of_ble_eq_true rfl⟩) hP hD hS hA hK 9 rfl rfl rfl [0, 1, 2, 3, 4] rfl rfl rfl rfl rfl rfl rfl rfl hl.1 (Nat.le_of_ble_eq_true rfl) dX6_heldBy_26 ⟨Nat.zero_le _, Nat.zero_le _⟩ (fun H locs hP hD hS => ?_)
          refine lv_iconst (v := 1) hx hb dX6_heldBy_29 (by decide) ?_
          refine lv_icmp_ne (tgt := 35) hx hb dX6_heldBy_30 (by decide) (fun hc => ?_) (fun hc => ?_)
          · have h := o_f h hc
            refine lv_iinc (v := (v2 + 1)) (lv' := [(2, .int (v2 + 1)), (0, .ref a0), (1, .int p1)]) hx hb dX6_heldBy_35 hl (k := 2) rfl rfl (by decide) rfl (fun ls hl => ?_)
            refine lv_goto (tgt := 2) hx hb dX6_heldBy_38 (by decide) ?_
            exact ih (v2 + 1) _ _ _ h hP hD hS (lv_sub hl [1, 2, 0] rfl)
          · have h := o_t h hc
            refine lv_iload_n hx hb dX6_heldBy_33 rfl (lv_at hl 2 rfl) ?_
            obtain rfl := o_s h
            rw [hQ]
            exact end_i hx hb hr rfl hP hD hS dX6_heldBy_34 hlocks
  have h := hf
  rw [fX6_heldBy] at h
  have hl := lv_entry ([.ref a0, .int p1]) (n := 3) (Nat.le_of_ble_eq_true rfl)
  rw [lg_entry_eq]
  generalize (lg_sl ([.ref a0, .int p1]) ++ List.replicate (3 - (lg_sl ([.ref a0, .int p1])).length) Slot.unset).toArray = ls at hl ⊢
  have hl : lv_has ls 3 [(0, .ref a0), (1, .int p1)] := hl
  refine lv_iconst (v := 0) hx hb dX6_heldBy_0 (by decide) ?_
  refine lv_istore_n (lv' := [(2, .int (0 : Int32)), (0, .ref a0), (1, .int p1)]) hx hb dX6_heldBy_1 rfl hl (by decide) rfl (fun ls hl => ?_)
  exact L2 fu (0 : Int32) _ _ _ h hP hD hS (lv_sub hl [1, 2, 0] rfl)
theorem hdX6_stopHolding : yX6_stopHolding.cls = RX6 ∧ yX6_stopHolding.cls ≠ "java/lang/invoke/MethodHandle" ∧ yX6_stopHolding.cls ≠ "java/lang/invoke/VarHandle" ∧ (parseMethodDescriptor yX6_stopHolding.desc).map (fun d => d.parameters.length) = some 1 := by decide +kernel
set_option maxHeartbeats 4000000 in
set_option maxRecDepth 100000 in
theorem cX6_stopHolding_ok (l : Launch) (G : va_G) (cI cG : ClassId) (a0 a1 a2 a3 a4 : Nat) (fu : Nat) (th : Int32) (sa : (Nat → Int32)) (asd : (Nat → Int32)) (sv : (Nat → Int32)) (sm : Int32) (mt : (Nat → Int32)) (ln : Int32) (nx : Int32) (cd : Int32) (dg : Int32) (pw : Int32) (hs : Int64) (p1 : Int32) (out : (Nat → Int32)) (hf : fX6_stopHolding fu sa p1 = some out) : CV l G (tyz cI cG) yX6_stopHolding wsX6_stopHolding ({ frames := 2, cells := 0, slots := 0, locals := 44 } : Room) [.ref a0, .int p1] [(a0, .inr (9, [.int th, .ref a1, .ref a2, .ref a3, .int sm, .ref a4, .int ln, .int nx, .int cd, .int dg, .int pw, .long hs])), (a1, .inl (cI, 378, .inl sa)), (a2, .inl (cI, 378, .inl asd)), (a3, .inl (cI, 1512, .inl sv)), (a4, .inl (cI, 120, .inl mt))] [(a0, .inr (9, [.int th, .ref a1, .ref a2, .ref a3, .int sm, .ref a4, .int ln, .int nx, .int cd, .int dg, .int pw, .long hs])), (a1, .inl (cI, 378, .inl out)), (a2, .inl (cI, 378, .inl asd)), (a3, .inl (cI, 1512, .inl sv)), (a4, .inl (cI, 120, .inl mt))] := by
  intro sz
  refine Met.ofW (cc := cX6_stopHolding) (maxL := 3) (ret := none) (by decide) rfl ?_
  intro p e s m args below meth c s₁ B hml hv
  obtain ⟨rfl, hsz, hP, hK, hD0⟩ := hv
  have hx := B.exec
  have hb := B.bytes
  have hr := B.returns
  have hts := atoms_spec (ws := wsX6_stopHolding) B.pre
  have hown : s.vm.findClass RX6 = some m.cls := findClass_of_methodNamed B.named
  have hlocks := B.notSynchronized
  subst hsz
  have hD := hD0.self (sz := s.heap.size)
  generalize hAe : va_A [(a0, .inr (9, [.int th, .ref a1, .ref a2, .ref a3, .int sm, .ref a4, .int ln, .int nx, .int cd, .int dg, .int pw, .long hs])), (a1, .inl (cI, 378, .inl sa)), (a2, .inl (cI, 378, .inl asd)), (a3, .inl (cI, 1512, .inl sv)), (a4, .inl (cI, 120, .inl mt))] s.heap.size = A at hD ⊢
  have hA : ∀ q : Nat, s.heap.size ≤ q → A q := fun q h => by rw [← hAe]; exact Or.inr h
  have hS : va_S A s.heap s.heap [] := va_S.rf
  show W p l e ({ frames := 2, cells := 0, slots := 0, locals := 44 } : Room) s m _ below meth c s.heap [] 0 0 _ _
  refine W_genQ (fun Q hQ => ?_)
  have h := hf
  rw [fX6_stopHolding] at h
  have hl := lv_entry ([.ref a0, .int p1]) (n := 3) (Nat.le_of_ble_eq_true rfl)
  rw [lg_entry_eq]
  generalize (lg_sl ([.ref a0, .int p1]) ++ List.replicate (3 - (lg_sl ([.ref a0, .int p1])).length) Slot.unset).toArray = ls at hl ⊢
  have hl : lv_has ls 3 [(0, .ref a0), (1, .int p1)] := hl
  refine lv_aload_n hx hb dX6_stopHolding_0 rfl (lv_at hl 0 rfl) ?_
  refine lv_iload_n hx hb dX6_stopHolding_1 rfl (lv_at hl 1 rfl) ?_
  obtain ⟨x1, ex1, h⟩ := o_b h
  refine call_iV (As := [.int p1]) (rest := []) (ws2 := [(a0, .inr (9, [.int th, .ref a1, .ref a2, .ref a3, .int sm, .ref a4, .int ln, .int nx, .int cd, .int dg, .int pw, .long hs])), (a1, .inl (cI, 378, .inl sa)), (a2, .inl (cI, 378, .inl asd)), (a3, .inl (cI, 1512, .inl sv)), (a4, .inl (cI, 120, .inl mt))]) ⟨hx, hb, hml, hown, hts⟩ (cX6_heldBy_ok l G cI cG a0 a1 a2 a3 a4 fu th sa asd sv sm mt ln nx cd dg pw hs p1 x1 ex1) (cwV 1 hts gX6_stopHolding_X6_heldBy rfl rfl rfl hdX6_heldBy ⟨Nat.le_of_ble_eq_true rfl, Nat.le_of_ble_eq_true rfl⟩) hP hD hS hA hK 9 rfl rfl rfl [0, 1, 2, 3, 4] rfl rfl rfl rfl rfl rfl rfl rfl hl.1 (Nat.le_of_ble_eq_true rfl) dX6_stopHolding_2 ⟨Nat.zero_le _, Nat.zero_le _⟩ (fun H locs hP hD hS => ?_)
  refine lv_istore_n (lv' := [(2, .int x1), (0, .ref a0), (1, .int p1)]) hx hb dX6_stopHolding_5 rfl hl (by decide) rfl (fun ls hl => ?_)
  refine lv_iload_n hx hb dX6_stopHolding_6 rfl (lv_at hl 0 rfl) ?_
  refine lv_iconst (v := (-1)) hx hb dX6_stopHolding_7 (by decide) ?_
  refine lv_icmp_eq (tgt := 16) hx hb dX6_stopHolding_8 (by decide) (fun hc => ?_) (fun hc => ?_)
  · have h := o_t h hc
    obtain rfl := o_s h
    rw [hQ]
    exact end_v hx hb hr hP hD hS dX6_stopHolding_16 hlocks
  · have h := o_f h hc
    refine lv_aload_n hx hb dX6_stopHolding_11 rfl (lv_at hl 1 rfl) ?_
    refine lv_iload_n hx hb dX6_stopHolding_12 rfl (lv_at hl 0 rfl) ?_
    obtain ⟨x2, ex2, h⟩ := o_b h
    refine call_vV (As := [.int x1]) (rest := []) (ws2 := [(a0, .inr (9, [.int th, .ref a1, .ref a2, .ref a3, .int sm, .ref a4, .int ln, .int nx, .int cd, .int dg, .int pw, .long hs])), (a1, .inl (cI, 378, .inl x2)), (a2, .inl (cI, 378, .inl asd)), (a3, .inl (cI, 1512, .inl sv)), (a4, .inl (cI, 120, .inl mt))]) ⟨hx, hb, hml, hown, hts⟩ (cX6_endEffect_ok l G cI cG a0 a1 a2 a3 a4 fu th sa asd sv sm mt ln nx cd dg pw hs x1 x2 ex2) (cwV 1 hts gX6_stopHolding_X6_endEffect rfl rfl rfl hdX6_endEffect ⟨Nat.le_of_ble_eq_true rfl, Nat.le_of_ble_eq_true rfl⟩) hP hD hS hA hK 9 rfl rfl rfl [0, 1, 2, 3, 4] rfl rfl rfl rfl rfl rfl rfl rfl hl.1 (Nat.le_of_ble_eq_true rfl) dX6_stopHolding_13 ⟨Nat.zero_le _, Nat.zero_le _⟩ (fun H locs hP hD hS => ?_)
    obtain rfl := o_s h
    rw [hQ]
    exact end_v hx hb hr hP hD hS dX6_stopHolding_16 hlocks
theorem hdX6_powersOn : yX6_powersOn.cls = RX6 ∧ yX6_powersOn.cls ≠ "java/lang/invoke/MethodHandle" ∧ yX6_powersOn.cls ≠ "java/lang/invoke/VarHandle" ∧ (parseMethodDescriptor yX6_powersOn.desc).map (fun d => d.parameters.length) = some 2 := by decide +kernel
set_option maxHeartbeats 4000000 in
set_option maxRecDepth 100000 in
theorem cX6_powersOn_ok (l : Launch) (G : va_G) (cI cG : ClassId) (a0 a1 a2 a3 a4 : Nat) (fu : Nat) (th : Int32) (sa : (Nat → Int32)) (asd : (Nat → Int32)) (sv : (Nat → Int32)) (sm : Int32) (mt : (Nat → Int32)) (ln : Int32) (nx : Int32) (cd : Int32) (dg : Int32) (pw : Int32) (hs : Int64) (p1 : Int32) (p2 : Int32) (out : Int32) (hf : fX6_powersOn fu sa p1 p2 = some out) : CI l G (tyz cI cG) yX6_powersOn wsX6_powersOn ({ frames := 1, cells := 0, slots := 0, locals := 22 } : Room) [.ref a0, .int p1, .int p2] [(a0, .inr (9, [.int th, .ref a1, .ref a2, .ref a3, .int sm, .ref a4, .int ln, .int nx, .int cd, .int dg, .int pw, .long hs])), (a1, .inl (cI, 378, .inl sa)), (a2, .inl (cI, 378, .inl asd)), (a3, .inl (cI, 1512, .inl sv)), (a4, .inl (cI, 120, .inl mt))] out [(a0, .inr (9, [.int th, .ref a1, .ref a2, .ref a3, .int sm, .ref a4, .int ln, .int nx, .int cd, .int dg, .int pw, .long hs])), (a1, .inl (cI, 378, .inl sa)), (a2, .inl (cI, 378, .inl asd)), (a3, .inl (cI, 1512, .inl sv)), (a4, .inl (cI, 120, .inl mt))] := by
  intro sz
  refine Met.ofW (cc := cX6_powersOn) (maxL := 5) (ret := (some .int)) (by decide) rfl ?_
  intro p e s m args below meth c s₁ B hml hv
  obtain ⟨rfl, hsz, hP, hK, hD0⟩ := hv
  have hx := B.exec
  have hb := B.bytes
  have hr := B.returns
  have hts := atoms_spec (ws := wsX6_powersOn) B.pre
  have hown : s.vm.findClass RX6 = some m.cls := findClass_of_methodNamed B.named
  have hlocks := B.notSynchronized
  subst hsz
  have hD := hD0.self (sz := s.heap.size)
  generalize hAe : va_A [(a0, .inr (9, [.int th, .ref a1, .ref a2, .ref a3, .int sm, .ref a4, .int ln, .int nx, .int cd, .int dg, .int pw, .long hs])), (a1, .inl (cI, 378, .inl sa)), (a2, .inl (cI, 378, .inl asd)), (a3, .inl (cI, 1512, .inl sv)), (a4, .inl (cI, 120, .inl mt))] s.heap.size = A at hD ⊢
  have hA : ∀ q : Nat, s.heap.size ≤ q → A q := fun q h => by rw [← hAe]; exact Or.inr h
  have hS : va_S A s.heap s.heap [] := va_S.rf
  have hw0 := hts (.fieldLink RX6 7 "SpeedTurnsModel" "s" "[I") (List.mem_of_getElem? (i := 1) rfl)
  have hin6 : ∀ w ∈ u_ws RX6 TX6 12, w ∈ wsX6_powersOn := by decide +kernel
  show W p l e ({ frames := 1, cells := 0, slots := 0, locals := 22 } : Room) s m _ below meth c s.heap [] 0 0 _ _
  refine W_genQ (fun Q hQ => ?_)
  have L5 : ∀ (k : Nat) (v3 : Int32) (v4 : Int32) (H : Heap) (locs : List Loc) (ls : Array Slot), fX6_powersOn_L5 fu sa p1 p2 k v3 v4 = some out → va_P G vwCl [(a0, .inr (9, [.int th, .ref a1, .ref a2, .ref a3, .int sm, .ref a4, .int ln, .int nx, .int cd, .int dg, .int pw, .long hs])), (a1, .inl (cI, 378, .inl sa)), (a2, .inl (cI, 378, .inl asd)), (a3, .inl (cI, 1512, .inl sv)), (a4, .inl (cI, 120, .inl mt))] H → va_D A [(a0, .inr (9, [.int th, .ref a1, .ref a2, .ref a3, .int sm, .ref a4, .int ln, .int nx, .int cd, .int dg, .int pw, .long hs])), (a1, .inl (cI, 378, .inl sa)), (a2, .inl (cI, 378, .inl asd)), (a3, .inl (cI, 1512, .inl sv)), (a4, .inl (cI, 120, .inl mt))] → va_S A s.heap H locs → lv_has ls 5 [(0, .ref a0), (1, .int p1), (2, .int p2), (3, .int v3), (4, .int v4)] → W p l e ({ frames := 1, cells := 0, slots := 0, locals := 22 } : Room) s m ([.ref a0, .int p1, .int p2] : List Value).toArray below meth c H locs 0 0 Q (F0 m 5 ls []) := by
    intro k
    induction k with
    | zero => intro v3 v4 H locs ls h hP hD hS hl; rw [fX6_powersOn_L5] at h; exact o_n h
    | succ k ih =>
      intro v3 v4 H locs ls h hP hD hS hl
      rw [fX6_powersOn_L5] at h
      refine lv_iload hx hb dX6_powersOn_5 (lv_at hl 4 rfl) ?_
      refine lv_aload_n hx hb dX6_powersOn_7 rfl (lv_at hl 0 rfl) ?_
      refine va_get (D := G) (ci := 9) (v := .ref a1) (C := RX6) (T := TX6) (N := 12) hx hb hts hin6 hown hK.1 hP 0 rfl rfl 1 (by decide) hw0 (fun _ h9 => h9) rfl dX6_powersOn_8 ?_
      refine lv_iconst (v := 1) hx hb dX6_powersOn_11 (by decide) ?_
      obtain ⟨hin, h⟩ := o_g h
      refine va_iald hx hb hK.1 hP 1 0 rfl rfl hin dX6_powersOn_12 ?_
      refine lv_icmp_ge (tgt := 58) hx hb dX6_powersOn_13 (by decide) (fun hc => ?_) (fun hc => ?_)
      · have h := o_t h hc
        refine lv_iload_n hx hb dX6_powersOn_58 rfl (lv_at hl 3 rfl) ?_
        obtain rfl := o_s h
        rw [hQ]
        exact end_i hx hb hr rfl hP hD hS dX6_powersOn_59 hlocks
      · have h := o_f h hc
        refine lv_iload_n hx hb dX6_powersOn_16 rfl (lv_at hl 3 rfl) ?_
        refine lv_aload_n hx hb dX6_powersOn_17 rfl (lv_at hl 0 rfl) ?_
        refine lv_iload hx hb dX6_powersOn_18 (lv_at hl 4 rfl) ?_
        refine lv_iconst (v := 3) hx hb dX6_powersOn_20 (by decide) ?_
        obtain ⟨x1, ex1, h⟩ := o_b h
        refine call_iV (As := [.int v4, .int (3 : Int32)]) (rest := [.int v3]) (ws2 := [(a0, .inr (9, [.int th, .ref a1, .ref a2, .ref a3, .int sm, .ref a4, .int ln, .int nx, .int cd, .int dg, .int pw, .long hs])), (a1, .inl (cI, 378, .inl sa)), (a2, .inl (cI, 378, .inl asd)), (a3, .inl (cI, 1512, .inl sv)), (a4, .inl (cI, 120, .inl mt))]) ⟨hx, hb, hml, hown, hts⟩ (cX6_ofEffect_ok l G cI cG a0 a1 a2 a3 a4 th sa asd sv sm mt ln nx cd dg pw hs v4 (3 : Int32) x1 ex1) (cwV 2 hts gX6_powersOn_X6_ofEffect rfl rfl rfl hdX6_ofEffect ⟨Nat.le_of_ble_eq_true rfl, Nat.le_of_ble_eq_true rfl⟩) hP hD hS hA hK 9 rfl rfl rfl [0, 1, 2, 3, 4] rfl rfl rfl rfl rfl rfl rfl rfl hl.1 (Nat.le_of_ble_eq_true rfl) dX6_powersOn_21 ⟨Nat.zero_le _, Nat.zero_le _⟩ (fun H locs hP hD hS => ?_)
        refine lv_iload_n hx hb dX6_powersOn_24 rfl (lv_at hl 1 rfl) ?_
        refine lv_icmp_ne (tgt := 49) hx hb dX6_powersOn_25 (by decide) (fun hc => ?_) (fun hc => ?_)
        · have h := o_f h hc
          refine lv_iconst (v := 0) hx hb dX6_powersOn_49 (by decide) ?_
          refine lv_iadd hx hb dX6_powersOn_50 ?_
          refine lv_istore_n (lv' := [(3, .int (v3 + (0 : Int32))), (0, .ref a0), (1, .int p1), (2, .int p2), (4, .int v4)]) hx hb dX6_powersOn_51 rfl hl (by decide) rfl (fun ls hl => ?_)
          refine lv_iinc (v := (v4 + 1)) (lv' := [(4, .int (v4 + 1)), (3, .int (v3 + (0 : Int32))), (0, .ref a0), (1, .int p1), (2, .int p2)]) hx hb dX6_powersOn_52 hl (k := 4) rfl rfl (by decide) rfl (fun ls hl => ?_)
          refine lv_goto (tgt := 5) hx hb dX6_powersOn_55 (by decide) ?_
          exact ih (v3 + (0 : Int32)) (v4 + 1) _ _ _ h hP hD hS (lv_sub hl [2, 3, 4, 1, 0] rfl)
        · have h := o_t h hc
          refine lv_aload_n hx hb dX6_powersOn_28 rfl (lv_at hl 0 rfl) ?_
          refine lv_iload hx hb dX6_powersOn_29 (lv_at hl 4 rfl) ?_
          refine lv_iconst (v := 0) hx hb dX6_powersOn_31 (by decide) ?_
          obtain ⟨x2, ex2, h⟩ := o_b h
          refine call_iV (As := [.int v4, .int (0 : Int32)]) (rest := [.int v3]) (ws2 := [(a0, .inr (9, [.int th, .ref a1, .ref a2, .ref a3, .int sm, .ref a4, .int ln, .int nx, .int cd, .int dg, .int pw, .long hs])), (a1, .inl (cI, 378, .inl sa)), (a2, .inl (cI, 378, .inl asd)), (a3, .inl (cI, 1512, .inl sv)), (a4, .inl (cI, 120, .inl mt))]) ⟨hx, hb, hml, hown, hts⟩ (cX6_ofEffect_ok l G cI cG a0 a1 a2 a3 a4 th sa asd sv sm mt ln nx cd dg pw hs v4 (0 : Int32) x2 ex2) (cwV 2 hts gX6_powersOn_X6_ofEffect rfl rfl rfl hdX6_ofEffect ⟨Nat.le_of_ble_eq_true rfl, Nat.le_of_ble_eq_true rfl⟩) hP hD hS hA hK 9 rfl rfl rfl [0, 1, 2, 3, 4] rfl rfl rfl rfl rfl rfl rfl rfl hl.1 (Nat.le_of_ble_eq_true rfl) dX6_powersOn_32 ⟨Nat.zero_le _, Nat.zero_le _⟩ (fun H locs hP hD hS => ?_)
          refine lv_iload_n hx hb dX6_powersOn_35 rfl (lv_at hl 2 rfl) ?_
          refine lv_icmp_ne (tgt := 49) hx hb dX6_powersOn_36 (by decide) (fun hc => ?_) (fun hc => ?_)
          · have h := o_f h hc
            refine lv_iconst (v := 0) hx hb dX6_powersOn_49 (by decide) ?_
            refine lv_iadd hx hb dX6_powersOn_50 ?_
            refine lv_istore_n (lv' := [(3, .int (v3 + (0 : Int32))), (0, .ref a0), (1, .int p1), (2, .int p2), (4, .int v4)]) hx hb dX6_powersOn_51 rfl hl (by decide) rfl (fun ls hl => ?_)
            refine lv_iinc (v := (v4 + 1)) (lv' := [(4, .int (v4 + 1)), (3, .int (v3 + (0 : Int32))), (0, .ref a0), (1, .int p1), (2, .int p2)]) hx hb dX6_powersOn_52 hl (k := 4) rfl rfl (by decide) rfl (fun ls hl => ?_)
            refine lv_goto (tgt := 5) hx hb dX6_powersOn_55 (by decide) ?_
            exact ih (v3 + (0 : Int32)) (v4 + 1) _ _ _ h hP hD hS (lv_sub hl [2, 3, 4, 1, 0] rfl)
          · have h := o_t h hc
            refine lv_aload_n hx hb dX6_powersOn_39 rfl (lv_at hl 0 rfl) ?_
            refine lv_iload hx hb dX6_powersOn_40 (lv_at hl 4 rfl) ?_
            refine lv_iconst (v := 1) hx hb dX6_powersOn_42 (by decide) ?_
            obtain ⟨x3, ex3, h⟩ := o_b h
            refine call_iV (As := [.int v4, .int (1 : Int32)]) (rest := [.int v3]) (ws2 := [(a0, .inr (9, [.int th, .ref a1, .ref a2, .ref a3, .int sm, .ref a4, .int ln, .int nx, .int cd, .int dg, .int pw, .long hs])), (a1, .inl (cI, 378, .inl sa)), (a2, .inl (cI, 378, .inl asd)), (a3, .inl (cI, 1512, .inl sv)), (a4, .inl (cI, 120, .inl mt))]) ⟨hx, hb, hml, hown, hts⟩ (cX6_ofEffect_ok l G cI cG a0 a1 a2 a3 a4 th sa asd sv sm mt ln nx cd dg pw hs v4 (1 : Int32) x3 ex3) (cwV 2 hts gX6_powersOn_X6_ofEffect rfl rfl rfl hdX6_ofEffect ⟨Nat.le_of_ble_eq_true rfl, Nat.le_of_ble_eq_true rfl⟩) hP hD hS hA hK 9 rfl rfl rfl [0, 1, 2, 3, 4] rfl rfl rfl rfl rfl rfl rfl rfl hl.1 (Nat.le_of_ble_eq_true rfl) dX6_powersOn_43 ⟨Nat.zero_le _, Nat.zero_le _⟩ (fun H locs hP hD hS => ?_)
            refine lv_goto (tgt := 50) hx hb dX6_powersOn_46 (by decide) ?_
            refine lv_iadd hx hb dX6_powersOn_50 ?_
            refine lv_istore_n (lv' := [(3, .int (v3 + x3)), (0, .ref a0), (1, .int p1), (2, .int p2), (4, .int v4)]) hx hb dX6_powersOn_51 rfl hl (by decide) rfl (fun ls hl => ?_)
            refine lv_iinc (v := (v4 + 1)) (lv' := [(4, .int (v4 + 1)), (3, .int (v3 + x3)), (0, .ref a0), (1, .int p1), (2, .int p2)]) hx hb dX6_powersOn_52 hl (k := 4) rfl rfl (by decide) rfl (fun ls hl => ?_)
            refine lv_goto (tgt := 5) hx hb dX6_powersOn_55 (by decide) ?_
            exact ih (v3 + x3) (v4 + 1) _ _ _ h hP hD hS (lv_sub hl [2, 3, 4, 1, 0] rfl)
  have h := hf
  rw [fX6_powersOn] at h
  have hl := lv_entry ([.ref a0, .int p1, .int p2]) (n := 5) (Nat.le_of_ble_eq_true rfl)
  rw [lg_entry_eq]
  generalize (lg_sl ([.ref a0, .int p1, .int p2]) ++ List.replicate (5 - (lg_sl ([.ref a0, .int p1, .int p2])).length) Slot.unset).toArray = ls at hl ⊢
  have hl : lv_has ls 5 [(0, .ref a0), (1, .int p1), (2, .int p2)] := hl
  refine lv_iconst (v := 0) hx hb dX6_powersOn_0 (by decide) ?_
  refine lv_istore_n (lv' := [(3, .int (0 : Int32)), (0, .ref a0), (1, .int p1), (2, .int p2)]) hx hb dX6_powersOn_1 rfl hl (by decide) rfl (fun ls hl => ?_)
  refine lv_iconst (v := 0) hx hb dX6_powersOn_2 (by decide) ?_
  refine lv_istore (lv' := [(4, .int (0 : Int32)), (3, .int (0 : Int32)), (0, .ref a0), (1, .int p1), (2, .int p2)]) hx hb dX6_powersOn_3 hl (by decide) rfl (fun ls hl => ?_)
  exact L5 fu (0 : Int32) (0 : Int32) _ _ _ h hP hD hS (lv_sub hl [2, 3, 4, 1, 0] rfl)
theorem hdX6_speedOf : yX6_speedOf.cls = RX6 ∧ yX6_speedOf.cls ≠ "java/lang/invoke/MethodHandle" ∧ yX6_speedOf.cls ≠ "java/lang/invoke/VarHandle" ∧ (parseMethodDescriptor yX6_speedOf.desc).map (fun d => d.parameters.length) = some 1 := by decide +kernel
set_option maxHeartbeats 4000000 in
set_option maxRecDepth 100000 in
theorem cX6_speedOf_ok (l : Launch) (G : va_G) (cI cG : ClassId) (a0 a1 a2 a3 a4 : Nat) (fu : Nat) (th : Int32) (sa : (Nat → Int32)) (asd : (Nat → Int32)) (sv : (Nat → Int32)) (sm : Int32) (mt : (Nat → Int32)) (ln : Int32) (nx : Int32) (cd : Int32) (dg : Int32) (pw : Int32) (hs : Int64) (p1 : Int32) (out : Int32) (hf : fX6_speedOf fu sa p1 = some out) : CI l G (tyz cI cG) yX6_speedOf wsX6_speedOf ({ frames := 2, cells := 0, slots := 0, locals := 46 } : Room) [.ref a0, .int p1] [(a0, .inr (9, [.int th, .ref a1, .ref a2, .ref a3, .int sm, .ref a4, .int ln, .int nx, .int cd, .int dg, .int pw, .long hs])), (a1, .inl (cI, 378, .inl sa)), (a2, .inl (cI, 378, .inl asd)), (a3, .inl (cI, 1512, .inl sv)), (a4, .inl (cI, 120, .inl mt))] out [(a0, .inr (9, [.int th, .ref a1, .ref a2, .ref a3, .int sm, .ref a4, .int ln, .int nx, .int cd, .int dg, .int pw, .long hs])), (a1, .inl (cI, 378, .inl sa)), (a2, .inl (cI, 378, .inl asd)), (a3, .inl (cI, 1512, .inl sv)), (a4, .inl (cI, 120, .inl mt))] := by
  intro sz
  refine Met.ofW (cc := cX6_speedOf) (maxL := 3) (ret := (some .int)) (by decide) rfl ?_
  intro p e s m args below meth c s₁ B hml hv
  obtain ⟨rfl, hsz, hP, hK, hD0⟩ := hv
  have hx := B.exec
  have hb := B.bytes
  have hr := B.returns
  have hts := atoms_spec (ws := wsX6_speedOf) B.pre
  have hown : s.vm.findClass RX6 = some m.cls := findClass_of_methodNamed B.named
  have hlocks := B.notSynchronized
  subst hsz
  have hD := hD0.self (sz := s.heap.size)
  generalize hAe : va_A [(a0, .inr (9, [.int th, .ref a1, .ref a2, .ref a3, .int sm, .ref a4, .int ln, .int nx, .int cd, .int dg, .int pw, .long hs])), (a1, .inl (cI, 378, .inl sa)), (a2, .inl (cI, 378, .inl asd)), (a3, .inl (cI, 1512, .inl sv)), (a4, .inl (cI, 120, .inl mt))] s.heap.size = A at hD ⊢
  have hA : ∀ q : Nat, s.heap.size ≤ q → A q := fun q h => by rw [← hAe]; exact Or.inr h
  have hS : va_S A s.heap s.heap [] := va_S.rf
  show W p l e ({ frames := 2, cells := 0, slots := 0, locals := 46 } : Room) s m _ below meth c s.heap [] 0 0 _ _
  refine W_genQ (fun Q hQ => ?_)
  have h := hf
  rw [fX6_speedOf] at h
  have hl := lv_entry ([.ref a0, .int p1]) (n := 3) (Nat.le_of_ble_eq_true rfl)
  rw [lg_entry_eq]
  generalize (lg_sl ([.ref a0, .int p1]) ++ List.replicate (3 - (lg_sl ([.ref a0, .int p1])).length) Slot.unset).toArray = ls at hl ⊢
  have hl : lv_has ls 3 [(0, .ref a0), (1, .int p1)] := hl
  refine lv_aload_n hx hb dX6_speedOf_0 rfl (lv_at hl 0 rfl) ?_
  refine lv_iload_n hx hb dX6_speedOf_1 rfl (lv_at hl 1 rfl) ?_
  refine lv_iconst (v := 0) hx hb dX6_speedOf_2 (by decide) ?_
  obtain ⟨x1, ex1, h⟩ := o_b h
  refine call_iV (As := [.int p1, .int (0 : Int32)]) (rest := []) (ws2 := [(a0, .inr (9, [.int th, .ref a1, .ref a2, .ref a3, .int sm, .ref a4, .int ln, .int nx, .int cd, .int dg, .int pw, .long hs])), (a1, .inl (cI, 378, .inl sa)), (a2, .inl (cI, 378, .inl asd)), (a3, .inl (cI, 1512, .inl sv)), (a4, .inl (cI, 120, .inl mt))]) ⟨hx, hb, hml, hown, hts⟩ (cX6_of_ok l G cI cG a0 a1 a2 a3 a4 th sa asd sv sm mt ln nx cd dg pw hs p1 (0 : Int32) x1 ex1) (cwV 2 hts gX6_speedOf_X6_of rfl rfl rfl hdX6_of ⟨Nat.le_of_ble_eq_true rfl, Nat.le_of_ble_eq_true rfl⟩) hP hD hS hA hK 9 rfl rfl rfl [0, 1, 2, 3, 4] rfl rfl rfl rfl rfl rfl rfl rfl hl.1 (Nat.le_of_ble_eq_true rfl) dX6_speedOf_3 ⟨Nat.zero_le _, Nat.zero_le _⟩ (fun H locs hP hD hS => ?_)
  refine lv_aload_n hx hb dX6_speedOf_6 rfl (lv_at hl 0 rfl) ?_
  refine lv_iload_n hx hb dX6_speedOf_7 rfl (lv_at hl 1 rfl) ?_
  refine lv_iconst (v := 1) hx hb dX6_speedOf_8 (by decide) ?_
  obtain ⟨x2, ex2, h⟩ := o_b h
  refine call_iV (As := [.int p1, .int (1 : Int32)]) (rest := [.int x1]) (ws2 := [(a0, .inr (9, [.int th, .ref a1, .ref a2, .ref a3, .int sm, .ref a4, .int ln, .int nx, .int cd, .int dg, .int pw, .long hs])), (a1, .inl (cI, 378, .inl sa)), (a2, .inl (cI, 378, .inl asd)), (a3, .inl (cI, 1512, .inl sv)), (a4, .inl (cI, 120, .inl mt))]) ⟨hx, hb, hml, hown, hts⟩ (cX6_powersOn_ok l G cI cG a0 a1 a2 a3 a4 fu th sa asd sv sm mt ln nx cd dg pw hs p1 (1 : Int32) x2 ex2) (cwV 2 hts gX6_speedOf_X6_powersOn rfl rfl rfl hdX6_powersOn ⟨Nat.le_of_ble_eq_true rfl, Nat.le_of_ble_eq_true rfl⟩) hP hD hS hA hK 9 rfl rfl rfl [0, 1, 2, 3, 4] rfl rfl rfl rfl rfl rfl rfl rfl hl.1 (Nat.le_of_ble_eq_true rfl) dX6_speedOf_9 ⟨Nat.zero_le _, Nat.zero_le _⟩ (fun H locs hP hD hS => ?_)
  refine lv_iadd hx hb dX6_speedOf_12 ?_
  refine lv_aload_n hx hb dX6_speedOf_13 rfl (lv_at hl 0 rfl) ?_
  refine lv_iload_n hx hb dX6_speedOf_14 rfl (lv_at hl 1 rfl) ?_
  refine lv_iconst (v := 2) hx hb dX6_speedOf_15 (by decide) ?_
  obtain ⟨x3, ex3, h⟩ := o_b h
  refine call_iV (As := [.int p1, .int (2 : Int32)]) (rest := [.int (x1 + x2)]) (ws2 := [(a0, .inr (9, [.int th, .ref a1, .ref a2, .ref a3, .int sm, .ref a4, .int ln, .int nx, .int cd, .int dg, .int pw, .long hs])), (a1, .inl (cI, 378, .inl sa)), (a2, .inl (cI, 378, .inl asd)), (a3, .inl (cI, 1512, .inl sv)), (a4, .inl (cI, 120, .inl mt))]) ⟨hx, hb, hml, hown, hts⟩ (cX6_powersOn_ok l G cI cG a0 a1 a2 a3 a4 fu th sa asd sv sm mt ln nx cd dg pw hs p1 (2 : Int32) x3 ex3) (cwV 2 hts gX6_speedOf_X6_powersOn rfl rfl rfl hdX6_powersOn ⟨Nat.le_of_ble_eq_true rfl, Nat.le_of_ble_eq_true rfl⟩) hP hD hS hA hK 9 rfl rfl rfl [0, 1, 2, 3, 4] rfl rfl rfl rfl rfl rfl rfl rfl hl.1 (Nat.le_of_ble_eq_true rfl) dX6_speedOf_16 ⟨Nat.zero_le _, Nat.zero_le _⟩ (fun H locs hP hD hS => ?_)
  refine lv_isub hx hb dX6_speedOf_19 ?_
  refine lv_istore_n (lv' := [(2, .int ((x1 + x2) - x3)), (0, .ref a0), (1, .int p1)]) hx hb dX6_speedOf_20 rfl hl (by decide) rfl (fun ls hl => ?_)
  refine lv_iload_n hx hb dX6_speedOf_21 rfl (lv_at hl 0 rfl) ?_
  refine lv_iconst (v := 1) hx hb dX6_speedOf_22 (by decide) ?_
  refine lv_icmp_ge (tgt := 30) hx hb dX6_speedOf_23 (by decide) (fun hc => ?_) (fun hc => ?_)
  · have h := o_t h hc
    refine lv_iload_n hx hb dX6_speedOf_30 rfl (lv_at hl 0 rfl) ?_
    obtain rfl := o_s h
    rw [hQ]
    exact end_i hx hb hr rfl hP hD hS dX6_speedOf_31 hlocks
  · have h := o_f h hc
    refine lv_iconst (v := 1) hx hb dX6_speedOf_26 (by decide) ?_
    refine lv_goto (tgt := 31) hx hb dX6_speedOf_27 (by decide) ?_
    obtain rfl := o_s h
    rw [hQ]
    exact end_i hx hb hr rfl hP hD hS dX6_speedOf_31 hlocks
theorem hdX6_fall : yX6_fall.cls = RX6 ∧ yX6_fall.cls ≠ "java/lang/invoke/MethodHandle" ∧ yX6_fall.cls ≠ "java/lang/invoke/VarHandle" ∧ (parseMethodDescriptor yX6_fall.desc).map (fun d => d.parameters.length) = some 1 := by decide +kernel
set_option maxHeartbeats 4000000 in
set_option maxRecDepth 100000 in
theorem cX6_fall_ok (l : Launch) (G : va_G) (cI cG : ClassId) (a0 a1 a2 a3 a4 : Nat) (fu : Nat) (th : Int32) (sa : (Nat → Int32)) (asd : (Nat → Int32)) (sv : (Nat → Int32)) (sm : Int32) (mt : (Nat → Int32)) (ln : Int32) (nx : Int32) (cd : Int32) (dg : Int32) (pw : Int32) (hs : Int64) (p1 : Int32) (out : (Nat → Int32)) (hf : fX6_fall fu sa p1 = some out) : CV l G (tyz cI cG) yX6_fall wsX6_fall ({ frames := 1, cells := 0, slots := 0, locals := 22 } : Room) [.ref a0, .int p1] [(a0, .inr (9, [.int th, .ref a1, .ref a2, .ref a3, .int sm, .ref a4, .int ln, .int nx, .int cd, .int dg, .int pw, .long hs])), (a1, .inl (cI, 378, .inl sa)), (a2, .inl (cI, 378, .inl asd)), (a3, .inl (cI, 1512, .inl sv)), (a4, .inl (cI, 120, .inl mt))] [(a0, .inr (9, [.int th, .ref a1, .ref a2, .ref a3, .int sm, .ref a4, .int ln, .int nx, .int cd, .int dg, .int pw, .long hs])), (a1, .inl (cI, 378, .inl out)), (a2, .inl (cI, 378, .inl asd)), (a3, .inl (cI, 1512, .inl sv)), (a4, .inl (cI, 120, .inl mt))] := by
  intro sz
  refine Met.ofW (cc := cX6_fall) (maxL := 4) (ret := none) (by decide) rfl ?_
  intro p e s m args below meth c s₁ B hml hv
  obtain ⟨rfl, hsz, hP, hK, hD0⟩ := hv
  have hx := B.exec
  have hb := B.bytes
  have hr := B.returns
  have hts := atoms_spec (ws := wsX6_fall) B.pre
  have hown : s.vm.findClass RX6 = some m.cls := findClass_of_methodNamed B.named
  have hlocks := B.notSynchronized
  subst hsz
  have hD := hD0.self (sz := s.heap.size)
  generalize hAe : va_A [(a0, .inr (9, [.int th, .ref a1, .ref a2, .ref a3, .int sm, .ref a4, .int ln, .int nx, .int cd, .int dg, .int pw, .long hs])), (a1, .inl (cI, 378, .inl sa)), (a2, .inl (cI, 378, .inl asd)), (a3, .inl (cI, 1512, .inl sv)), (a4, .inl (cI, 120, .inl mt))] s.heap.size = A at hD ⊢
  have hA : ∀ q : Nat, s.heap.size ≤ q → A q := fun q h => by rw [← hAe]; exact Or.inr h
  have hS : va_S A s.heap s.heap [] := va_S.rf
  have hw0 := hts (.fieldLink RX6 7 "SpeedTurnsModel" "s" "[I") (List.mem_of_getElem? (i := 1) rfl)
  have hin6 : ∀ w ∈ u_ws RX6 TX6 12, w ∈ wsX6_fall := by decide +kernel
  show W p l e ({ frames := 1, cells := 0, slots := 0, locals := 22 } : Room) s m _ below meth c s.heap [] 0 0 _ _
  refine W_genQ (fun Q hQ => ?_)
  have L2 : ∀ (k : Nat) (sa : (Nat → Int32)) (v2 : Int32) (H : Heap) (locs : List Loc) (ls : Array Slot), fX6_fall_L2 fu p1 k sa v2 = some out → va_P G vwCl [(a0, .inr (9, [.int th, .ref a1, .ref a2, .ref a3, .int sm, .ref a4, .int ln, .int nx, .int cd, .int dg, .int pw, .long hs])), (a1, .inl (cI, 378, .inl sa)), (a2, .inl (cI, 378, .inl asd)), (a3, .inl (cI, 1512, .inl sv)), (a4, .inl (cI, 120, .inl mt))] H → va_D A [(a0, .inr (9, [.int th, .ref a1, .ref a2, .ref a3, .int sm, .ref a4, .int ln, .int nx, .int cd, .int dg, .int pw, .long hs])), (a1, .inl (cI, 378, .inl sa)), (a2, .inl (cI, 378, .inl asd)), (a3, .inl (cI, 1512, .inl sv)), (a4, .inl (cI, 120, .inl mt))] → va_S A s.heap H locs → lv_has ls 4 [(0, .ref a0), (1, .int p1), (2, .int v2)] → W p l e ({ frames := 1, cells := 0, slots := 0, locals := 22 } : Room) s m ([.ref a0, .int p1] : List Value).toArray below meth c H locs 0 0 Q (F0 m 2 ls []) := by
    intro k
    induction k with
    | zero => intro sa v2 H locs ls h hP hD hS hl; rw [fX6_fall_L2] at h; exact o_n h
    | succ k ih =>
      intro sa v2 H locs ls h hP hD hS hl
      rw [fX6_fall_L2] at h
      refine lv_iload_n hx hb dX6_fall_2 rfl (lv_at hl 2 rfl) ?_
      refine lv_aload_n hx hb dX6_fall_3 rfl (lv_at hl 0 rfl) ?_
      refine va_get (D := G) (ci := 9) (v := .ref a1) (C := RX6) (T := TX6) (N := 12) hx hb hts hin6 hown hK.1 hP 0 rfl rfl 1 (by decide) hw0 (fun _ h9 => h9) rfl dX6_fall_4 ?_
      refine lv_iconst (v := 1) hx hb dX6_fall_7 (by decide) ?_
      obtain ⟨hin, h⟩ := o_g h
      refine va_iald hx hb hK.1 hP 1 0 rfl rfl hin dX6_fall_8 ?_
      refine lv_icmp_ge (tgt := 76) hx hb dX6_fall_9 (by decide) (fun hc => ?_) (fun hc => ?_)
      · have h := o_t h hc
        obtain rfl := o_s h
        rw [hQ]
        exact end_v hx hb hr hP hD hS dX6_fall_76 hlocks
      · have h := o_f h hc
        refine lv_aload_n hx hb dX6_fall_12 rfl (lv_at hl 0 rfl) ?_
        refine lv_iload_n hx hb dX6_fall_13 rfl (lv_at hl 2 rfl) ?_
        refine lv_iconst (v := 2) hx hb dX6_fall_14 (by decide) ?_
        obtain ⟨x1, ex1, h⟩ := o_b h
        refine call_iV (As := [.int v2, .int (2 : Int32)]) (rest := []) (ws2 := [(a0, .inr (9, [.int th, .ref a1, .ref a2, .ref a3, .int sm, .ref a4, .int ln, .int nx, .int cd, .int dg, .int pw, .long hs])), (a1, .inl (cI, 378, .inl sa)), (a2, .inl (cI, 378, .inl asd)), (a3, .inl (cI, 1512, .inl sv)), (a4, .inl (cI, 120, .inl mt))]) ⟨hx, hb, hml, hown, hts⟩ (cX6_ofEffect_ok l G cI cG a0 a1 a2 a3 a4 th sa asd sv sm mt ln nx cd dg pw hs v2 (2 : Int32) x1 ex1) (cwV 2 hts gX6_fall_X6_ofEffect rfl rfl rfl hdX6_ofEffect ⟨Nat.le_of_ble_eq_true rfl, Nat.le_of_ble_eq_true rfl⟩) hP hD hS hA hK 9 rfl rfl rfl [0, 1, 2, 3, 4] rfl rfl rfl rfl rfl rfl rfl rfl hl.1 (Nat.le_of_ble_eq_true rfl) dX6_fall_15 ⟨Nat.zero_le _, Nat.zero_le _⟩ (fun H locs hP hD hS => ?_)
        refine lv_iload_n hx hb dX6_fall_18 rfl (lv_at hl 1 rfl) ?_
        refine lv_icmp_ne (tgt := 46) hx hb dX6_fall_19 (by decide) (fun hc => ?_) (fun hc => ?_)
        · have h := o_f h hc
          refine lv_iconst (v := 0) hx hb dX6_fall_46 (by decide) ?_
          refine lv_istore_n (lv' := [(3, .int (0 : Int32)), (0, .ref a0), (1, .int p1), (2, .int v2)]) hx hb dX6_fall_47 rfl hl (by decide) rfl (fun ls hl => ?_)
          refine lv_aload_n hx hb dX6_fall_48 rfl (lv_at hl 1 rfl) ?_
          refine lv_iload_n hx hb dX6_fall_49 rfl (lv_at hl 3 rfl) ?_
          refine lv_iconst (v := 3) hx hb dX6_fall_50 (by decide) ?_
          obtain ⟨x2, ex2, h⟩ := o_b h
          refine call_iV (As := [.int v2, .int (3 : Int32)]) (rest := []) (ws2 := [(a0, .inr (9, [.int th, .ref a1, .ref a2, .ref a3, .int sm, .ref a4, .int ln, .int nx, .int cd, .int dg, .int pw, .long hs])), (a1, .inl (cI, 378, .inl sa)), (a2, .inl (cI, 378, .inl asd)), (a3, .inl (cI, 1512, .inl sv)), (a4, .inl (cI, 120, .inl mt))]) ⟨hx, hb, hml, hown, hts⟩ (cX6_ofEffect_ok l G cI cG a0 a1 a2 a3 a4 th sa asd sv sm mt ln nx cd dg pw hs v2 (3 : Int32) x2 ex2) (cwV 2 hts gX6_fall_X6_ofEffect rfl rfl rfl hdX6_ofEffect ⟨Nat.le_of_ble_eq_true rfl, Nat.le_of_ble_eq_true rfl⟩) hP hD hS hA hK 9 rfl rfl rfl [0, 1, 2, 3, 4] rfl rfl rfl rfl rfl rfl rfl rfl hl.1 (Nat.le_of_ble_eq_true rfl) dX6_fall_51 ⟨Nat.zero_le _, Nat.zero_le _⟩ (fun H locs hP hD hS => ?_)
          refine lv_iload_n hx hb dX6_fall_54 rfl (lv_at hl 2 rfl) ?_
          refine lv_icmp_eq (tgt := 62) hx hb dX6_fall_55 (by decide) (fun hc => ?_) (fun hc => ?_)
          · have h := o_t h hc
            refine lv_aload_n hx hb dX6_fall_62 rfl (lv_at hl 1 rfl) ?_
            refine lv_iload_n hx hb dX6_fall_63 rfl (lv_at hl 3 rfl) ?_
            obtain ⟨x3, ex3, h⟩ := o_b h
            refine call_vV (As := [.int v2]) (rest := []) (ws2 := [(a0, .inr (9, [.int th, .ref a1, .ref a2, .ref a3, .int sm, .ref a4, .int ln, .int nx, .int cd, .int dg, .int pw, .long hs])), (a1, .inl (cI, 378, .inl x3)), (a2, .inl (cI, 378, .inl asd)), (a3, .inl (cI, 1512, .inl sv)), (a4, .inl (cI, 120, .inl mt))]) ⟨hx, hb, hml, hown, hts⟩ (cX6_endEffect_ok l G cI cG a0 a1 a2 a3 a4 fu th sa asd sv sm mt ln nx cd dg pw hs v2 x3 ex3) (cwV 1 hts gX6_fall_X6_endEffect rfl rfl rfl hdX6_endEffect ⟨Nat.le_of_ble_eq_true rfl, Nat.le_of_ble_eq_true rfl⟩) hP hD hS hA hK 9 rfl rfl rfl [0, 1, 2, 3, 4] rfl rfl rfl rfl rfl rfl rfl rfl hl.1 (Nat.le_of_ble_eq_true rfl) dX6_fall_64 ⟨Nat.zero_le _, Nat.zero_le _⟩ (fun H locs hP hD hS => ?_)
            refine lv_goto (tgt := 73) hx hb dX6_fall_67 (by decide) ?_
            refine lv_goto (tgt := 2) hx hb dX6_fall_73 (by decide) ?_
            exact ih x3 v2 _ _ _ h hP hD hS (lv_sub hl [1, 2, 3] rfl)
          · have h := o_f h hc
            refine lv_iload_n hx hb dX6_fall_58 rfl (lv_at hl 0 rfl) ?_
            refine lv_if_eq (tgt := 70) hx hb dX6_fall_59 (by decide) (fun _ => ?_) (fun c => absurd (by decide) c)
            refine lv_iinc (v := (v2 + 1)) (lv' := [(2, .int (v2 + 1)), (3, .int (0 : Int32)), (0, .ref a0), (1, .int p1)]) hx hb dX6_fall_70 hl (k := 3) rfl rfl (by decide) rfl (fun ls hl => ?_)
            refine lv_goto (tgt := 2) hx hb dX6_fall_73 (by decide) ?_
            exact ih sa (v2 + 1) _ _ _ h hP hD hS (lv_sub hl [2, 3, 0] rfl)
        · have h := o_t h hc
          refine lv_aload_n hx hb dX6_fall_22 rfl (lv_at hl 0 rfl) ?_
          refine lv_iload_n hx hb dX6_fall_23 rfl (lv_at hl 2 rfl) ?_
          refine lv_bipush (v := 6) hx hb dX6_fall_24 (by decide) ?_
          obtain ⟨x4, ex4, h⟩ := o_b h
          refine call_iV (As := [.int v2, .int (6 : Int32)]) (rest := []) (ws2 := [(a0, .inr (9, [.int th, .ref a1, .ref a2, .ref a3, .int sm, .ref a4, .int ln, .int nx, .int cd, .int dg, .int pw, .long hs])), (a1, .inl (cI, 378, .inl sa)), (a2, .inl (cI, 378, .inl asd)), (a3, .inl (cI, 1512, .inl sv)), (a4, .inl (cI, 120, .inl mt))]) ⟨hx, hb, hml, hown, hts⟩ (cX6_ofEffect_ok l G cI cG a0 a1 a2 a3 a4 th sa asd sv sm mt ln nx cd dg pw hs v2 (6 : Int32) x4 ex4) (cwV 2 hts gX6_fall_X6_ofEffect rfl rfl rfl hdX6_ofEffect ⟨Nat.le_of_ble_eq_true rfl, Nat.le_of_ble_eq_true rfl⟩) hP hD hS hA hK 9 rfl rfl rfl [0, 1, 2, 3, 4] rfl rfl rfl rfl rfl rfl rfl rfl hl.1 (Nat.le_of_ble_eq_true rfl) dX6_fall_26 ⟨Nat.zero_le _, Nat.zero_le _⟩ (fun H locs hP hD hS => ?_)
          refine lv_iconst (v := 1) hx hb dX6_fall_29 (by decide) ?_
          refine lv_icmp_eq (tgt := 42) hx hb dX6_fall_30 (by decide) (fun hc => ?_) (fun hc => ?_)
          · have h := o_t h hc
            refine lv_iconst (v := 1) hx hb dX6_fall_42 (by decide) ?_
            refine lv_goto (tgt := 47) hx hb dX6_fall_43 (by decide) ?_
            refine lv_istore_n (lv' := [(3, .int (1 : Int32)), (0, .ref a0), (1, .int p1), (2, .int v2)]) hx hb dX6_fall_47 rfl hl (by decide) rfl (fun ls hl => ?_)
            refine lv_aload_n hx hb dX6_fall_48 rfl (lv_at hl 1 rfl) ?_
            refine lv_iload_n hx hb dX6_fall_49 rfl (lv_at hl 3 rfl) ?_
            refine lv_iconst (v := 3) hx hb dX6_fall_50 (by decide) ?_
            obtain ⟨x5, ex5, h⟩ := o_b h
            refine call_iV (As := [.int v2, .int (3 : Int32)]) (rest := []) (ws2 := [(a0, .inr (9, [.int th, .ref a1, .ref a2, .ref a3, .int sm, .ref a4, .int ln, .int nx, .int cd, .int dg, .int pw, .long hs])), (a1, .inl (cI, 378, .inl sa)), (a2, .inl (cI, 378, .inl asd)), (a3, .inl (cI, 1512, .inl sv)), (a4, .inl (cI, 120, .inl mt))]) ⟨hx, hb, hml, hown, hts⟩ (cX6_ofEffect_ok l G cI cG a0 a1 a2 a3 a4 th sa asd sv sm mt ln nx cd dg pw hs v2 (3 : Int32) x5 ex5) (cwV 2 hts gX6_fall_X6_ofEffect rfl rfl rfl hdX6_ofEffect ⟨Nat.le_of_ble_eq_true rfl, Nat.le_of_ble_eq_true rfl⟩) hP hD hS hA hK 9 rfl rfl rfl [0, 1, 2, 3, 4] rfl rfl rfl rfl rfl rfl rfl rfl hl.1 (Nat.le_of_ble_eq_true rfl) dX6_fall_51 ⟨Nat.zero_le _, Nat.zero_le _⟩ (fun H locs hP hD hS => ?_)
            refine lv_iload_n hx hb dX6_fall_54 rfl (lv_at hl 2 rfl) ?_
            refine lv_icmp_eq (tgt := 62) hx hb dX6_fall_55 (by decide) (fun hc => ?_) (fun hc => ?_)
            · have h := o_t h hc
              refine lv_aload_n hx hb dX6_fall_62 rfl (lv_at hl 1 rfl) ?_
              refine lv_iload_n hx hb dX6_fall_63 rfl (lv_at hl 3 rfl) ?_
              obtain ⟨x6, ex6, h⟩ := o_b h
              refine call_vV (As := [.int v2]) (rest := []) (ws2 := [(a0, .inr (9, [.int th, .ref a1, .ref a2, .ref a3, .int sm, .ref a4, .int ln, .int nx, .int cd, .int dg, .int pw, .long hs])), (a1, .inl (cI, 378, .inl x6)), (a2, .inl (cI, 378, .inl asd)), (a3, .inl (cI, 1512, .inl sv)), (a4, .inl (cI, 120, .inl mt))]) ⟨hx, hb, hml, hown, hts⟩ (cX6_endEffect_ok l G cI cG a0 a1 a2 a3 a4 fu th sa asd sv sm mt ln nx cd dg pw hs v2 x6 ex6) (cwV 1 hts gX6_fall_X6_endEffect rfl rfl rfl hdX6_endEffect ⟨Nat.le_of_ble_eq_true rfl, Nat.le_of_ble_eq_true rfl⟩) hP hD hS hA hK 9 rfl rfl rfl [0, 1, 2, 3, 4] rfl rfl rfl rfl rfl rfl rfl rfl hl.1 (Nat.le_of_ble_eq_true rfl) dX6_fall_64 ⟨Nat.zero_le _, Nat.zero_le _⟩ (fun H locs hP hD hS => ?_)
              refine lv_goto (tgt := 73) hx hb dX6_fall_67 (by decide) ?_
              refine lv_goto (tgt := 2) hx hb dX6_fall_73 (by decide) ?_
              exact ih x6 v2 _ _ _ h hP hD hS (lv_sub hl [1, 2, 3] rfl)
            · have h := o_f h hc
              refine lv_iload_n hx hb dX6_fall_58 rfl (lv_at hl 0 rfl) ?_
              refine lv_if_eq (tgt := 70) hx hb dX6_fall_59 (by decide) (fun c => absurd c (by decide)) (fun _ => ?_)
              refine lv_aload_n hx hb dX6_fall_62 rfl (lv_at hl 1 rfl) ?_
              refine lv_iload_n hx hb dX6_fall_63 rfl (lv_at hl 3 rfl) ?_
              obtain ⟨x7, ex7, h⟩ := o_b h
              refine call_vV (As := [.int v2]) (rest := []) (ws2 := [(a0, .inr (9, [.int th, .ref a1, .ref a2, .ref a3, .int sm, .ref a4, .int ln, .int nx, .int cd, .int dg, .int pw, .long hs])), (a1, .inl (cI, 378, .inl x7)), (a2, .inl (cI, 378, .inl asd)), (a3, .inl (cI, 1512, .inl sv)), (a4, .inl (cI, 120, .inl mt))]) ⟨hx, hb, hml, hown, hts⟩ (cX6_endEffect_ok l G cI cG a0 a1 a2 a3 a4 fu th sa asd sv sm mt ln nx cd dg pw hs v2 x7 ex7) (cwV 1 hts gX6_fall_X6_endEffect rfl rfl rfl hdX6_endEffect ⟨Nat.le_of_ble_eq_true rfl, Nat.le_of_ble_eq_true rfl⟩) hP hD hS hA hK 9 rfl rfl rfl [0, 1, 2, 3, 4] rfl rfl rfl rfl rfl rfl rfl rfl hl.1 (Nat.le_of_ble_eq_true rfl) dX6_fall_64 ⟨Nat.zero_le _, Nat.zero_le _⟩ (fun H locs hP hD hS => ?_)
              refine lv_goto (tgt := 73) hx hb dX6_fall_67 (by decide) ?_
              refine lv_goto (tgt := 2) hx hb dX6_fall_73 (by decide) ?_
              exact ih x7 v2 _ _ _ h hP hD hS (lv_sub hl [1, 2, 3] rfl)
          · have h := o_f h hc
            refine lv_aload_n hx hb dX6_fall_33 rfl (lv_at hl 0 rfl) ?_
            refine lv_iload_n hx hb dX6_fall_34 rfl (lv_at hl 2 rfl) ?_
            refine lv_iconst (v := 5) hx hb dX6_fall_35 (by decide) ?_
            obtain ⟨x8, ex8, h⟩ := o_b h
            refine call_iV (As := [.int v2, .int (5 : Int32)]) (rest := []) (ws2 := [(a0, .inr (9, [.int th, .ref a1, .ref a2, .ref a3, .int sm, .ref a4, .int ln, .int nx, .int cd, .int dg, .int pw, .long hs])), (a1, .inl (cI, 378, .inl sa)), (a2, .inl (cI, 378, .inl asd)), (a3, .inl (cI, 1512, .inl sv)), (a4, .inl (cI, 120, .inl mt))]) ⟨hx, hb, hml, hown, hts⟩ (cX6_ofEffect_ok l G cI cG a0 a1 a2 a3 a4 th sa asd sv sm mt ln nx cd dg pw hs v2 (5 : Int32) x8 ex8) (cwV 2 hts gX6_fall_X6_ofEffect rfl rfl rfl hdX6_ofEffect ⟨Nat.le_of_ble_eq_true rfl, Nat.le_of_ble_eq_true rfl⟩) hP hD hS hA hK 9 rfl rfl rfl [0, 1, 2, 3, 4] rfl rfl rfl rfl rfl rfl rfl rfl hl.1 (Nat.le_of_ble_eq_true rfl) dX6_fall_36 ⟨Nat.zero_le _, Nat.zero_le _⟩ (fun H locs hP hD hS => ?_)
            refine lv_if_ne (tgt := 46) hx hb dX6_fall_39 (by decide) (fun hc => ?_) (fun hc => ?_)
            · have h := o_f h hc
              refine lv_iconst (v := 0) hx hb dX6_fall_46 (by decide) ?_
              refine lv_istore_n (lv' := [(3, .int (0 : Int32)), (0, .ref a0), (1, .int p1), (2, .int v2)]) hx hb dX6_fall_47 rfl hl (by decide) rfl (fun ls hl => ?_)
              refine lv_aload_n hx hb dX6_fall_48 rfl (lv_at hl 1 rfl) ?_
              refine lv_iload_n hx hb dX6_fall_49 rfl (lv_at hl 3 rfl) ?_
              refine lv_iconst (v := 3) hx hb dX6_fall_50 (by decide) ?_
              obtain ⟨x9, ex9, h⟩ := o_b h
              refine call_iV (As := [.int v2, .int (3 : Int32)]) (rest := []) (ws2 := [(a0, .inr (9, [.int th, .ref a1, .ref a2, .ref a3, .int sm, .ref a4, .int ln, .int nx, .int cd, .int dg, .int pw, .long hs])), (a1, .inl (cI, 378, .inl sa)), (a2, .inl (cI, 378, .inl asd)), (a3, .inl (cI, 1512, .inl sv)), (a4, .inl (cI, 120, .inl mt))]) ⟨hx, hb, hml, hown, hts⟩ (cX6_ofEffect_ok l G cI cG a0 a1 a2 a3 a4 th sa asd sv sm mt ln nx cd dg pw hs v2 (3 : Int32) x9 ex9) (cwV 2 hts gX6_fall_X6_ofEffect rfl rfl rfl hdX6_ofEffect ⟨Nat.le_of_ble_eq_true rfl, Nat.le_of_ble_eq_true rfl⟩) hP hD hS hA hK 9 rfl rfl rfl [0, 1, 2, 3, 4] rfl rfl rfl rfl rfl rfl rfl rfl hl.1 (Nat.le_of_ble_eq_true rfl) dX6_fall_51 ⟨Nat.zero_le _, Nat.zero_le _⟩ (fun H locs hP hD hS => ?_)
              refine lv_iload_n hx hb dX6_fall_54 rfl (lv_at hl 2 rfl) ?_
              refine lv_icmp_eq (tgt := 62) hx hb dX6_fall_55 (by decide) (fun hc => ?_) (fun hc => ?_)
              · have h := o_t h hc
                refine lv_aload_n hx hb dX6_fall_62 rfl (lv_at hl 1 rfl) ?_
                refine lv_iload_n hx hb dX6_fall_63 rfl (lv_at hl 3 rfl) ?_
                obtain ⟨x10, ex10, h⟩ := o_b h
                refine call_vV (As := [.int v2]) (rest := []) (ws2 := [(a0, .inr (9, [.int th, .ref a1, .ref a2, .ref a3, .int sm, .ref a4, .int ln, .int nx, .int cd, .int dg, .int pw, .long hs])), (a1, .inl (cI, 378, .inl x10)), (a2, .inl (cI, 378, .inl asd)), (a3, .inl (cI, 1512, .inl sv)), (a4, .inl (cI, 120, .inl mt))]) ⟨hx, hb, hml, hown, hts⟩ (cX6_endEffect_ok l G cI cG a0 a1 a2 a3 a4 fu th sa asd sv sm mt ln nx cd dg pw hs v2 x10 ex10) (cwV 1 hts gX6_fall_X6_endEffect rfl rfl rfl hdX6_endEffect ⟨Nat.le_of_ble_eq_true rfl, Nat.le_of_ble_eq_true rfl⟩) hP hD hS hA hK 9 rfl rfl rfl [0, 1, 2, 3, 4] rfl rfl rfl rfl rfl rfl rfl rfl hl.1 (Nat.le_of_ble_eq_true rfl) dX6_fall_64 ⟨Nat.zero_le _, Nat.zero_le _⟩ (fun H locs hP hD hS => ?_)
                refine lv_goto (tgt := 73) hx hb dX6_fall_67 (by decide) ?_
                refine lv_goto (tgt := 2) hx hb dX6_fall_73 (by decide) ?_
                exact ih x10 v2 _ _ _ h hP hD hS (lv_sub hl [1, 2, 3] rfl)
              · have h := o_f h hc
                refine lv_iload_n hx hb dX6_fall_58 rfl (lv_at hl 0 rfl) ?_
                refine lv_if_eq (tgt := 70) hx hb dX6_fall_59 (by decide) (fun _ => ?_) (fun c => absurd (by decide) c)
                refine lv_iinc (v := (v2 + 1)) (lv' := [(2, .int (v2 + 1)), (3, .int (0 : Int32)), (0, .ref a0), (1, .int p1)]) hx hb dX6_fall_70 hl (k := 3) rfl rfl (by decide) rfl (fun ls hl => ?_)
                refine lv_goto (tgt := 2) hx hb dX6_fall_73 (by decide) ?_
                exact ih sa (v2 + 1) _ _ _ h hP hD hS (lv_sub hl [2, 3, 0] rfl)
            · have h := o_t h hc
              refine lv_iconst (v := 1) hx hb dX6_fall_42 (by decide) ?_
              refine lv_goto (tgt := 47) hx hb dX6_fall_43 (by decide) ?_
              refine lv_istore_n (lv' := [(3, .int (1 : Int32)), (0, .ref a0), (1, .int p1), (2, .int v2)]) hx hb dX6_fall_47 rfl hl (by decide) rfl (fun ls hl => ?_)
              refine lv_aload_n hx hb dX6_fall_48 rfl (lv_at hl 1 rfl) ?_
              refine lv_iload_n hx hb dX6_fall_49 rfl (lv_at hl 3 rfl) ?_
              refine lv_iconst (v := 3) hx hb dX6_fall_50 (by decide) ?_
              obtain ⟨x11, ex11, h⟩ := o_b h
              refine call_iV (As := [.int v2, .int (3 : Int32)]) (rest := []) (ws2 := [(a0, .inr (9, [.int th, .ref a1, .ref a2, .ref a3, .int sm, .ref a4, .int ln, .int nx, .int cd, .int dg, .int pw, .long hs])), (a1, .inl (cI, 378, .inl sa)), (a2, .inl (cI, 378, .inl asd)), (a3, .inl (cI, 1512, .inl sv)), (a4, .inl (cI, 120, .inl mt))]) ⟨hx, hb, hml, hown, hts⟩ (cX6_ofEffect_ok l G cI cG a0 a1 a2 a3 a4 th sa asd sv sm mt ln nx cd dg pw hs v2 (3 : Int32) x11 ex11) (cwV 2 hts gX6_fall_X6_ofEffect rfl rfl rfl hdX6_ofEffect ⟨Nat.le_of_ble_eq_true rfl, Nat.le_of_ble_eq_true rfl⟩) hP hD hS hA hK 9 rfl rfl rfl [0, 1, 2, 3, 4] rfl rfl rfl rfl rfl rfl rfl rfl hl.1 (Nat.le_of_ble_eq_true rfl) dX6_fall_51 ⟨Nat.zero_le _, Nat.zero_le _⟩ (fun H locs hP hD hS => ?_)
              refine lv_iload_n hx hb dX6_fall_54 rfl (lv_at hl 2 rfl) ?_
              refine lv_icmp_eq (tgt := 62) hx hb dX6_fall_55 (by decide) (fun hc => ?_) (fun hc => ?_)
              · have h := o_t h hc
                refine lv_aload_n hx hb dX6_fall_62 rfl (lv_at hl 1 rfl) ?_
                refine lv_iload_n hx hb dX6_fall_63 rfl (lv_at hl 3 rfl) ?_
                obtain ⟨x12, ex12, h⟩ := o_b h
                refine call_vV (As := [.int v2]) (rest := []) (ws2 := [(a0, .inr (9, [.int th, .ref a1, .ref a2, .ref a3, .int sm, .ref a4, .int ln, .int nx, .int cd, .int dg, .int pw, .long hs])), (a1, .inl (cI, 378, .inl x12)), (a2, .inl (cI, 378, .inl asd)), (a3, .inl (cI, 1512, .inl sv)), (a4, .inl (cI, 120, .inl mt))]) ⟨hx, hb, hml, hown, hts⟩ (cX6_endEffect_ok l G cI cG a0 a1 a2 a3 a4 fu th sa asd sv sm mt ln nx cd dg pw hs v2 x12 ex12) (cwV 1 hts gX6_fall_X6_endEffect rfl rfl rfl hdX6_endEffect ⟨Nat.le_of_ble_eq_true rfl, Nat.le_of_ble_eq_true rfl⟩) hP hD hS hA hK 9 rfl rfl rfl [0, 1, 2, 3, 4] rfl rfl rfl rfl rfl rfl rfl rfl hl.1 (Nat.le_of_ble_eq_true rfl) dX6_fall_64 ⟨Nat.zero_le _, Nat.zero_le _⟩ (fun H locs hP hD hS => ?_)
                refine lv_goto (tgt := 73) hx hb dX6_fall_67 (by decide) ?_
                refine lv_goto (tgt := 2) hx hb dX6_fall_73 (by decide) ?_
                exact ih x12 v2 _ _ _ h hP hD hS (lv_sub hl [1, 2, 3] rfl)
              · have h := o_f h hc
                refine lv_iload_n hx hb dX6_fall_58 rfl (lv_at hl 0 rfl) ?_
                refine lv_if_eq (tgt := 70) hx hb dX6_fall_59 (by decide) (fun c => absurd c (by decide)) (fun _ => ?_)
                refine lv_aload_n hx hb dX6_fall_62 rfl (lv_at hl 1 rfl) ?_
                refine lv_iload_n hx hb dX6_fall_63 rfl (lv_at hl 3 rfl) ?_
                obtain ⟨x13, ex13, h⟩ := o_b h
                refine call_vV (As := [.int v2]) (rest := []) (ws2 := [(a0, .inr (9, [.int th, .ref a1, .ref a2, .ref a3, .int sm, .ref a4, .int ln, .int nx, .int cd, .int dg, .int pw, .long hs])), (a1, .inl (cI, 378, .inl x13)), (a2, .inl (cI, 378, .inl asd)), (a3, .inl (cI, 1512, .inl sv)), (a4, .inl (cI, 120, .inl mt))]) ⟨hx, hb, hml, hown, hts⟩ (cX6_endEffect_ok l G cI cG a0 a1 a2 a3 a4 fu th sa asd sv sm mt ln nx cd dg pw hs v2 x13 ex13) (cwV 1 hts gX6_fall_X6_endEffect rfl rfl rfl hdX6_endEffect ⟨Nat.le_of_ble_eq_true rfl, Nat.le_of_ble_eq_true rfl⟩) hP hD hS hA hK 9 rfl rfl rfl [0, 1, 2, 3, 4] rfl rfl rfl rfl rfl rfl rfl rfl hl.1 (Nat.le_of_ble_eq_true rfl) dX6_fall_64 ⟨Nat.zero_le _, Nat.zero_le _⟩ (fun H locs hP hD hS => ?_)
                refine lv_goto (tgt := 73) hx hb dX6_fall_67 (by decide) ?_
                refine lv_goto (tgt := 2) hx hb dX6_fall_73 (by decide) ?_
                exact ih x13 v2 _ _ _ h hP hD hS (lv_sub hl [1, 2, 3] rfl)
  have h := hf
  rw [fX6_fall] at h
  have hl := lv_entry ([.ref a0, .int p1]) (n := 4) (Nat.le_of_ble_eq_true rfl)
  rw [lg_entry_eq]
  generalize (lg_sl ([.ref a0, .int p1]) ++ List.replicate (4 - (lg_sl ([.ref a0, .int p1])).length) Slot.unset).toArray = ls at hl ⊢
  have hl : lv_has ls 4 [(0, .ref a0), (1, .int p1)] := hl
  refine lv_iconst (v := 0) hx hb dX6_fall_0 (by decide) ?_
  refine lv_istore_n (lv' := [(2, .int (0 : Int32)), (0, .ref a0), (1, .int p1)]) hx hb dX6_fall_1 rfl hl (by decide) rfl (fun ls hl => ?_)
  exact L2 fu sa (0 : Int32) _ _ _ h hP hD hS (lv_sub hl [1, 2, 0] rfl)
theorem hdX6_harm : yX6_harm.cls = RX6 ∧ yX6_harm.cls ≠ "java/lang/invoke/MethodHandle" ∧ yX6_harm.cls ≠ "java/lang/invoke/VarHandle" ∧ (parseMethodDescriptor yX6_harm.desc).map (fun d => d.parameters.length) = some 3 := by decide +kernel
set_option maxHeartbeats 4000000 in
set_option maxRecDepth 100000 in
theorem cX6_harm_ok (l : Launch) (G : va_G) (cI cG : ClassId) (a0 a1 a2 a3 a4 : Nat) (fu : Nat) (th : Int32) (sa : (Nat → Int32)) (asd : (Nat → Int32)) (sv : (Nat → Int32)) (sm : Int32) (mt : (Nat → Int32)) (ln : Int32) (nx : Int32) (cd : Int32) (dg : Int32) (pw : Int32) (hs : Int64) (p1 : Int32) (p2 : Int32) (p3 : Bool) (out : (Nat → Int32)) (hf : fX6_harm fu sa p1 p2 p3 = some out) : CV l G (tyz cI cG) yX6_harm wsX6_harm ({ frames := 3, cells := 0, slots := 0, locals := 66 } : Room) [.ref a0, .int p1, .int p2, .int (bI p3)] [(a0, .inr (9, [.int th, .ref a1, .ref a2, .ref a3, .int sm, .ref a4, .int ln, .int nx, .int cd, .int dg, .int pw, .long hs])), (a1, .inl (cI, 378, .inl sa)), (a2, .inl (cI, 378, .inl asd)), (a3, .inl (cI, 1512, .inl sv)), (a4, .inl (cI, 120, .inl mt))] [(a0, .inr (9, [.int th, .ref a1, .ref a2, .ref a3, .int sm, .ref a4, .int ln, .int nx, .int cd, .int dg, .int pw, .long hs])), (a1, .inl (cI, 378, .inl out)), (a2, .inl (cI, 378, .inl asd)), (a3, .inl (cI, 1512, .inl sv)), (a4, .inl (cI, 120, .inl mt))] := by
  intro sz
  refine Met.ofW (cc := cX6_harm) (maxL := 6) (ret := none) (by decide) rfl ?_
  intro p e s m args below meth c s₁ B hml hv
  obtain ⟨rfl, hsz, hP, hK, hD0⟩ := hv
  have hx := B.exec
  have hb := B.bytes
  have hr := B.returns
  have hts := atoms_spec (ws := wsX6_harm) B.pre
  have hown : s.vm.findClass RX6 = some m.cls := findClass_of_methodNamed B.named
  have hlocks := B.notSynchronized
  subst hsz
  have hD := hD0.self (sz := s.heap.size)
  generalize hAe : va_A [(a0, .inr (9, [.int th, .ref a1, .ref a2, .ref a3, .int sm, .ref a4, .int ln, .int nx, .int cd, .int dg, .int pw, .long hs])), (a1, .inl (cI, 378, .inl sa)), (a2, .inl (cI, 378, .inl asd)), (a3, .inl (cI, 1512, .inl sv)), (a4, .inl (cI, 120, .inl mt))] s.heap.size = A at hD ⊢
  have hA : ∀ q : Nat, s.heap.size ≤ q → A q := fun q h => by rw [← hAe]; exact Or.inr h
  have hS : va_S A s.heap s.heap [] := va_S.rf
  have hw0 := hts (.fieldLink RX6 7 "SpeedTurnsModel" "s" "[I") (List.mem_of_getElem? (i := 1) rfl)
  have hin6 : ∀ w ∈ u_ws RX6 TX6 12, w ∈ wsX6_harm := by decide +kernel
  show W p l e ({ frames := 3, cells := 0, slots := 0, locals := 66 } : Room) s m _ below meth c s.heap [] 0 0 _ _
  refine W_genQ (fun Q hQ => ?_)
  have J53 : ∀ (sa : (Nat → Int32)) (t0 : Int32) (H : Heap) (locs : List Loc) (ls : Array Slot), fX6_harm_J53 fu p1 sa t0 = some out → va_P G vwCl [(a0, .inr (9, [.int th, .ref a1, .ref a2, .ref a3, .int sm, .ref a4, .int ln, .int nx, .int cd, .int dg, .int pw, .long hs])), (a1, .inl (cI, 378, .inl sa)), (a2, .inl (cI, 378, .inl asd)), (a3, .inl (cI, 1512, .inl sv)), (a4, .inl (cI, 120, .inl mt))] H → va_D A [(a0, .inr (9, [.int th, .ref a1, .ref a2, .ref a3, .int sm, .ref a4, .int ln, .int nx, .int cd, .int dg, .int pw, .long hs])), (a1, .inl (cI, 378, .inl sa)), (a2, .inl (cI, 378, .inl asd)), (a3, .inl (cI, 1512, .inl sv)), (a4, .inl (cI, 120, .inl mt))] → va_S A s.heap H locs → lv_has ls 6 [(0, .ref a0), (1, .int p1)] → W p l e ({ frames := 3, cells := 0, slots := 0, locals := 66 } : Room) s m ([.ref a0, .int p1, .int p2, .int (bI p3)] : List Value).toArray below meth c H locs 0 0 Q (F0 m 53 ls [.int t0]) := by
    intro sa t0 H locs ls h hP hD hS hl
    rw [fX6_harm_J53] at h
    refine lv_istore (lv' := [(5, .int t0), (0, .ref a0), (1, .int p1)]) hx hb dX6_harm_53 hl (by decide) rfl (fun ls hl => ?_)
    refine lv_aload_n hx hb dX6_harm_55 rfl (lv_at hl 1 rfl) ?_
    refine lv_iload_n hx hb dX6_harm_56 rfl (lv_at hl 2 rfl) ?_
    refine lv_iconst (v := 2) hx hb dX6_harm_57 (by decide) ?_
    refine lv_aload_n hx hb dX6_harm_58 rfl (lv_at hl 1 rfl) ?_
    refine lv_iload_n hx hb dX6_harm_59 rfl (lv_at hl 2 rfl) ?_
    refine lv_iconst (v := 2) hx hb dX6_harm_60 (by decide) ?_
    obtain ⟨x4, ex4, h⟩ := o_b h
    refine call_iV (As := [.int p1, .int (2 : Int32)]) (rest := [.int (2 : Int32), .int p1, .ref a0]) (ws2 := [(a0, .inr (9, [.int th, .ref a1, .ref a2, .ref a3, .int sm, .ref a4, .int ln, .int nx, .int cd, .int dg, .int pw, .long hs])), (a1, .inl (cI, 378, .inl sa)), (a2, .inl (cI, 378, .inl asd)), (a3, .inl (cI, 1512, .inl sv)), (a4, .inl (cI, 120, .inl mt))]) ⟨hx, hb, hml, hown, hts⟩ (cX6_of_ok l G cI cG a0 a1 a2 a3 a4 th sa asd sv sm mt ln nx cd dg pw hs p1 (2 : Int32) x4 ex4) (cwV 2 hts gX6_harm_X6_of rfl rfl rfl hdX6_of ⟨Nat.le_of_ble_eq_true rfl, Nat.le_of_ble_eq_true rfl⟩) hP hD hS hA hK 9 rfl rfl rfl [0, 1, 2, 3, 4] rfl rfl rfl rfl rfl rfl rfl rfl hl.1 (Nat.le_of_ble_eq_true rfl) dX6_harm_61 ⟨Nat.zero_le _, Nat.zero_le _⟩ (fun H locs hP hD hS => ?_)
    refine lv_iload hx hb dX6_harm_64 (lv_at hl 0 rfl) ?_
    refine lv_isub hx hb dX6_harm_66 ?_
    obtain ⟨x5, ex5, h⟩ := o_b h
    refine call_vV (As := [.int p1, .int (2 : Int32), .int (x4 - t0)]) (rest := []) (ws2 := [(a0, .inr (9, [.int th, .ref a1, .ref a2, .ref a3, .int sm, .ref a4, .int ln, .int nx, .int cd, .int dg, .int pw, .long hs])), (a1, .inl (cI, 378, .inl x5)), (a2, .inl (cI, 378, .inl asd)), (a3, .inl (cI, 1512, .inl sv)), (a4, .inl (cI, 120, .inl mt))]) ⟨hx, hb, hml, hown, hts⟩ (cX6_set_ok l G cI cG a0 a1 a2 a3 a4 th sa asd sv sm mt ln nx cd dg pw hs p1 (2 : Int32) (x4 - t0) x5 ex5) (cwV 3 hts gX6_harm_X6_set rfl rfl rfl hdX6_set ⟨Nat.le_of_ble_eq_true rfl, Nat.le_of_ble_eq_true rfl⟩) hP hD hS hA hK 9 rfl rfl rfl [0, 1, 2, 3, 4] rfl rfl rfl rfl rfl rfl rfl rfl hl.1 (Nat.le_of_ble_eq_true rfl) dX6_harm_67 ⟨Nat.zero_le _, Nat.zero_le _⟩ (fun H locs hP hD hS => ?_)
    refine lv_aload_n hx hb dX6_harm_70 rfl (lv_at hl 1 rfl) ?_
    refine lv_iload_n hx hb dX6_harm_71 rfl (lv_at hl 2 rfl) ?_
    obtain ⟨x6, ex6, h⟩ := o_b h
    refine call_iV (As := [.int p1]) (rest := []) (ws2 := [(a0, .inr (9, [.int th, .ref a1, .ref a2, .ref a3, .int sm, .ref a4, .int ln, .int nx, .int cd, .int dg, .int pw, .long hs])), (a1, .inl (cI, 378, .inl x5)), (a2, .inl (cI, 378, .inl asd)), (a3, .inl (cI, 1512, .inl sv)), (a4, .inl (cI, 120, .inl mt))]) ⟨hx, hb, hml, hown, hts⟩ (cX6_stands_ok l G cI cG a0 a1 a2 a3 a4 th x5 asd sv sm mt ln nx cd dg pw hs p1 x6 ex6) (cwV 1 hts gX6_harm_X6_stands rfl rfl rfl hdX6_stands ⟨Nat.le_of_ble_eq_true rfl, Nat.le_of_ble_eq_true rfl⟩) hP hD hS hA hK 9 rfl rfl rfl [0, 1, 2, 3, 4] rfl rfl rfl rfl rfl rfl rfl rfl hl.1 (Nat.le_of_ble_eq_true rfl) dX6_harm_72 ⟨Nat.zero_le _, Nat.zero_le _⟩ (fun H locs hP hD hS => ?_)
    refine lv_if_ne (tgt := 86) hx hb dX6_harm_75 (by decide) (fun hc => ?_) (fun hc => ?_)
    · have h := o_f h hc
      refine lv_iload hx hb dX6_harm_86 (lv_at hl 0 rfl) ?_
      refine lv_aload_n hx hb dX6_harm_88 rfl (lv_at hl 1 rfl) ?_
      refine va_get (D := G) (ci := 9) (v := .ref a1) (C := RX6) (T := TX6) (N := 12) hx hb hts hin6 hown hK.1 hP 0 rfl rfl 1 (by decide) hw0 (fun _ h9 => h9) rfl dX6_harm_89 ?_
      refine lv_iconst (v := 2) hx hb dX6_harm_92 (by decide) ?_
      obtain ⟨hin, h⟩ := o_g h
      refine va_iald hx hb hK.1 hP 1 0 rfl rfl hin dX6_harm_93 ?_
      refine lv_icmp_lt (tgt := 102) hx hb dX6_harm_94 (by decide) (fun hc => ?_) (fun hc => ?_)
      · have h := o_t h hc
        obtain rfl := o_s h
        rw [hQ]
        exact end_v hx hb hr hP hD hS dX6_harm_102 hlocks
      · have h := o_f h hc
        refine lv_aload_n hx hb dX6_harm_97 rfl (lv_at hl 1 rfl) ?_
        refine lv_iload_n hx hb dX6_harm_98 rfl (lv_at hl 2 rfl) ?_
        obtain ⟨x7, ex7, h⟩ := o_b h
        refine call_vV (As := [.int p1]) (rest := []) (ws2 := [(a0, .inr (9, [.int th, .ref a1, .ref a2, .ref a3, .int sm, .ref a4, .int ln, .int nx, .int cd, .int dg, .int pw, .long hs])), (a1, .inl (cI, 378, .inl x7)), (a2, .inl (cI, 378, .inl asd)), (a3, .inl (cI, 1512, .inl sv)), (a4, .inl (cI, 120, .inl mt))]) ⟨hx, hb, hml, hown, hts⟩ (cX6_stopHolding_ok l G cI cG a0 a1 a2 a3 a4 fu th x5 asd sv sm mt ln nx cd dg pw hs p1 x7 ex7) (cwV 1 hts gX6_harm_X6_stopHolding rfl rfl rfl hdX6_stopHolding ⟨Nat.le_of_ble_eq_true rfl, Nat.le_of_ble_eq_true rfl⟩) hP hD hS hA hK 9 rfl rfl rfl [0, 1, 2, 3, 4] rfl rfl rfl rfl rfl rfl rfl rfl hl.1 (Nat.le_of_ble_eq_true rfl) dX6_harm_99 ⟨Nat.zero_le _, Nat.zero_le _⟩ (fun H locs hP hD hS => ?_)
        obtain rfl := o_s h
        rw [hQ]
        exact end_v hx hb hr hP hD hS dX6_harm_102 hlocks
    · have h := o_t h hc
      refine lv_aload_n hx hb dX6_harm_78 rfl (lv_at hl 1 rfl) ?_
      refine lv_iload_n hx hb dX6_harm_79 rfl (lv_at hl 2 rfl) ?_
      obtain ⟨x8, ex8, h⟩ := o_b h
      refine call_vV (As := [.int p1]) (rest := []) (ws2 := [(a0, .inr (9, [.int th, .ref a1, .ref a2, .ref a3, .int sm, .ref a4, .int ln, .int nx, .int cd, .int dg, .int pw, .long hs])), (a1, .inl (cI, 378, .inl x8)), (a2, .inl (cI, 378, .inl asd)), (a3, .inl (cI, 1512, .inl sv)), (a4, .inl (cI, 120, .inl mt))]) ⟨hx, hb, hml, hown, hts⟩ (cX6_fall_ok l G cI cG a0 a1 a2 a3 a4 fu th x5 asd sv sm mt ln nx cd dg pw hs p1 x8 ex8) (cwV 1 hts gX6_harm_X6_fall rfl rfl rfl hdX6_fall ⟨Nat.le_of_ble_eq_true rfl, Nat.le_of_ble_eq_true rfl⟩) hP hD hS hA hK 9 rfl rfl rfl [0, 1, 2, 3, 4] rfl rfl rfl rfl rfl rfl rfl rfl hl.1 (Nat.le_of_ble_eq_true rfl) dX6_harm_80 ⟨Nat.zero_le _, Nat.zero_le _⟩ (fun H locs hP hD hS => ?_)
      refine lv_goto (tgt := 102) hx hb dX6_harm_83 (by decide) ?_
      obtain rfl := o_s h
      rw [hQ]
      exact end_v hx hb hr hP hD hS dX6_harm_102 hlocks
  have J29 : ∀ (sa : (Nat → Int32)) (t0 : Int32) (H : Heap) (locs : List Loc) (ls : Array Slot), fX6_harm_J29 fu p1 sa t0 = some out → va_P G vwCl [(a0, .inr (9, [.int th, .ref a1, .ref a2, .ref a3, .int sm, .ref a4, .int ln, .int nx, .int cd, .int dg, .int pw, .long hs])), (a1, .inl (cI, 378, .inl sa)), (a2, .inl (cI, 378, .inl asd)), (a3, .inl (cI, 1512, .inl sv)), (a4, .inl (cI, 120, .inl mt))] H → va_D A [(a0, .inr (9, [.int th, .ref a1, .ref a2, .ref a3, .int sm, .ref a4, .int ln, .int nx, .int cd, .int dg, .int pw, .long hs])), (a1, .inl (cI, 378, .inl sa)), (a2, .inl (cI, 378, .inl asd)), (a3, .inl (cI, 1512, .inl sv)), (a4, .inl (cI, 120, .inl mt))] → va_S A s.heap H locs → lv_has ls 6 [(0, .ref a0), (1, .int p1)] → W p l e ({ frames := 3, cells := 0, slots := 0, locals := 66 } : Room) s m ([.ref a0, .int p1, .int p2, .int (bI p3)] : List Value).toArray below meth c H locs 0 0 Q (F0 m 29 ls [.int t0]) := by
    intro sa t0 H locs ls h hP hD hS hl
    rw [fX6_harm_J29] at h
    refine lv_istore (lv' := [(4, .int t0), (0, .ref a0), (1, .int p1)]) hx hb dX6_harm_29 hl (by decide) rfl (fun ls hl => ?_)
    refine lv_iload hx hb dX6_harm_31 (lv_at hl 0 rfl) ?_
    refine lv_aload_n hx hb dX6_harm_33 rfl (lv_at hl 1 rfl) ?_
    refine lv_iload_n hx hb dX6_harm_34 rfl (lv_at hl 2 rfl) ?_
    refine lv_iconst (v := 2) hx hb dX6_harm_35 (by decide) ?_
    obtain ⟨x2, ex2, h⟩ := o_b h
    refine call_iV (As := [.int p1, .int (2 : Int32)]) (rest := [.int t0]) (ws2 := [(a0, .inr (9, [.int th, .ref a1, .ref a2, .ref a3, .int sm, .ref a4, .int ln, .int nx, .int cd, .int dg, .int pw, .long hs])), (a1, .inl (cI, 378, .inl sa)), (a2, .inl (cI, 378, .inl asd)), (a3, .inl (cI, 1512, .inl sv)), (a4, .inl (cI, 120, .inl mt))]) ⟨hx, hb, hml, hown, hts⟩ (cX6_of_ok l G cI cG a0 a1 a2 a3 a4 th sa asd sv sm mt ln nx cd dg pw hs p1 (2 : Int32) x2 ex2) (cwV 2 hts gX6_harm_X6_of rfl rfl rfl hdX6_of ⟨Nat.le_of_ble_eq_true rfl, Nat.le_of_ble_eq_true rfl⟩) hP hD hS hA hK 9 rfl rfl rfl [0, 1, 2, 3, 4] rfl rfl rfl rfl rfl rfl rfl rfl hl.1 (Nat.le_of_ble_eq_true rfl) dX6_harm_36 ⟨Nat.zero_le _, Nat.zero_le _⟩ (fun H locs hP hD hS => ?_)
    refine lv_icmp_ge (tgt := 47) hx hb dX6_harm_39 (by decide) (fun hc => ?_) (fun hc => ?_)
    · have h := o_t h hc
      refine lv_aload_n hx hb dX6_harm_47 rfl (lv_at hl 1 rfl) ?_
      refine lv_iload_n hx hb dX6_harm_48 rfl (lv_at hl 2 rfl) ?_
      refine lv_iconst (v := 2) hx hb dX6_harm_49 (by decide) ?_
      obtain ⟨x3, ex3, h⟩ := o_b h
      refine call_iV (As := [.int p1, .int (2 : Int32)]) (rest := []) (ws2 := [(a0, .inr (9, [.int th, .ref a1, .ref a2, .ref a3, .int sm, .ref a4, .int ln, .int nx, .int cd, .int dg, .int pw, .long hs])), (a1, .inl (cI, 378, .inl sa)), (a2, .inl (cI, 378, .inl asd)), (a3, .inl (cI, 1512, .inl sv)), (a4, .inl (cI, 120, .inl mt))]) ⟨hx, hb, hml, hown, hts⟩ (cX6_of_ok l G cI cG a0 a1 a2 a3 a4 th sa asd sv sm mt ln nx cd dg pw hs p1 (2 : Int32) x3 ex3) (cwV 2 hts gX6_harm_X6_of rfl rfl rfl hdX6_of ⟨Nat.le_of_ble_eq_true rfl, Nat.le_of_ble_eq_true rfl⟩) hP hD hS hA hK 9 rfl rfl rfl [0, 1, 2, 3, 4] rfl rfl rfl rfl rfl rfl rfl rfl hl.1 (Nat.le_of_ble_eq_true rfl) dX6_harm_50 ⟨Nat.zero_le _, Nat.zero_le _⟩ (fun H locs hP hD hS => ?_)
      exact J53 sa x3 _ _ _ h hP hD hS (lv_sub hl [1, 2] rfl)
    · have h := o_f h hc
      refine lv_iload hx hb dX6_harm_42 (lv_at hl 0 rfl) ?_
      refine lv_goto (tgt := 53) hx hb dX6_harm_44 (by decide) ?_
      exact J53 sa t0 _ _ _ h hP hD hS (lv_sub hl [1, 2] rfl)
  have J16 : ∀ (sa : (Nat → Int32)) (t0 : Int32) (H : Heap) (locs : List Loc) (ls : Array Slot), fX6_harm_J16 fu p1 sa t0 = some out → va_P G vwCl [(a0, .inr (9, [.int th, .ref a1, .ref a2, .ref a3, .int sm, .ref a4, .int ln, .int nx, .int cd, .int dg, .int pw, .long hs])), (a1, .inl (cI, 378, .inl sa)), (a2, .inl (cI, 378, .inl asd)), (a3, .inl (cI, 1512, .inl sv)), (a4, .inl (cI, 120, .inl mt))] H → va_D A [(a0, .inr (9, [.int th, .ref a1, .ref a2, .ref a3, .int sm, .ref a4, .int ln, .int nx, .int cd, .int dg, .int pw, .long hs])), (a1, .inl (cI, 378, .inl sa)), (a2, .inl (cI, 378, .inl asd)), (a3, .inl (cI, 1512, .inl sv)), (a4, .inl (cI, 120, .inl mt))] → va_S A s.heap H locs → lv_has ls 6 [(0, .ref a0), (1, .int p1)] → W p l e ({ frames := 3, cells := 0, slots := 0, locals := 66 } : Room) s m ([.ref a0, .int p1, .int p2, .int (bI p3)] : List Value).toArray below meth c H locs 0 0 Q (F0 m 16 ls [.int t0]) := by
    intro sa t0 H locs ls h hP hD hS hl
    rw [fX6_harm_J16] at h
    refine lv_istore (lv' := [(4, .int t0), (0, .ref a0), (1, .int p1)]) hx hb dX6_harm_16 hl (by decide) rfl (fun ls hl => ?_)
    refine lv_iload hx hb dX6_harm_18 (lv_at hl 0 rfl) ?_
    refine lv_if_ge (tgt := 27) hx hb dX6_harm_20 (by decide) (fun hc => ?_) (fun hc => ?_)
    · have h := o_t h hc
      refine lv_iload hx hb dX6_harm_27 (lv_at hl 0 rfl) ?_
      exact J29 sa t0 _ _ _ h hP hD hS (lv_sub hl [1, 2] rfl)
    · have h := o_f h hc
      refine lv_iconst (v := 0) hx hb dX6_harm_23 (by decide) ?_
      refine lv_goto (tgt := 29) hx hb dX6_harm_24 (by decide) ?_
      exact J29 sa (0 : Int32) _ _ _ h hP hD hS (lv_sub hl [1, 2] rfl)
  have h := hf
  rw [fX6_harm] at h
  have hl := lv_entry ([.ref a0, .int p1, .int p2, .int (bI p3)]) (n := 6) (Nat.le_of_ble_eq_true rfl)
  rw [lg_entry_eq]
  generalize (lg_sl ([.ref a0, .int p1, .int p2, .int (bI p3)]) ++ List.replicate (6 - (lg_sl ([.ref a0, .int p1, .int p2, .int (bI p3)])).length) Slot.unset).toArray = ls at hl ⊢
  have hl : lv_has ls 6 [(0, .ref a0), (1, .int p1), (2, .int p2), (3, .int (bI p3))] := hl
  refine lv_iload_n hx hb dX6_harm_0 rfl (lv_at hl 3 rfl) ?_
  refine lv_if_eq (tgt := 8) hx hb dX6_harm_1 (by decide) (fun hc => ?_) (fun hc => ?_)
  · have h := o_t h hc
    refine lv_iload_n hx hb dX6_harm_8 rfl (lv_at hl 2 rfl) ?_
    refine lv_aload_n hx hb dX6_harm_9 rfl (lv_at hl 0 rfl) ?_
    refine lv_iload_n hx hb dX6_harm_10 rfl (lv_at hl 1 rfl) ?_
    refine lv_iconst (v := 3) hx hb dX6_harm_11 (by decide) ?_
    obtain ⟨x1, ex1, h⟩ := o_b h
    refine call_iV (As := [.int p1, .int (3 : Int32)]) (rest := [.int p2]) (ws2 := [(a0, .inr (9, [.int th, .ref a1, .ref a2, .ref a3, .int sm, .ref a4, .int ln, .int nx, .int cd, .int dg, .int pw, .long hs])), (a1, .inl (cI, 378, .inl sa)), (a2, .inl (cI, 378, .inl asd)), (a3, .inl (cI, 1512, .inl sv)), (a4, .inl (cI, 120, .inl mt))]) ⟨hx, hb, hml, hown, hts⟩ (cX6_powersOn_ok l G cI cG a0 a1 a2 a3 a4 fu th sa asd sv sm mt ln nx cd dg pw hs p1 (3 : Int32) x1 ex1) (cwV 2 hts gX6_harm_X6_powersOn rfl rfl rfl hdX6_powersOn ⟨Nat.le_of_ble_eq_true rfl, Nat.le_of_ble_eq_true rfl⟩) hP hD hS hA hK 9 rfl rfl rfl [0, 1, 2, 3, 4] rfl rfl rfl rfl rfl rfl rfl rfl hl.1 (Nat.le_of_ble_eq_true rfl) dX6_harm_12 ⟨Nat.zero_le _, Nat.zero_le _⟩ (fun H locs hP hD hS => ?_)
    refine lv_isub hx hb dX6_harm_15 ?_
    exact J16 sa (p2 - x1) _ _ _ h hP hD hS (lv_sub hl [0, 1] rfl)
  · have h := o_f h hc
    refine lv_iload_n hx hb dX6_harm_4 rfl (lv_at hl 2 rfl) ?_
    refine lv_goto (tgt := 16) hx hb dX6_harm_5 (by decide) ?_
    exact J16 sa p2 _ _ _ h hP hD hS (lv_sub hl [0, 1] rfl)
theorem hdX6_newRound : yX6_newRound.cls = RX6 ∧ yX6_newRound.cls ≠ "java/lang/invoke/MethodHandle" ∧ yX6_newRound.cls ≠ "java/lang/invoke/VarHandle" ∧ (parseMethodDescriptor yX6_newRound.desc).map (fun d => d.parameters.length) = some 0 := by decide +kernel
set_option maxHeartbeats 4000000 in
set_option maxRecDepth 100000 in
theorem cX6_newRound_ok (l : Launch) (G : va_G) (cI cG : ClassId) (a0 a1 a2 a3 a4 : Nat) (fu : Nat) (th : Int32) (sa : (Nat → Int32)) (asd : (Nat → Int32)) (sv : (Nat → Int32)) (sm : Int32) (mt : (Nat → Int32)) (ln : Int32) (nx : Int32) (cd : Int32) (dg : Int32) (pw : Int32) (hs : Int64) (out : (Nat → Int32)) (hf : fX6_newRound fu sa = some out) : CV l G (tyz cI cG) yX6_newRound wsX6_newRound ({ frames := 3, cells := 0, slots := 0, locals := 68 } : Room) [.ref a0] [(a0, .inr (9, [.int th, .ref a1, .ref a2, .ref a3, .int sm, .ref a4, .int ln, .int nx, .int cd, .int dg, .int pw, .long hs])), (a1, .inl (cI, 378, .inl sa)), (a2, .inl (cI, 378, .inl asd)), (a3, .inl (cI, 1512, .inl sv)), (a4, .inl (cI, 120, .inl mt))] [(a0, .inr (9, [.int th, .ref a1, .ref a2, .ref a3, .int sm, .ref a4, .int ln, .int nx, .int cd, .int dg, .int pw, .long hs])), (a1, .inl (cI, 378, .inl out)), (a2, .inl (cI, 378, .inl asd)), (a3, .inl (cI, 1512, .inl sv)), (a4, .inl (cI, 120, .inl mt))] := by
  intro sz
  refine Met.ofW (cc := cX6_newRound) (maxL := 3) (ret := none) (by decide) rfl ?_
  intro p e s m args below meth c s₁ B hml hv
  obtain ⟨rfl, hsz, hP, hK, hD0⟩ := hv
  have hx := B.exec
  have hb := B.bytes
  have hr := B.returns
  have hts := atoms_spec (ws := wsX6_newRound) B.pre
  have hown : s.vm.findClass RX6 = some m.cls := findClass_of_methodNamed B.named
  have hlocks := B.notSynchronized
  subst hsz
  have hD := hD0.self (sz := s.heap.size)
  generalize hAe : va_A [(a0, .inr (9, [.int th, .ref a1, .ref a2, .ref a3, .int sm, .ref a4, .int ln, .int nx, .int cd, .int dg, .int pw, .long hs])), (a1, .inl (cI, 378, .inl sa)), (a2, .inl (cI, 378, .inl asd)), (a3, .inl (cI, 1512, .inl sv)), (a4, .inl (cI, 120, .inl mt))] s.heap.size = A at hD ⊢
  have hA : ∀ q : Nat, s.heap.size ≤ q → A q := fun q h => by rw [← hAe]; exact Or.inr h
  have hS : va_S A s.heap s.heap [] := va_S.rf
  have hw0 := hts (.fieldLink RX6 7 "SpeedTurnsModel" "s" "[I") (List.mem_of_getElem? (i := 1) rfl)
  have hin6 : ∀ w ∈ u_ws RX6 TX6 12, w ∈ wsX6_newRound := by decide +kernel
  show W p l e ({ frames := 3, cells := 0, slots := 0, locals := 68 } : Room) s m _ below meth c s.heap [] 0 0 _ _
  refine W_genQ (fun Q hQ => ?_)
  have L60 : ∀ (out60 : (Nat → Int32) × Int32 × Int32) (k : Nat) (sa : (Nat → Int32)) (v1 : Int32) (v2 : Int32) (H : Heap) (locs : List Loc) (ls : Array Slot), fX6_newRound_L60 fu  k sa v1 v2 = some out60 → (∀ (H : Heap) (locs : List Loc) (ls : Array Slot), va_P G vwCl [(a0, .inr (9, [.int th, .ref a1, .ref a2, .ref a3, .int sm, .ref a4, .int ln, .int nx, .int cd, .int dg, .int pw, .long hs])), (a1, .inl (cI, 378, .inl out60.1)), (a2, .inl (cI, 378, .inl asd)), (a3, .inl (cI, 1512, .inl sv)), (a4, .inl (cI, 120, .inl mt))] H → va_D A [(a0, .inr (9, [.int th, .ref a1, .ref a2, .ref a3, .int sm, .ref a4, .int ln, .int nx, .int cd, .int dg, .int pw, .long hs])), (a1, .inl (cI, 378, .inl out60.1)), (a2, .inl (cI, 378, .inl asd)), (a3, .inl (cI, 1512, .inl sv)), (a4, .inl (cI, 120, .inl mt))] → va_S A s.heap H locs → lv_has ls 3 [(0, .ref a0), (1, .int out60.2.1), (2, .int out60.2.2)] → W p l e ({ frames := 3, cells := 0, slots := 0, locals := 68 } : Room) s m ([.ref a0] : List Value).toArray below meth c H locs 0 0 Q (F0 m 113 ls [])) → va_P G vwCl [(a0, .inr (9, [.int th, .ref a1, .ref a2, .ref a3, .int sm, .ref a4, .int ln, .int nx, .int cd, .int dg, .int pw, .long hs])), (a1, .inl (cI, 378, .inl sa)), (a2, .inl (cI, 378, .inl asd)), (a3, .inl (cI, 1512, .inl sv)), (a4, .inl (cI, 120, .inl mt))] H → va_D A [(a0, .inr (9, [.int th, .ref a1, .ref a2, .ref a3, .int sm, .ref a4, .int ln, .int nx, .int cd, .int dg, .int pw, .long hs])), (a1, .inl (cI, 378, .inl sa)), (a2, .inl (cI, 378, .inl asd)), (a3, .inl (cI, 1512, .inl sv)), (a4, .inl (cI, 120, .inl mt))] → va_S A s.heap H locs → lv_has ls 3 [(0, .ref a0), (1, .int v1), (2, .int v2)] → W p l e ({ frames := 3, cells := 0, slots := 0, locals := 68 } : Room) s m ([.ref a0] : List Value).toArray below meth c H locs 0 0 Q (F0 m 60 ls []) := by
    intro out60 k
    induction k with
    | zero => intro sa v1 v2 H locs ls h kk hP hD hS hl; rw [fX6_newRound_L60] at h; exact o_n h
    | succ k ih =>
      intro sa v1 v2 H locs ls h kk hP hD hS hl
      rw [fX6_newRound_L60] at h
      refine lv_iload_n hx hb dX6_newRound_60 rfl (lv_at hl 2 rfl) ?_
      refine lv_if_le (tgt := 113) hx hb dX6_newRound_61 (by decide) (fun hc => ?_) (fun hc => ?_)
      · have h := o_t h hc
        obtain rfl := o_s h
        exact kk _ _ _ hP hD hS (lv_sub hl [0, 1, 2] rfl)
      · have h := o_f h hc
        refine lv_aload_n hx hb dX6_newRound_64 rfl (lv_at hl 0 rfl) ?_
        refine lv_aload_n hx hb dX6_newRound_65 rfl (lv_at hl 0 rfl) ?_
        refine va_get (D := G) (ci := 9) (v := .ref a1) (C := RX6) (T := TX6) (N := 12) hx hb hts hin6 hown hK.1 hP 0 rfl rfl 1 (by decide) hw0 (fun _ h9 => h9) rfl dX6_newRound_66 ?_
        refine lv_bipush (v := 72) hx hb dX6_newRound_69 (by decide) ?_
        refine lv_iload_n hx hb dX6_newRound_71 rfl (lv_at hl 2 rfl) ?_
        refine lv_iadd hx hb dX6_newRound_72 ?_
        refine lv_iconst (v := 1) hx hb dX6_newRound_73 (by decide) ?_
        refine lv_isub hx hb dX6_newRound_74 ?_
        obtain ⟨hin, h⟩ := o_g h
        refine va_iald hx hb hK.1 hP 1 0 rfl rfl hin dX6_newRound_75 ?_
        obtain ⟨x4, ex4, h⟩ := o_b h
        refine call_iV (As := [.int (sa ((((72 : Int32) + v2) - (1 : Int32))).toNatClampNeg)]) (rest := []) (ws2 := [(a0, .inr (9, [.int th, .ref a1, .ref a2, .ref a3, .int sm, .ref a4, .int ln, .int nx, .int cd, .int dg, .int pw, .long hs])), (a1, .inl (cI, 378, .inl sa)), (a2, .inl (cI, 378, .inl asd)), (a3, .inl (cI, 1512, .inl sv)), (a4, .inl (cI, 120, .inl mt))]) ⟨hx, hb, hml, hown, hts⟩ (cX6_speedOf_ok l G cI cG a0 a1 a2 a3 a4 fu th sa asd sv sm mt ln nx cd dg pw hs (sa ((((72 : Int32) + v2) - (1 : Int32))).toNatClampNeg) x4 ex4) (cwV 1 hts gX6_newRound_X6_speedOf rfl rfl rfl hdX6_speedOf ⟨Nat.le_of_ble_eq_true rfl, Nat.le_of_ble_eq_true rfl⟩) hP hD hS hA hK 9 rfl rfl rfl [0, 1, 2, 3, 4] rfl rfl rfl rfl rfl rfl rfl rfl hl.1 (Nat.le_of_ble_eq_true rfl) dX6_newRound_76 ⟨Nat.zero_le _, Nat.zero_le _⟩ (fun H locs hP hD hS => ?_)
        refine lv_aload_n hx hb dX6_newRound_79 rfl (lv_at hl 0 rfl) ?_
        refine lv_iload_n hx hb dX6_newRound_80 rfl (lv_at hl 1 rfl) ?_
        obtain ⟨x5, ex5, h⟩ := o_b h
        refine call_iV (As := [.int v1]) (rest := [.int x4]) (ws2 := [(a0, .inr (9, [.int th, .ref a1, .ref a2, .ref a3, .int sm, .ref a4, .int ln, .int nx, .int cd, .int dg, .int pw, .long hs])), (a1, .inl (cI, 378, .inl sa)), (a2, .inl (cI, 378, .inl asd)), (a3, .inl (cI, 1512, .inl sv)), (a4, .inl (cI, 120, .inl mt))]) ⟨hx, hb, hml, hown, hts⟩ (cX6_speedOf_ok l G cI cG a0 a1 a2 a3 a4 fu th sa asd sv sm mt ln nx cd dg pw hs v1 x5 ex5) (cwV 1 hts gX6_newRound_X6_speedOf rfl rfl rfl hdX6_speedOf ⟨Nat.le_of_ble_eq_true rfl, Nat.le_of_ble_eq_true rfl⟩) hP hD hS hA hK 9 rfl rfl rfl [0, 1, 2, 3, 4] rfl rfl rfl rfl rfl rfl rfl rfl hl.1 (Nat.le_of_ble_eq_true rfl) dX6_newRound_81 ⟨Nat.zero_le _, Nat.zero_le _⟩ (fun H locs hP hD hS => ?_)
        refine lv_icmp_ge (tgt := 113) hx hb dX6_newRound_84 (by decide) (fun hc => ?_) (fun hc => ?_)
        · have h := o_t h hc
          obtain rfl := o_s h
          exact kk _ _ _ hP hD hS (lv_sub hl [0, 1, 2] rfl)
        · have h := o_f h hc
          refine lv_aload_n hx hb dX6_newRound_87 rfl (lv_at hl 0 rfl) ?_
          refine va_get (D := G) (ci := 9) (v := .ref a1) (C := RX6) (T := TX6) (N := 12) hx hb hts hin6 hown hK.1 hP 0 rfl rfl 1 (by decide) hw0 (fun _ h9 => h9) rfl dX6_newRound_88 ?_
          refine lv_bipush (v := 72) hx hb dX6_newRound_91 (by decide) ?_
          refine lv_iload_n hx hb dX6_newRound_93 rfl (lv_at hl 2 rfl) ?_
          refine lv_iadd hx hb dX6_newRound_94 ?_
          refine lv_aload_n hx hb dX6_newRound_95 rfl (lv_at hl 0 rfl) ?_
          refine va_get (D := G) (ci := 9) (v := .ref a1) (C := RX6) (T := TX6) (N := 12) hx hb hts hin6 hown hK.1 hP 0 rfl rfl 1 (by decide) hw0 (fun _ h9 => h9) rfl dX6_newRound_96 ?_
          refine lv_bipush (v := 72) hx hb dX6_newRound_99 (by decide) ?_
          refine lv_iload_n hx hb dX6_newRound_101 rfl (lv_at hl 2 rfl) ?_
          refine lv_iadd hx hb dX6_newRound_102 ?_
          refine lv_iconst (v := 1) hx hb dX6_newRound_103 (by decide) ?_
          refine lv_isub hx hb dX6_newRound_104 ?_
          obtain ⟨hin, h⟩ := o_g h
          refine va_iald hx hb hK.1 hP 1 0 rfl rfl hin dX6_newRound_105 ?_
          obtain ⟨hin, h⟩ := o_g h
          refine va_iast hx hb hK.1 hP hD hS 1 0 rfl rfl hin dX6_newRound_106 (fun H locs hP hD hS => ?_)
          have hP : va_P G vwCl [(a0, .inr (9, [.int th, .ref a1, .ref a2, .ref a3, .int sm, .ref a4, .int ln, .int nx, .int cd, .int dg, .int pw, .long hs])), (a1, .inl (cI, 378, .inl (upd sa (((72 : Int32) + v2)).toNatClampNeg (sa ((((72 : Int32) + v2) - (1 : Int32))).toNatClampNeg)))), (a2, .inl (cI, 378, .inl asd)), (a3, .inl (cI, 1512, .inl sv)), (a4, .inl (cI, 120, .inl mt))] H := hP
          have hD : va_D A [(a0, .inr (9, [.int th, .ref a1, .ref a2, .ref a3, .int sm, .ref a4, .int ln, .int nx, .int cd, .int dg, .int pw, .long hs])), (a1, .inl (cI, 378, .inl (upd sa (((72 : Int32) + v2)).toNatClampNeg (sa ((((72 : Int32) + v2) - (1 : Int32))).toNatClampNeg)))), (a2, .inl (cI, 378, .inl asd)), (a3, .inl (cI, 1512, .inl sv)), (a4, .inl (cI, 120, .inl mt))] := hD
          refine lv_iinc (v := (v2 + (-1))) (lv' := [(2, .int (v2 + (-1))), (0, .ref a0), (1, .int v1)]) hx hb dX6_newRound_107 hl (k := 2) rfl rfl (by decide) rfl (fun ls hl => ?_)
          refine lv_goto (tgt := 60) hx hb dX6_newRound_110 (by decide) ?_
          exact ih (upd sa (((72 : Int32) + v2)).toNatClampNeg (sa ((((72 : Int32) + v2) - (1 : Int32))).toNatClampNeg)) v1 (v2 + (-1)) _ _ _ h kk hP hD hS (lv_sub hl [1, 2, 0] rfl)
  have L20 : ∀ (k : Nat) (sa : (Nat → Int32)) (v1 : Int32) (H : Heap) (locs : List Loc) (ls : Array Slot), fX6_newRound_L20 fu  k sa v1 = some out → va_P G vwCl [(a0, .inr (9, [.int th, .ref a1, .ref a2, .ref a3, .int sm, .ref a4, .int ln, .int nx, .int cd, .int dg, .int pw, .long hs])), (a1, .inl (cI, 378, .inl sa)), (a2, .inl (cI, 378, .inl asd)), (a3, .inl (cI, 1512, .inl sv)), (a4, .inl (cI, 120, .inl mt))] H → va_D A [(a0, .inr (9, [.int th, .ref a1, .ref a2, .ref a3, .int sm, .ref a4, .int ln, .int nx, .int cd, .int dg, .int pw, .long hs])), (a1, .inl (cI, 378, .inl sa)), (a2, .inl (cI, 378, .inl asd)), (a3, .inl (cI, 1512, .inl sv)), (a4, .inl (cI, 120, .inl mt))] → va_S A s.heap H locs → lv_has ls 3 [(0, .ref a0), (1, .int v1)] → W p l e ({ frames := 3, cells := 0, slots := 0, locals := 68 } : Room) s m ([.ref a0] : List Value).toArray below meth c H locs 0 0 Q (F0 m 20 ls []) := by
    intro k
    induction k with
    | zero => intro sa v1 H locs ls h hP hD hS hl; rw [fX6_newRound_L20] at h; exact o_n h
    | succ k ih =>
      intro sa v1 H locs ls h hP hD hS hl
      rw [fX6_newRound_L20] at h
      refine lv_iload_n hx hb dX6_newRound_20 rfl (lv_at hl 1 rfl) ?_
      refine lv_aload_n hx hb dX6_newRound_21 rfl (lv_at hl 0 rfl) ?_
      refine va_get (D := G) (ci := 9) (v := .ref a1) (C := RX6) (T := TX6) (N := 12) hx hb hts hin6 hown hK.1 hP 0 rfl rfl 1 (by decide) hw0 (fun _ h9 => h9) rfl dX6_newRound_22 ?_
      refine lv_iconst (v := 0) hx hb dX6_newRound_25 (by decide) ?_
      obtain ⟨hin, h⟩ := o_g h
      refine va_iald hx hb hK.1 hP 1 0 rfl rfl hin dX6_newRound_26 ?_
      refine lv_icmp_ge (tgt := 147) hx hb dX6_newRound_27 (by decide) (fun hc => ?_) (fun hc => ?_)
      · have h := o_t h hc
        obtain rfl := o_s h
        rw [hQ]
        exact end_v hx hb hr hP hD hS dX6_newRound_147 hlocks
      · have h := o_f h hc
        refine lv_aload_n hx hb dX6_newRound_30 rfl (lv_at hl 0 rfl) ?_
        refine lv_iload_n hx hb dX6_newRound_31 rfl (lv_at hl 1 rfl) ?_
        refine lv_iconst (v := 4) hx hb dX6_newRound_32 (by decide) ?_
        refine lv_iconst (v := (-1)) hx hb dX6_newRound_33 (by decide) ?_
        obtain ⟨x1, ex1, h⟩ := o_b h
        refine call_vV (As := [.int v1, .int (4 : Int32), .int (-1 : Int32)]) (rest := []) (ws2 := [(a0, .inr (9, [.int th, .ref a1, .ref a2, .ref a3, .int sm, .ref a4, .int ln, .int nx, .int cd, .int dg, .int pw, .long hs])), (a1, .inl (cI, 378, .inl x1)), (a2, .inl (cI, 378, .inl asd)), (a3, .inl (cI, 1512, .inl sv)), (a4, .inl (cI, 120, .inl mt))]) ⟨hx, hb, hml, hown, hts⟩ (cX6_set_ok l G cI cG a0 a1 a2 a3 a4 th sa asd sv sm mt ln nx cd dg pw hs v1 (4 : Int32) (-1 : Int32) x1 ex1) (cwV 3 hts gX6_newRound_X6_set rfl rfl rfl hdX6_set ⟨Nat.le_of_ble_eq_true rfl, Nat.le_of_ble_eq_true rfl⟩) hP hD hS hA hK 9 rfl rfl rfl [0, 1, 2, 3, 4] rfl rfl rfl rfl rfl rfl rfl rfl hl.1 (Nat.le_of_ble_eq_true rfl) dX6_newRound_34 ⟨Nat.zero_le _, Nat.zero_le _⟩ (fun H locs hP hD hS => ?_)
        refine lv_aload_n hx hb dX6_newRound_37 rfl (lv_at hl 0 rfl) ?_
        refine lv_iload_n hx hb dX6_newRound_38 rfl (lv_at hl 1 rfl) ?_
        refine lv_iconst (v := 5) hx hb dX6_newRound_39 (by decide) ?_
        refine lv_iconst (v := 0) hx hb dX6_newRound_40 (by decide) ?_
        obtain ⟨x2, ex2, h⟩ := o_b h
        refine call_vV (As := [.int v1, .int (5 : Int32), .int (0 : Int32)]) (rest := []) (ws2 := [(a0, .inr (9, [.int th, .ref a1, .ref a2, .ref a3, .int sm, .ref a4, .int ln, .int nx, .int cd, .int dg, .int pw, .long hs])), (a1, .inl (cI, 378, .inl x2)), (a2, .inl (cI, 378, .inl asd)), (a3, .inl (cI, 1512, .inl sv)), (a4, .inl (cI, 120, .inl mt))]) ⟨hx, hb, hml, hown, hts⟩ (cX6_set_ok l G cI cG a0 a1 a2 a3 a4 th x1 asd sv sm mt ln nx cd dg pw hs v1 (5 : Int32) (0 : Int32) x2 ex2) (cwV 3 hts gX6_newRound_X6_set rfl rfl rfl hdX6_set ⟨Nat.le_of_ble_eq_true rfl, Nat.le_of_ble_eq_true rfl⟩) hP hD hS hA hK 9 rfl rfl rfl [0, 1, 2, 3, 4] rfl rfl rfl rfl rfl rfl rfl rfl hl.1 (Nat.le_of_ble_eq_true rfl) dX6_newRound_41 ⟨Nat.zero_le _, Nat.zero_le _⟩ (fun H locs hP hD hS => ?_)
        refine lv_aload_n hx hb dX6_newRound_44 rfl (lv_at hl 0 rfl) ?_
        refine lv_iload_n hx hb dX6_newRound_45 rfl (lv_at hl 1 rfl) ?_
        obtain ⟨x3, ex3, h⟩ := o_b h
        refine call_iV (As := [.int v1]) (rest := []) (ws2 := [(a0, .inr (9, [.int th, .ref a1, .ref a2, .ref a3, .int sm, .ref a4, .int ln, .int nx, .int cd, .int dg, .int pw, .long hs])), (a1, .inl (cI, 378, .inl x2)), (a2, .inl (cI, 378, .inl asd)), (a3, .inl (cI, 1512, .inl sv)), (a4, .inl (cI, 120, .inl mt))]) ⟨hx, hb, hml, hown, hts⟩ (cX6_stands_ok l G cI cG a0 a1 a2 a3 a4 th x2 asd sv sm mt ln nx cd dg pw hs v1 x3 ex3) (cwV 1 hts gX6_newRound_X6_stands rfl rfl rfl hdX6_stands ⟨Nat.le_of_ble_eq_true rfl, Nat.le_of_ble_eq_true rfl⟩) hP hD hS hA hK 9 rfl rfl rfl [0, 1, 2, 3, 4] rfl rfl rfl rfl rfl rfl rfl rfl hl.1 (Nat.le_of_ble_eq_true rfl) dX6_newRound_46 ⟨Nat.zero_le _, Nat.zero_le _⟩ (fun H locs hP hD hS => ?_)
        refine lv_if_eq (tgt := 141) hx hb dX6_newRound_49 (by decide) (fun hc => ?_) (fun hc => ?_)
        · have h := o_t h hc
          refine lv_iinc (v := (v1 + 1)) (lv' := [(1, .int (v1 + 1)), (0, .ref a0)]) hx hb dX6_newRound_141 hl (k := 1) rfl rfl (by decide) rfl (fun ls hl => ?_)
          refine lv_goto (tgt := 20) hx hb dX6_newRound_144 (by decide) ?_
          exact ih x2 (v1 + 1) _ _ _ h hP hD hS (lv_sub hl [1, 0] rfl)
        · have h := o_f h hc
          refine lv_aload_n hx hb dX6_newRound_52 rfl (lv_at hl 0 rfl) ?_
          refine va_get (D := G) (ci := 9) (v := .ref a1) (C := RX6) (T := TX6) (N := 12) hx hb hts hin6 hown hK.1 hP 0 rfl rfl 1 (by decide) hw0 (fun _ h9 => h9) rfl dX6_newRound_53 ?_
          refine lv_bipush (v := 6) hx hb dX6_newRound_56 (by decide) ?_
          obtain ⟨hin, h⟩ := o_g h
          refine va_iald hx hb hK.1 hP 1 0 rfl rfl hin dX6_newRound_58 ?_
          refine lv_istore_n (lv' := [(2, .int (x2 ((6 : Int32)).toNatClampNeg)), (0, .ref a0), (1, .int v1)]) hx hb dX6_newRound_59 rfl hl (by decide) rfl (fun ls hl => ?_)
          obtain ⟨y6, ey6, h⟩ := o_b h
          refine L60 y6 fu x2 v1 (x2 ((6 : Int32)).toNatClampNeg) _ _ _ ey6 (fun H locs ls hP hD hS hl => ?_) hP hD hS (lv_sub hl [1, 2, 0] rfl)
          refine lv_aload_n hx hb dX6_newRound_113 rfl (lv_at hl 0 rfl) ?_
          refine va_get (D := G) (ci := 9) (v := .ref a1) (C := RX6) (T := TX6) (N := 12) hx hb hts hin6 hown hK.1 hP 0 rfl rfl 1 (by decide) hw0 (fun _ h9 => h9) rfl dX6_newRound_114 ?_
          refine lv_bipush (v := 72) hx hb dX6_newRound_117 (by decide) ?_
          refine lv_iload_n hx hb dX6_newRound_119 rfl (lv_at hl 2 rfl) ?_
          refine lv_iadd hx hb dX6_newRound_120 ?_
          refine lv_iload_n hx hb dX6_newRound_121 rfl (lv_at hl 1 rfl) ?_
          obtain ⟨hin, h⟩ := o_g h
          refine va_iast hx hb hK.1 hP hD hS 1 0 rfl rfl hin dX6_newRound_122 (fun H locs hP hD hS => ?_)
          have hP : va_P G vwCl [(a0, .inr (9, [.int th, .ref a1, .ref a2, .ref a3, .int sm, .ref a4, .int ln, .int nx, .int cd, .int dg, .int pw, .long hs])), (a1, .inl (cI, 378, .inl (upd y6.1 (((72 : Int32) + y6.2.2)).toNatClampNeg y6.2.1))), (a2, .inl (cI, 378, .inl asd)), (a3, .inl (cI, 1512, .inl sv)), (a4, .inl (cI, 120, .inl mt))] H := hP
          have hD : va_D A [(a0, .inr (9, [.int th, .ref a1, .ref a2, .ref a3, .int sm, .ref a4, .int ln, .int nx, .int cd, .int dg, .int pw, .long hs])), (a1, .inl (cI, 378, .inl (upd y6.1 (((72 : Int32) + y6.2.2)).toNatClampNeg y6.2.1))), (a2, .inl (cI, 378, .inl asd)), (a3, .inl (cI, 1512, .inl sv)), (a4, .inl (cI, 120, .inl mt))] := hD
          refine lv_aload_n hx hb dX6_newRound_123 rfl (lv_at hl 0 rfl) ?_
          refine va_get (D := G) (ci := 9) (v := .ref a1) (C := RX6) (T := TX6) (N := 12) hx hb hts hin6 hown hK.1 hP 0 rfl rfl 1 (by decide) hw0 (fun _ h9 => h9) rfl dX6_newRound_124 ?_
          refine lv_bipush (v := 6) hx hb dX6_newRound_127 (by decide) ?_
          refine lv_dup2_11 hx hb dX6_newRound_129 rfl rfl ?_
          obtain ⟨hin, h⟩ := o_g h
          refine va_iald hx hb hK.1 hP 1 0 rfl rfl hin dX6_newRound_130 ?_
          refine lv_iconst (v := 1) hx hb dX6_newRound_131 (by decide) ?_
          refine lv_iadd hx hb dX6_newRound_132 ?_
          obtain ⟨hin, h⟩ := o_g h
          refine va_iast hx hb hK.1 hP hD hS 1 0 rfl rfl hin dX6_newRound_133 (fun H locs hP hD hS => ?_)
          have hP : va_P G vwCl [(a0, .inr (9, [.int th, .ref a1, .ref a2, .ref a3, .int sm, .ref a4, .int ln, .int nx, .int cd, .int dg, .int pw, .long hs])), (a1, .inl (cI, 378, .inl (upd (upd y6.1 (((72 : Int32) + y6.2.2)).toNatClampNeg y6.2.1) ((6 : Int32)).toNatClampNeg (((upd y6.1 (((72 : Int32) + y6.2.2)).toNatClampNeg y6.2.1) ((6 : Int32)).toNatClampNeg) + (1 : Int32))))), (a2, .inl (cI, 378, .inl asd)), (a3, .inl (cI, 1512, .inl sv)), (a4, .inl (cI, 120, .inl mt))] H := hP
          have hD : va_D A [(a0, .inr (9, [.int th, .ref a1, .ref a2, .ref a3, .int sm, .ref a4, .int ln, .int nx, .int cd, .int dg, .int pw, .long hs])), (a1, .inl (cI, 378, .inl (upd (upd y6.1 (((72 : Int32) + y6.2.2)).toNatClampNeg y6.2.1) ((6 : Int32)).toNatClampNeg (((upd y6.1 (((72 : Int32) + y6.2.2)).toNatClampNeg y6.2.1) ((6 : Int32)).toNatClampNeg) + (1 : Int32))))), (a2, .inl (cI, 378, .inl asd)), (a3, .inl (cI, 1512, .inl sv)), (a4, .inl (cI, 120, .inl mt))] := hD
          refine lv_aload_n hx hb dX6_newRound_134 rfl (lv_at hl 0 rfl) ?_
          refine lv_iload_n hx hb dX6_newRound_135 rfl (lv_at hl 1 rfl) ?_
          refine lv_iconst (v := 4) hx hb dX6_newRound_136 (by decide) ?_
          refine lv_iconst (v := 0) hx hb dX6_newRound_137 (by decide) ?_
          obtain ⟨x7, ex7, h⟩ := o_b h
          refine call_vV (As := [.int y6.2.1, .int (4 : Int32), .int (0 : Int32)]) (rest := []) (ws2 := [(a0, .inr (9, [.int th, .ref a1, .ref a2, .ref a3, .int sm, .ref a4, .int ln, .int nx, .int cd, .int dg, .int pw, .long hs])), (a1, .inl (cI, 378, .inl x7)), (a2, .inl (cI, 378, .inl asd)), (a3, .inl (cI, 1512, .inl sv)), (a4, .inl (cI, 120, .inl mt))]) ⟨hx, hb, hml, hown, hts⟩ (cX6_set_ok l G cI cG a0 a1 a2 a3 a4 th (upd (upd y6.1 (((72 : Int32) + y6.2.2)).toNatClampNeg y6.2.1) ((6 : Int32)).toNatClampNeg (((upd y6.1 (((72 : Int32) + y6.2.2)).toNatClampNeg y6.2.1) ((6 : Int32)).toNatClampNeg) + (1 : Int32))) asd sv sm mt ln nx cd dg pw hs y6.2.1 (4 : Int32) (0 : Int32) x7 ex7) (cwV 3 hts gX6_newRound_X6_set rfl rfl rfl hdX6_set ⟨Nat.le_of_ble_eq_true rfl, Nat.le_of_ble_eq_true rfl⟩) hP hD hS hA hK 9 rfl rfl rfl [0, 1, 2, 3, 4] rfl rfl rfl rfl rfl rfl rfl rfl hl.1 (Nat.le_of_ble_eq_true rfl) dX6_newRound_138 ⟨Nat.zero_le _, Nat.zero_le _⟩ (fun H locs hP hD hS => ?_)
          refine lv_iinc (v := (y6.2.1 + 1)) (lv' := [(1, .int (y6.2.1 + 1)), (0, .ref a0), (2, .int y6.2.2)]) hx hb dX6_newRound_141 hl (k := 1) rfl rfl (by decide) rfl (fun ls hl => ?_)
          refine lv_goto (tgt := 20) hx hb dX6_newRound_144 (by decide) ?_
          exact ih x7 (y6.2.1 + 1) _ _ _ h hP hD hS (lv_sub hl [1, 0] rfl)
  have h := hf
  rw [fX6_newRound] at h
  have hl := lv_entry ([.ref a0]) (n := 3) (Nat.le_of_ble_eq_true rfl)
  rw [lg_entry_eq]
  generalize (lg_sl ([.ref a0]) ++ List.replicate (3 - (lg_sl ([.ref a0])).length) Slot.unset).toArray = ls at hl ⊢
  have hl : lv_has ls 3 [(0, .ref a0)] := hl
  refine lv_aload_n hx hb dX6_newRound_0 rfl (lv_at hl 0 rfl) ?_
  refine va_get (D := G) (ci := 9) (v := .ref a1) (C := RX6) (T := TX6) (N := 12) hx hb hts hin6 hown hK.1 hP 0 rfl rfl 1 (by decide) hw0 (fun _ h9 => h9) rfl dX6_newRound_1 ?_
  refine lv_iconst (v := 3) hx hb dX6_newRound_4 (by decide) ?_
  refine lv_dup2_11 hx hb dX6_newRound_5 rfl rfl ?_
  obtain ⟨hin, h⟩ := o_g h
  refine va_iald hx hb hK.1 hP 1 0 rfl rfl hin dX6_newRound_6 ?_
  refine lv_iconst (v := 1) hx hb dX6_newRound_7 (by decide) ?_
  refine lv_iadd hx hb dX6_newRound_8 ?_
  obtain ⟨hin, h⟩ := o_g h
  refine va_iast hx hb hK.1 hP hD hS 1 0 rfl rfl hin dX6_newRound_9 (fun H locs hP hD hS => ?_)
  have hP : va_P G vwCl [(a0, .inr (9, [.int th, .ref a1, .ref a2, .ref a3, .int sm, .ref a4, .int ln, .int nx, .int cd, .int dg, .int pw, .long hs])), (a1, .inl (cI, 378, .inl (upd sa ((3 : Int32)).toNatClampNeg ((sa ((3 : Int32)).toNatClampNeg) + (1 : Int32))))), (a2, .inl (cI, 378, .inl asd)), (a3, .inl (cI, 1512, .inl sv)), (a4, .inl (cI, 120, .inl mt))] H := hP
  have hD : va_D A [(a0, .inr (9, [.int th, .ref a1, .ref a2, .ref a3, .int sm, .ref a4, .int ln, .int nx, .int cd, .int dg, .int pw, .long hs])), (a1, .inl (cI, 378, .inl (upd sa ((3 : Int32)).toNatClampNeg ((sa ((3 : Int32)).toNatClampNeg) + (1 : Int32))))), (a2, .inl (cI, 378, .inl asd)), (a3, .inl (cI, 1512, .inl sv)), (a4, .inl (cI, 120, .inl mt))] := hD
  refine lv_aload_n hx hb dX6_newRound_10 rfl (lv_at hl 0 rfl) ?_
  refine va_get (D := G) (ci := 9) (v := .ref a1) (C := RX6) (T := TX6) (N := 12) hx hb hts hin6 hown hK.1 hP 0 rfl rfl 1 (by decide) hw0 (fun _ h9 => h9) rfl dX6_newRound_11 ?_
  refine lv_bipush (v := 6) hx hb dX6_newRound_14 (by decide) ?_
  refine lv_iconst (v := 0) hx hb dX6_newRound_16 (by decide) ?_
  obtain ⟨hin, h⟩ := o_g h
  refine va_iast hx hb hK.1 hP hD hS 1 0 rfl rfl hin dX6_newRound_17 (fun H locs hP hD hS => ?_)
  have hP : va_P G vwCl [(a0, .inr (9, [.int th, .ref a1, .ref a2, .ref a3, .int sm, .ref a4, .int ln, .int nx, .int cd, .int dg, .int pw, .long hs])), (a1, .inl (cI, 378, .inl (upd (upd sa ((3 : Int32)).toNatClampNeg ((sa ((3 : Int32)).toNatClampNeg) + (1 : Int32))) ((6 : Int32)).toNatClampNeg (0 : Int32)))), (a2, .inl (cI, 378, .inl asd)), (a3, .inl (cI, 1512, .inl sv)), (a4, .inl (cI, 120, .inl mt))] H := hP
  have hD : va_D A [(a0, .inr (9, [.int th, .ref a1, .ref a2, .ref a3, .int sm, .ref a4, .int ln, .int nx, .int cd, .int dg, .int pw, .long hs])), (a1, .inl (cI, 378, .inl (upd (upd sa ((3 : Int32)).toNatClampNeg ((sa ((3 : Int32)).toNatClampNeg) + (1 : Int32))) ((6 : Int32)).toNatClampNeg (0 : Int32)))), (a2, .inl (cI, 378, .inl asd)), (a3, .inl (cI, 1512, .inl sv)), (a4, .inl (cI, 120, .inl mt))] := hD
  refine lv_iconst (v := 0) hx hb dX6_newRound_18 (by decide) ?_
  refine lv_istore_n (lv' := [(1, .int (0 : Int32)), (0, .ref a0)]) hx hb dX6_newRound_19 rfl hl (by decide) rfl (fun ls hl => ?_)
  exact L20 fu (upd (upd sa ((3 : Int32)).toNatClampNeg ((sa ((3 : Int32)).toNatClampNeg) + (1 : Int32))) ((6 : Int32)).toNatClampNeg (0 : Int32)) (0 : Int32) _ _ _ h hP hD hS (lv_sub hl [1, 0] rfl)
theorem hdX6_firstWaiting : yX6_firstWaiting.cls = RX6 ∧ yX6_firstWaiting.cls ≠ "java/lang/invoke/MethodHandle" ∧ yX6_firstWaiting.cls ≠ "java/lang/invoke/VarHandle" ∧ (parseMethodDescriptor yX6_firstWaiting.desc).map (fun d => d.parameters.length) = some 0 := by decide +kernel
set_option maxHeartbeats 4000000 in
set_option maxRecDepth 100000 in
theorem cX6_firstWaiting_ok (l : Launch) (G : va_G) (cI cG : ClassId) (a0 a1 a2 a3 a4 : Nat) (fu : Nat) (th : Int32) (sa : (Nat → Int32)) (asd : (Nat → Int32)) (sv : (Nat → Int32)) (sm : Int32) (mt : (Nat → Int32)) (ln : Int32) (nx : Int32) (cd : Int32) (dg : Int32) (pw : Int32) (hs : Int64) (out : Int32) (hf : fX6_firstWaiting fu sa = some out) : CI l G (tyz cI cG) yX6_firstWaiting wsX6_firstWaiting ({ frames := 2, cells := 0, slots := 0, locals := 43 } : Room) [.ref a0] [(a0, .inr (9, [.int th, .ref a1, .ref a2, .ref a3, .int sm, .ref a4, .int ln, .int nx, .int cd, .int dg, .int pw, .long hs])), (a1, .inl (cI, 378, .inl sa)), (a2, .inl (cI, 378, .inl asd)), (a3, .inl (cI, 1512, .inl sv)), (a4, .inl (cI, 120, .inl mt))] out [(a0, .inr (9, [.int th, .ref a1, .ref a2, .ref a3, .int sm, .ref a4, .int ln, .int nx, .int cd, .int dg, .int pw, .long hs])), (a1, .inl (cI, 378, .inl sa)), (a2, .inl (cI, 378, .inl asd)), (a3, .inl (cI, 1512, .inl sv)), (a4, .inl (cI, 120, .inl mt))] := by
  intro sz
  refine Met.ofW (cc := cX6_firstWaiting) (maxL := 3) (ret := (some .int)) (by decide) rfl ?_
  intro p e s m args below meth c s₁ B hml hv
  obtain ⟨rfl, hsz, hP, hK, hD0⟩ := hv
  have hx := B.exec
  have hb := B.bytes
  have hr := B.returns
  have hts := atoms_spec (ws := wsX6_firstWaiting) B.pre
  have hown : s.vm.findClass RX6 = some m.cls := findClass_of_methodNamed B.named
  have hlocks := B.notSynchronized
  subst hsz
  have hD := hD0.self (sz := s.heap.size)
  generalize hAe : va_A [(a0, .inr (9, [.int th, .ref a1, .ref a2, .ref a3, .int sm, .ref a4, .int ln, .int nx, .int cd, .int dg, .int pw, .long hs])), (a1, .inl (cI, 378, .inl sa)), (a2, .inl (cI, 378, .inl asd)), (a3, .inl (cI, 1512, .inl sv)), (a4, .inl (cI, 120, .inl mt))] s.heap.size = A at hD ⊢
  have hA : ∀ q : Nat, s.heap.size ≤ q → A q := fun q h => by rw [← hAe]; exact Or.inr h
  have hS : va_S A s.heap s.heap [] := va_S.rf
  have hw0 := hts (.fieldLink RX6 7 "SpeedTurnsModel" "s" "[I") (List.mem_of_getElem? (i := 1) rfl)
  have hin6 : ∀ w ∈ u_ws RX6 TX6 12, w ∈ wsX6_firstWaiting := by decide +kernel
  show W p l e ({ frames := 2, cells := 0, slots := 0, locals := 43 } : Room) s m _ below meth c s.heap [] 0 0 _ _
  refine W_genQ (fun Q hQ => ?_)
  have L2 : ∀ (k : Nat) (v1 : Int32) (H : Heap) (locs : List Loc) (ls : Array Slot), fX6_firstWaiting_L2 fu sa k v1 = some out → va_P G vwCl [(a0, .inr (9, [.int th, .ref a1, .ref a2, .ref a3, .int sm, .ref a4, .int ln, .int nx, .int cd, .int dg, .int pw, .long hs])), (a1, .inl (cI, 378, .inl sa)), (a2, .inl (cI, 378, .inl asd)), (a3, .inl (cI, 1512, .inl sv)), (a4, .inl (cI, 120, .inl mt))] H → va_D A [(a0, .inr (9, [.int th, .ref a1, .ref a2, .ref a3, .int sm, .ref a4, .int ln, .int nx, .int cd, .int dg, .int pw, .long hs])), (a1, .inl (cI, 378, .inl sa)), (a2, .inl (cI, 378, .inl asd)), (a3, .inl (cI, 1512, .inl sv)), (a4, .inl (cI, 120, .inl mt))] → va_S A s.heap H locs → lv_has ls 3 [(0, .ref a0), (1, .int v1)] → W p l e ({ frames := 2, cells := 0, slots := 0, locals := 43 } : Room) s m ([.ref a0] : List Value).toArray below meth c H locs 0 0 Q (F0 m 2 ls []) := by
    intro k
    induction k with
    | zero => intro v1 H locs ls h hP hD hS hl; rw [fX6_firstWaiting_L2] at h; exact o_n h
    | succ k ih =>
      intro v1 H locs ls h hP hD hS hl
      rw [fX6_firstWaiting_L2] at h
      refine lv_iload_n hx hb dX6_firstWaiting_2 rfl (lv_at hl 1 rfl) ?_
      refine lv_aload_n hx hb dX6_firstWaiting_3 rfl (lv_at hl 0 rfl) ?_
      refine va_get (D := G) (ci := 9) (v := .ref a1) (C := RX6) (T := TX6) (N := 12) hx hb hts hin6 hown hK.1 hP 0 rfl rfl 1 (by decide) hw0 (fun _ h9 => h9) rfl dX6_firstWaiting_4 ?_
      refine lv_bipush (v := 6) hx hb dX6_firstWaiting_7 (by decide) ?_
      obtain ⟨hin, h⟩ := o_g h
      refine va_iald hx hb hK.1 hP 1 0 rfl rfl hin dX6_firstWaiting_9 ?_
      refine lv_icmp_ge (tgt := 48) hx hb dX6_firstWaiting_10 (by decide) (fun hc => ?_) (fun hc => ?_)
      · have h := o_t h hc
        refine lv_iconst (v := (-1)) hx hb dX6_firstWaiting_48 (by decide) ?_
        obtain rfl := o_s h
        rw [hQ]
        exact end_i hx hb hr rfl hP hD hS dX6_firstWaiting_49 hlocks
      · have h := o_f h hc
        refine lv_aload_n hx hb dX6_firstWaiting_13 rfl (lv_at hl 0 rfl) ?_
        refine va_get (D := G) (ci := 9) (v := .ref a1) (C := RX6) (T := TX6) (N := 12) hx hb hts hin6 hown hK.1 hP 0 rfl rfl 1 (by decide) hw0 (fun _ h9 => h9) rfl dX6_firstWaiting_14 ?_
        refine lv_bipush (v := 72) hx hb dX6_firstWaiting_17 (by decide) ?_
        refine lv_iload_n hx hb dX6_firstWaiting_19 rfl (lv_at hl 1 rfl) ?_
        refine lv_iadd hx hb dX6_firstWaiting_20 ?_
        obtain ⟨hin, h⟩ := o_g h
        refine va_iald hx hb hK.1 hP 1 0 rfl rfl hin dX6_firstWaiting_21 ?_
        refine lv_istore_n (lv' := [(2, .int (sa (((72 : Int32) + v1)).toNatClampNeg)), (0, .ref a0), (1, .int v1)]) hx hb dX6_firstWaiting_22 rfl hl (by decide) rfl (fun ls hl => ?_)
        refine lv_aload_n hx hb dX6_firstWaiting_23 rfl (lv_at hl 1 rfl) ?_
        refine lv_iload_n hx hb dX6_firstWaiting_24 rfl (lv_at hl 0 rfl) ?_
        refine lv_iconst (v := 4) hx hb dX6_firstWaiting_25 (by decide) ?_
        obtain ⟨x1, ex1, h⟩ := o_b h
        refine call_iV (As := [.int (sa (((72 : Int32) + v1)).toNatClampNeg), .int (4 : Int32)]) (rest := []) (ws2 := [(a0, .inr (9, [.int th, .ref a1, .ref a2, .ref a3, .int sm, .ref a4, .int ln, .int nx, .int cd, .int dg, .int pw, .long hs])), (a1, .inl (cI, 378, .inl sa)), (a2, .inl (cI, 378, .inl asd)), (a3, .inl (cI, 1512, .inl sv)), (a4, .inl (cI, 120, .inl mt))]) ⟨hx, hb, hml, hown, hts⟩ (cX6_of_ok l G cI cG a0 a1 a2 a3 a4 th sa asd sv sm mt ln nx cd dg pw hs (sa (((72 : Int32) + v1)).toNatClampNeg) (4 : Int32) x1 ex1) (cwV 2 hts gX6_firstWaiting_X6_of rfl rfl rfl hdX6_of ⟨Nat.le_of_ble_eq_true rfl, Nat.le_of_ble_eq_true rfl⟩) hP hD hS hA hK 9 rfl rfl rfl [0, 1, 2, 3, 4] rfl rfl rfl rfl rfl rfl rfl rfl hl.1 (Nat.le_of_ble_eq_true rfl) dX6_firstWaiting_26 ⟨Nat.zero_le _, Nat.zero_le _⟩ (fun H locs hP hD hS => ?_)
        refine lv_if_ne (tgt := 42) hx hb dX6_firstWaiting_29 (by decide) (fun hc => ?_) (fun hc => ?_)
        · have h := o_f h hc
          refine lv_iinc (v := (v1 + 1)) (lv' := [(1, .int (v1 + 1)), (2, .int (sa (((72 : Int32) + v1)).toNatClampNeg)), (0, .ref a0)]) hx hb dX6_firstWaiting_42 hl (k := 2) rfl rfl (by decide) rfl (fun ls hl => ?_)
          refine lv_goto (tgt := 2) hx hb dX6_firstWaiting_45 (by decide) ?_
          exact ih (v1 + 1) _ _ _ h hP hD hS (lv_sub hl [2, 0] rfl)
        · have h := o_t h hc
          refine lv_aload_n hx hb dX6_firstWaiting_32 rfl (lv_at hl 1 rfl) ?_
          refine lv_iload_n hx hb dX6_firstWaiting_33 rfl (lv_at hl 0 rfl) ?_
          obtain ⟨x2, ex2, h⟩ := o_b h
          refine call_iV (As := [.int (sa (((72 : Int32) + v1)).toNatClampNeg)]) (rest := []) (ws2 := [(a0, .inr (9, [.int th, .ref a1, .ref a2, .ref a3, .int sm, .ref a4, .int ln, .int nx, .int cd, .int dg, .int pw, .long hs])), (a1, .inl (cI, 378, .inl sa)), (a2, .inl (cI, 378, .inl asd)), (a3, .inl (cI, 1512, .inl sv)), (a4, .inl (cI, 120, .inl mt))]) ⟨hx, hb, hml, hown, hts⟩ (cX6_stands_ok l G cI cG a0 a1 a2 a3 a4 th sa asd sv sm mt ln nx cd dg pw hs (sa (((72 : Int32) + v1)).toNatClampNeg) x2 ex2) (cwV 1 hts gX6_firstWaiting_X6_stands rfl rfl rfl hdX6_stands ⟨Nat.le_of_ble_eq_true rfl, Nat.le_of_ble_eq_true rfl⟩) hP hD hS hA hK 9 rfl rfl rfl [0, 1, 2, 3, 4] rfl rfl rfl rfl rfl rfl rfl rfl hl.1 (Nat.le_of_ble_eq_true rfl) dX6_firstWaiting_34 ⟨Nat.zero_le _, Nat.zero_le _⟩ (fun H locs hP hD hS => ?_)
          refine lv_if_eq (tgt := 42) hx hb dX6_firstWaiting_37 (by decide) (fun hc => ?_) (fun hc => ?_)
          · have h := o_t h hc
            refine lv_iinc (v := (v1 + 1)) (lv' := [(1, .int (v1 + 1)), (2, .int (sa (((72 : Int32) + v1)).toNatClampNeg)), (0, .ref a0)]) hx hb dX6_firstWaiting_42 hl (k := 2) rfl rfl (by decide) rfl (fun ls hl => ?_)
            refine lv_goto (tgt := 2) hx hb dX6_firstWaiting_45 (by decide) ?_
            exact ih (v1 + 1) _ _ _ h hP hD hS (lv_sub hl [2, 0] rfl)
          · have h := o_f h hc
            refine lv_iload_n hx hb dX6_firstWaiting_40 rfl (lv_at hl 0 rfl) ?_
            obtain rfl := o_s h
            rw [hQ]
            exact end_i hx hb hr rfl hP hD hS dX6_firstWaiting_41 hlocks
  have h := hf
  rw [fX6_firstWaiting] at h
  have hl := lv_entry ([.ref a0]) (n := 3) (Nat.le_of_ble_eq_true rfl)
  rw [lg_entry_eq]
  generalize (lg_sl ([.ref a0]) ++ List.replicate (3 - (lg_sl ([.ref a0])).length) Slot.unset).toArray = ls at hl ⊢
  have hl : lv_has ls 3 [(0, .ref a0)] := hl
  refine lv_iconst (v := 0) hx hb dX6_firstWaiting_0 (by decide) ?_
  refine lv_istore_n (lv' := [(1, .int (0 : Int32)), (0, .ref a0)]) hx hb dX6_firstWaiting_1 rfl hl (by decide) rfl (fun ls hl => ?_)
  exact L2 fu (0 : Int32) _ _ _ h hP hD hS (lv_sub hl [1, 0] rfl)
theorem hdX6_sufferPoison : yX6_sufferPoison.cls = RX6 ∧ yX6_sufferPoison.cls ≠ "java/lang/invoke/MethodHandle" ∧ yX6_sufferPoison.cls ≠ "java/lang/invoke/VarHandle" ∧ (parseMethodDescriptor yX6_sufferPoison.desc).map (fun d => d.parameters.length) = some 1 := by decide +kernel
set_option maxHeartbeats 4000000 in
set_option maxRecDepth 100000 in
theorem cX6_sufferPoison_ok (l : Launch) (G : va_G) (cI cG : ClassId) (a0 a1 a2 a3 a4 : Nat) (fu : Nat) (th : Int32) (sa : (Nat → Int32)) (asd : (Nat → Int32)) (sv : (Nat → Int32)) (sm : Int32) (mt : (Nat → Int32)) (ln : Int32) (nx : Int32) (cd : Int32) (dg : Int32) (pw : Int32) (hs : Int64) (p1 : Int32) (out : (Nat → Int32)) (hf : fX6_sufferPoison fu sa p1 = some out) : CV l G (tyz cI cG) yX6_sufferPoison wsX6_sufferPoison ({ frames := 4, cells := 0, slots := 0, locals := 91 } : Room) [.ref a0, .int p1] [(a0, .inr (9, [.int th, .ref a1, .ref a2, .ref a3, .int sm, .ref a4, .int ln, .int nx, .int cd, .int dg, .int pw, .long hs])), (a1, .inl (cI, 378, .inl sa)), (a2, .inl (cI, 378, .inl asd)), (a3, .inl (cI, 1512, .inl sv)), (a4, .inl (cI, 120, .inl mt))] [(a0, .inr (9, [.int th, .ref a1, .ref a2, .ref a3, .int sm, .ref a4, .int ln, .int nx, .int cd, .int dg, .int pw, .long hs])), (a1, .inl (cI, 378, .inl out)), (a2, .inl (cI, 378, .inl asd)), (a3, .inl (cI, 1512, .inl sv)), (a4, .inl (cI, 120, .inl mt))] := by
  intro sz
  refine Met.ofW (cc := cX6_sufferPoison) (maxL := 5) (ret := none) (by decide) rfl ?_
  intro p e s m args below meth c s₁ B hml hv
  obtain ⟨rfl, hsz, hP, hK, hD0⟩ := hv
  have hx := B.exec
  have hb := B.bytes
  have hr := B.returns
  have hts := atoms_spec (ws := wsX6_sufferPoison) B.pre
  have hown : s.vm.findClass RX6 = some m.cls := findClass_of_methodNamed B.named
  have hlocks := B.notSynchronized
  subst hsz
  have hD := hD0.self (sz := s.heap.size)
  generalize hAe : va_A [(a0, .inr (9, [.int th, .ref a1, .ref a2, .ref a3, .int sm, .ref a4, .int ln, .int nx, .int cd, .int dg, .int pw, .long hs])), (a1, .inl (cI, 378, .inl sa)), (a2, .inl (cI, 378, .inl asd)), (a3, .inl (cI, 1512, .inl sv)), (a4, .inl (cI, 120, .inl mt))] s.heap.size = A at hD ⊢
  have hA : ∀ q : Nat, s.heap.size ≤ q → A q := fun q h => by rw [← hAe]; exact Or.inr h
  have hS : va_S A s.heap s.heap [] := va_S.rf
  have hw0 := hts (.fieldLink RX6 7 "SpeedTurnsModel" "s" "[I") (List.mem_of_getElem? (i := 1) rfl)
  have hin6 : ∀ w ∈ u_ws RX6 TX6 12, w ∈ wsX6_sufferPoison := by decide +kernel
  show W p l e ({ frames := 4, cells := 0, slots := 0, locals := 91 } : Room) s m _ below meth c s.heap [] 0 0 _ _
  refine W_genQ (fun Q hQ => ?_)
  have L4 : ∀ (k : Nat) (sa : (Nat → Int32)) (v2 : Int32) (v3 : Int32) (H : Heap) (locs : List Loc) (ls : Array Slot), fX6_sufferPoison_L4 fu p1 k sa v2 v3 = some out → va_P G vwCl [(a0, .inr (9, [.int th, .ref a1, .ref a2, .ref a3, .int sm, .ref a4, .int ln, .int nx, .int cd, .int dg, .int pw, .long hs])), (a1, .inl (cI, 378, .inl sa)), (a2, .inl (cI, 378, .inl asd)), (a3, .inl (cI, 1512, .inl sv)), (a4, .inl (cI, 120, .inl mt))] H → va_D A [(a0, .inr (9, [.int th, .ref a1, .ref a2, .ref a3, .int sm, .ref a4, .int ln, .int nx, .int cd, .int dg, .int pw, .long hs])), (a1, .inl (cI, 378, .inl sa)), (a2, .inl (cI, 378, .inl asd)), (a3, .inl (cI, 1512, .inl sv)), (a4, .inl (cI, 120, .inl mt))] → va_S A s.heap H locs → lv_has ls 5 [(0, .ref a0), (1, .int p1), (2, .int v2), (3, .int v3)] → W p l e ({ frames := 4, cells := 0, slots := 0, locals := 91 } : Room) s m ([.ref a0, .int p1] : List Value).toArray below meth c H locs 0 0 Q (F0 m 4 ls []) := by
    intro k
    induction k with
    | zero => intro sa v2 v3 H locs ls h hP hD hS hl; rw [fX6_sufferPoison_L4] at h; exact o_n h
    | succ k ih =>
      intro sa v2 v3 H locs ls h hP hD hS hl
      rw [fX6_sufferPoison_L4] at h
      refine lv_iload_n hx hb dX6_sufferPoison_4 rfl (lv_at hl 3 rfl) ?_
      refine lv_aload_n hx hb dX6_sufferPoison_5 rfl (lv_at hl 0 rfl) ?_
      refine va_get (D := G) (ci := 9) (v := .ref a1) (C := RX6) (T := TX6) (N := 12) hx hb hts hin6 hown hK.1 hP 0 rfl rfl 1 (by decide) hw0 (fun _ h9 => h9) rfl dX6_sufferPoison_6 ?_
      refine lv_iconst (v := 1) hx hb dX6_sufferPoison_9 (by decide) ?_
      obtain ⟨hin, h⟩ := o_g h
      refine va_iald hx hb hK.1 hP 1 0 rfl rfl hin dX6_sufferPoison_10 ?_
      refine lv_icmp_ge (tgt := 110) hx hb dX6_sufferPoison_11 (by decide) (fun hc => ?_) (fun hc => ?_)
      · have h := o_t h hc
        obtain rfl := o_s h
        rw [hQ]
        exact end_v hx hb hr hP hD hS dX6_sufferPoison_110 hlocks
      · have h := o_f h hc
        refine lv_aload_n hx hb dX6_sufferPoison_14 rfl (lv_at hl 0 rfl) ?_
        refine lv_iload_n hx hb dX6_sufferPoison_15 rfl (lv_at hl 1 rfl) ?_
        obtain ⟨x1, ex1, h⟩ := o_b h
        refine call_iV (As := [.int p1]) (rest := []) (ws2 := [(a0, .inr (9, [.int th, .ref a1, .ref a2, .ref a3, .int sm, .ref a4, .int ln, .int nx, .int cd, .int dg, .int pw, .long hs])), (a1, .inl (cI, 378, .inl sa)), (a2, .inl (cI, 378, .inl asd)), (a3, .inl (cI, 1512, .inl sv)), (a4, .inl (cI, 120, .inl mt))]) ⟨hx, hb, hml, hown, hts⟩ (cX6_stands_ok l G cI cG a0 a1 a2 a3 a4 th sa asd sv sm mt ln nx cd dg pw hs p1 x1 ex1) (cwV 1 hts gX6_sufferPoison_X6_stands rfl rfl rfl hdX6_stands ⟨Nat.le_of_ble_eq_true rfl, Nat.le_of_ble_eq_true rfl⟩) hP hD hS hA hK 9 rfl rfl rfl [0, 1, 2, 3, 4] rfl rfl rfl rfl rfl rfl rfl rfl hl.1 (Nat.le_of_ble_eq_true rfl) dX6_sufferPoison_16 ⟨Nat.zero_le _, Nat.zero_le _⟩ (fun H locs hP hD hS => ?_)
        refine lv_if_eq (tgt := 110) hx hb dX6_sufferPoison_19 (by decide) (fun hc => ?_) (fun hc => ?_)
        · have h := o_t h hc
          obtain rfl := o_s h
          rw [hQ]
          exact end_v hx hb hr hP hD hS dX6_sufferPoison_110 hlocks
        · have h := o_f h hc
          refine lv_aload_n hx hb dX6_sufferPoison_22 rfl (lv_at hl 0 rfl) ?_
          refine lv_iload_n hx hb dX6_sufferPoison_23 rfl (lv_at hl 3 rfl) ?_
          refine lv_bipush (v := 7) hx hb dX6_sufferPoison_24 (by decide) ?_
          obtain ⟨x2, ex2, h⟩ := o_b h
          refine call_iV (As := [.int v3, .int (7 : Int32)]) (rest := []) (ws2 := [(a0, .inr (9, [.int th, .ref a1, .ref a2, .ref a3, .int sm, .ref a4, .int ln, .int nx, .int cd, .int dg, .int pw, .long hs])), (a1, .inl (cI, 378, .inl sa)), (a2, .inl (cI, 378, .inl asd)), (a3, .inl (cI, 1512, .inl sv)), (a4, .inl (cI, 120, .inl mt))]) ⟨hx, hb, hml, hown, hts⟩ (cX6_ofEffect_ok l G cI cG a0 a1 a2 a3 a4 th sa asd sv sm mt ln nx cd dg pw hs v3 (7 : Int32) x2 ex2) (cwV 2 hts gX6_sufferPoison_X6_ofEffect rfl rfl rfl hdX6_ofEffect ⟨Nat.le_of_ble_eq_true rfl, Nat.le_of_ble_eq_true rfl⟩) hP hD hS hA hK 9 rfl rfl rfl [0, 1, 2, 3, 4] rfl rfl rfl rfl rfl rfl rfl rfl hl.1 (Nat.le_of_ble_eq_true rfl) dX6_sufferPoison_26 ⟨Nat.zero_le _, Nat.zero_le _⟩ (fun H locs hP hD hS => ?_)
          refine lv_iload_n hx hb dX6_sufferPoison_29 rfl (lv_at hl 2 rfl) ?_
          refine lv_icmp_le (tgt := 56) hx hb dX6_sufferPoison_30 (by decide) (fun hc => ?_) (fun hc => ?_)
          · have h := o_t h hc
            refine lv_iconst (v := 0) hx hb dX6_sufferPoison_56 (by decide) ?_
            refine lv_istore (lv' := [(4, .int (0 : Int32)), (0, .ref a0), (1, .int p1), (2, .int v2), (3, .int v3)]) hx hb dX6_sufferPoison_57 hl (by decide) rfl (fun ls hl => ?_)
            refine lv_aload_n hx hb dX6_sufferPoison_59 rfl (lv_at hl 1 rfl) ?_
            refine lv_iload_n hx hb dX6_sufferPoison_60 rfl (lv_at hl 4 rfl) ?_
            refine lv_bipush (v := 7) hx hb dX6_sufferPoison_61 (by decide) ?_
            obtain ⟨x3, ex3, h⟩ := o_b h
            refine call_iV (As := [.int v3, .int (7 : Int32)]) (rest := []) (ws2 := [(a0, .inr (9, [.int th, .ref a1, .ref a2, .ref a3, .int sm, .ref a4, .int ln, .int nx, .int cd, .int dg, .int pw, .long hs])), (a1, .inl (cI, 378, .inl sa)), (a2, .inl (cI, 378, .inl asd)), (a3, .inl (cI, 1512, .inl sv)), (a4, .inl (cI, 120, .inl mt))]) ⟨hx, hb, hml, hown, hts⟩ (cX6_ofEffect_ok l G cI cG a0 a1 a2 a3 a4 th sa asd sv sm mt ln nx cd dg pw hs v3 (7 : Int32) x3 ex3) (cwV 2 hts gX6_sufferPoison_X6_ofEffect rfl rfl rfl hdX6_ofEffect ⟨Nat.le_of_ble_eq_true rfl, Nat.le_of_ble_eq_true rfl⟩) hP hD hS hA hK 9 rfl rfl rfl [0, 1, 2, 3, 4] rfl rfl rfl rfl rfl rfl rfl rfl hl.1 (Nat.le_of_ble_eq_true rfl) dX6_sufferPoison_63 ⟨Nat.zero_le _, Nat.zero_le _⟩ (fun H locs hP hD hS => ?_)
            refine lv_iload_n hx hb dX6_sufferPoison_66 rfl (lv_at hl 3 rfl) ?_
            refine lv_icmp_le (tgt := 80) hx hb dX6_sufferPoison_67 (by decide) (fun hc => ?_) (fun hc => ?_)
            · have h := o_t h hc
              refine lv_iload_n hx hb dX6_sufferPoison_80 rfl (lv_at hl 3 rfl) ?_
              refine lv_istore_n (lv' := [(2, .int v2), (4, .int (0 : Int32)), (0, .ref a0), (1, .int p1), (3, .int v3)]) hx hb dX6_sufferPoison_81 rfl hl (by decide) rfl (fun ls hl => ?_)
              refine lv_iload hx hb dX6_sufferPoison_82 (lv_at hl 1 rfl) ?_
              refine lv_if_eq (tgt := 104) hx hb dX6_sufferPoison_84 (by decide) (fun _ => ?_) (fun c => absurd (by decide) c)
              refine lv_iinc (v := (v3 + 1)) (lv' := [(3, .int (v3 + 1)), (2, .int v2), (4, .int (0 : Int32)), (0, .ref a0), (1, .int p1)]) hx hb dX6_sufferPoison_104 hl (k := 4) rfl rfl (by decide) rfl (fun ls hl => ?_)
              refine lv_goto (tgt := 4) hx hb dX6_sufferPoison_107 (by decide) ?_
              exact ih sa v2 (v3 + 1) _ _ _ h hP hD hS (lv_sub hl [3, 4, 1, 0] rfl)
            · have h := o_f h hc
              refine lv_aload_n hx hb dX6_sufferPoison_70 rfl (lv_at hl 1 rfl) ?_
              refine lv_iload_n hx hb dX6_sufferPoison_71 rfl (lv_at hl 4 rfl) ?_
              refine lv_bipush (v := 7) hx hb dX6_sufferPoison_72 (by decide) ?_
              obtain ⟨x4, ex4, h⟩ := o_b h
              refine call_iV (As := [.int v3, .int (7 : Int32)]) (rest := []) (ws2 := [(a0, .inr (9, [.int th, .ref a1, .ref a2, .ref a3, .int sm, .ref a4, .int ln, .int nx, .int cd, .int dg, .int pw, .long hs])), (a1, .inl (cI, 378, .inl sa)), (a2, .inl (cI, 378, .inl asd)), (a3, .inl (cI, 1512, .inl sv)), (a4, .inl (cI, 120, .inl mt))]) ⟨hx, hb, hml, hown, hts⟩ (cX6_ofEffect_ok l G cI cG a0 a1 a2 a3 a4 th sa asd sv sm mt ln nx cd dg pw hs v3 (7 : Int32) x4 ex4) (cwV 2 hts gX6_sufferPoison_X6_ofEffect rfl rfl rfl hdX6_ofEffect ⟨Nat.le_of_ble_eq_true rfl, Nat.le_of_ble_eq_true rfl⟩) hP hD hS hA hK 9 rfl rfl rfl [0, 1, 2, 3, 4] rfl rfl rfl rfl rfl rfl rfl rfl hl.1 (Nat.le_of_ble_eq_true rfl) dX6_sufferPoison_74 ⟨Nat.zero_le _, Nat.zero_le _⟩ (fun H locs hP hD hS => ?_)
              refine lv_goto (tgt := 81) hx hb dX6_sufferPoison_77 (by decide) ?_
              refine lv_istore_n (lv' := [(2, .int x4), (4, .int (0 : Int32)), (0, .ref a0), (1, .int p1), (3, .int v3)]) hx hb dX6_sufferPoison_81 rfl hl (by decide) rfl (fun ls hl => ?_)
              refine lv_iload hx hb dX6_sufferPoison_82 (lv_at hl 1 rfl) ?_
              refine lv_if_eq (tgt := 104) hx hb dX6_sufferPoison_84 (by decide) (fun _ => ?_) (fun c => absurd (by decide) c)
              refine lv_iinc (v := (v3 + 1)) (lv' := [(3, .int (v3 + 1)), (2, .int x4), (4, .int (0 : Int32)), (0, .ref a0), (1, .int p1)]) hx hb dX6_sufferPoison_104 hl (k := 4) rfl rfl (by decide) rfl (fun ls hl => ?_)
              refine lv_goto (tgt := 4) hx hb dX6_sufferPoison_107 (by decide) ?_
              exact ih sa x4 (v3 + 1) _ _ _ h hP hD hS (lv_sub hl [3, 4, 1, 0] rfl)
          · have h := o_f h hc
            refine lv_aload_n hx hb dX6_sufferPoison_33 rfl (lv_at hl 0 rfl) ?_
            refine lv_iload_n hx hb dX6_sufferPoison_34 rfl (lv_at hl 3 rfl) ?_
            refine lv_iconst (v := 0) hx hb dX6_sufferPoison_35 (by decide) ?_
            obtain ⟨x5, ex5, h⟩ := o_b h
            refine call_iV (As := [.int v3, .int (0 : Int32)]) (rest := []) (ws2 := [(a0, .inr (9, [.int th, .ref a1, .ref a2, .ref a3, .int sm, .ref a4, .int ln, .int nx, .int cd, .int dg, .int pw, .long hs])), (a1, .inl (cI, 378, .inl sa)), (a2, .inl (cI, 378, .inl asd)), (a3, .inl (cI, 1512, .inl sv)), (a4, .inl (cI, 120, .inl mt))]) ⟨hx, hb, hml, hown, hts⟩ (cX6_ofEffect_ok l G cI cG a0 a1 a2 a3 a4 th sa asd sv sm mt ln nx cd dg pw hs v3 (0 : Int32) x5 ex5) (cwV 2 hts gX6_sufferPoison_X6_ofEffect rfl rfl rfl hdX6_ofEffect ⟨Nat.le_of_ble_eq_true rfl, Nat.le_of_ble_eq_true rfl⟩) hP hD hS hA hK 9 rfl rfl rfl [0, 1, 2, 3, 4] rfl rfl rfl rfl rfl rfl rfl rfl hl.1 (Nat.le_of_ble_eq_true rfl) dX6_sufferPoison_36 ⟨Nat.zero_le _, Nat.zero_le _⟩ (fun H locs hP hD hS => ?_)
            refine lv_if_ne (tgt := 56) hx hb dX6_sufferPoison_39 (by decide) (fun hc => ?_) (fun hc => ?_)
            · have h := o_f h hc
              refine lv_iconst (v := 0) hx hb dX6_sufferPoison_56 (by decide) ?_
              refine lv_istore (lv' := [(4, .int (0 : Int32)), (0, .ref a0), (1, .int p1), (2, .int v2), (3, .int v3)]) hx hb dX6_sufferPoison_57 hl (by decide) rfl (fun ls hl => ?_)
              refine lv_aload_n hx hb dX6_sufferPoison_59 rfl (lv_at hl 1 rfl) ?_
              refine lv_iload_n hx hb dX6_sufferPoison_60 rfl (lv_at hl 4 rfl) ?_
              refine lv_bipush (v := 7) hx hb dX6_sufferPoison_61 (by decide) ?_
              obtain ⟨x6, ex6, h⟩ := o_b h
              refine call_iV (As := [.int v3, .int (7 : Int32)]) (rest := []) (ws2 := [(a0, .inr (9, [.int th, .ref a1, .ref a2, .ref a3, .int sm, .ref a4, .int ln, .int nx, .int cd, .int dg, .int pw, .long hs])), (a1, .inl (cI, 378, .inl sa)), (a2, .inl (cI, 378, .inl asd)), (a3, .inl (cI, 1512, .inl sv)), (a4, .inl (cI, 120, .inl mt))]) ⟨hx, hb, hml, hown, hts⟩ (cX6_ofEffect_ok l G cI cG a0 a1 a2 a3 a4 th sa asd sv sm mt ln nx cd dg pw hs v3 (7 : Int32) x6 ex6) (cwV 2 hts gX6_sufferPoison_X6_ofEffect rfl rfl rfl hdX6_ofEffect ⟨Nat.le_of_ble_eq_true rfl, Nat.le_of_ble_eq_true rfl⟩) hP hD hS hA hK 9 rfl rfl rfl [0, 1, 2, 3, 4] rfl rfl rfl rfl rfl rfl rfl rfl hl.1 (Nat.le_of_ble_eq_true rfl) dX6_sufferPoison_63 ⟨Nat.zero_le _, Nat.zero_le _⟩ (fun H locs hP hD hS => ?_)
              refine lv_iload_n hx hb dX6_sufferPoison_66 rfl (lv_at hl 3 rfl) ?_
              refine lv_icmp_le (tgt := 80) hx hb dX6_sufferPoison_67 (by decide) (fun hc => ?_) (fun hc => ?_)
              · have h := o_t h hc
                refine lv_iload_n hx hb dX6_sufferPoison_80 rfl (lv_at hl 3 rfl) ?_
                refine lv_istore_n (lv' := [(2, .int v2), (4, .int (0 : Int32)), (0, .ref a0), (1, .int p1), (3, .int v3)]) hx hb dX6_sufferPoison_81 rfl hl (by decide) rfl (fun ls hl => ?_)
                refine lv_iload hx hb dX6_sufferPoison_82 (lv_at hl 1 rfl) ?_
                refine lv_if_eq (tgt := 104) hx hb dX6_sufferPoison_84 (by decide) (fun _ => ?_) (fun c => absurd (by decide) c)
                refine lv_iinc (v := (v3 + 1)) (lv' := [(3, .int (v3 + 1)), (2, .int v2), (4, .int (0 : Int32)), (0, .ref a0), (1, .int p1)]) hx hb dX6_sufferPoison_104 hl (k := 4) rfl rfl (by decide) rfl (fun ls hl => ?_)
                refine lv_goto (tgt := 4) hx hb dX6_sufferPoison_107 (by decide) ?_
                exact ih sa v2 (v3 + 1) _ _ _ h hP hD hS (lv_sub hl [3, 4, 1, 0] rfl)
              · have h := o_f h hc
                refine lv_aload_n hx hb dX6_sufferPoison_70 rfl (lv_at hl 1 rfl) ?_
                refine lv_iload_n hx hb dX6_sufferPoison_71 rfl (lv_at hl 4 rfl) ?_
                refine lv_bipush (v := 7) hx hb dX6_sufferPoison_72 (by decide) ?_
                obtain ⟨x7, ex7, h⟩ := o_b h
                refine call_iV (As := [.int v3, .int (7 : Int32)]) (rest := []) (ws2 := [(a0, .inr (9, [.int th, .ref a1, .ref a2, .ref a3, .int sm, .ref a4, .int ln, .int nx, .int cd, .int dg, .int pw, .long hs])), (a1, .inl (cI, 378, .inl sa)), (a2, .inl (cI, 378, .inl asd)), (a3, .inl (cI, 1512, .inl sv)), (a4, .inl (cI, 120, .inl mt))]) ⟨hx, hb, hml, hown, hts⟩ (cX6_ofEffect_ok l G cI cG a0 a1 a2 a3 a4 th sa asd sv sm mt ln nx cd dg pw hs v3 (7 : Int32) x7 ex7) (cwV 2 hts gX6_sufferPoison_X6_ofEffect rfl rfl rfl hdX6_ofEffect ⟨Nat.le_of_ble_eq_true rfl, Nat.le_of_ble_eq_true rfl⟩) hP hD hS hA hK 9 rfl rfl rfl [0, 1, 2, 3, 4] rfl rfl rfl rfl rfl rfl rfl rfl hl.1 (Nat.le_of_ble_eq_true rfl) dX6_sufferPoison_74 ⟨Nat.zero_le _, Nat.zero_le _⟩ (fun H locs hP hD hS => ?_)
                refine lv_goto (tgt := 81) hx hb dX6_sufferPoison_77 (by decide) ?_
                refine lv_istore_n (lv' := [(2, .int x7), (4, .int (0 : Int32)), (0, .ref a0), (1, .int p1), (3, .int v3)]) hx hb dX6_sufferPoison_81 rfl hl (by decide) rfl (fun ls hl => ?_)
                refine lv_iload hx hb dX6_sufferPoison_82 (lv_at hl 1 rfl) ?_
                refine lv_if_eq (tgt := 104) hx hb dX6_sufferPoison_84 (by decide) (fun _ => ?_) (fun c => absurd (by decide) c)
                refine lv_iinc (v := (v3 + 1)) (lv' := [(3, .int (v3 + 1)), (2, .int x7), (4, .int (0 : Int32)), (0, .ref a0), (1, .int p1)]) hx hb dX6_sufferPoison_104 hl (k := 4) rfl rfl (by decide) rfl (fun ls hl => ?_)
                refine lv_goto (tgt := 4) hx hb dX6_sufferPoison_107 (by decide) ?_
                exact ih sa x7 (v3 + 1) _ _ _ h hP hD hS (lv_sub hl [3, 4, 1, 0] rfl)
            · have h := o_t h hc
              refine lv_aload_n hx hb dX6_sufferPoison_42 rfl (lv_at hl 0 rfl) ?_
              refine lv_iload_n hx hb dX6_sufferPoison_43 rfl (lv_at hl 3 rfl) ?_
              refine lv_iconst (v := 3) hx hb dX6_sufferPoison_44 (by decide) ?_
              obtain ⟨x8, ex8, h⟩ := o_b h
              refine call_iV (As := [.int v3, .int (3 : Int32)]) (rest := []) (ws2 := [(a0, .inr (9, [.int th, .ref a1, .ref a2, .ref a3, .int sm, .ref a4, .int ln, .int nx, .int cd, .int dg, .int pw, .long hs])), (a1, .inl (cI, 378, .inl sa)), (a2, .inl (cI, 378, .inl asd)), (a3, .inl (cI, 1512, .inl sv)), (a4, .inl (cI, 120, .inl mt))]) ⟨hx, hb, hml, hown, hts⟩ (cX6_ofEffect_ok l G cI cG a0 a1 a2 a3 a4 th sa asd sv sm mt ln nx cd dg pw hs v3 (3 : Int32) x8 ex8) (cwV 2 hts gX6_sufferPoison_X6_ofEffect rfl rfl rfl hdX6_ofEffect ⟨Nat.le_of_ble_eq_true rfl, Nat.le_of_ble_eq_true rfl⟩) hP hD hS hA hK 9 rfl rfl rfl [0, 1, 2, 3, 4] rfl rfl rfl rfl rfl rfl rfl rfl hl.1 (Nat.le_of_ble_eq_true rfl) dX6_sufferPoison_45 ⟨Nat.zero_le _, Nat.zero_le _⟩ (fun H locs hP hD hS => ?_)
              refine lv_iload_n hx hb dX6_sufferPoison_48 rfl (lv_at hl 1 rfl) ?_
              refine lv_icmp_ne (tgt := 56) hx hb dX6_sufferPoison_49 (by decide) (fun hc => ?_) (fun hc => ?_)
              · have h := o_f h hc
                refine lv_iconst (v := 0) hx hb dX6_sufferPoison_56 (by decide) ?_
                refine lv_istore (lv' := [(4, .int (0 : Int32)), (0, .ref a0), (1, .int p1), (2, .int v2), (3, .int v3)]) hx hb dX6_sufferPoison_57 hl (by decide) rfl (fun ls hl => ?_)
                refine lv_aload_n hx hb dX6_sufferPoison_59 rfl (lv_at hl 1 rfl) ?_
                refine lv_iload_n hx hb dX6_sufferPoison_60 rfl (lv_at hl 4 rfl) ?_
                refine lv_bipush (v := 7) hx hb dX6_sufferPoison_61 (by decide) ?_
                obtain ⟨x9, ex9, h⟩ := o_b h
                refine call_iV (As := [.int v3, .int (7 : Int32)]) (rest := []) (ws2 := [(a0, .inr (9, [.int th, .ref a1, .ref a2, .ref a3, .int sm, .ref a4, .int ln, .int nx, .int cd, .int dg, .int pw, .long hs])), (a1, .inl (cI, 378, .inl sa)), (a2, .inl (cI, 378, .inl asd)), (a3, .inl (cI, 1512, .inl sv)), (a4, .inl (cI, 120, .inl mt))]) ⟨hx, hb, hml, hown, hts⟩ (cX6_ofEffect_ok l G cI cG a0 a1 a2 a3 a4 th sa asd sv sm mt ln nx cd dg pw hs v3 (7 : Int32) x9 ex9) (cwV 2 hts gX6_sufferPoison_X6_ofEffect rfl rfl rfl hdX6_ofEffect ⟨Nat.le_of_ble_eq_true rfl, Nat.le_of_ble_eq_true rfl⟩) hP hD hS hA hK 9 rfl rfl rfl [0, 1, 2, 3, 4] rfl rfl rfl rfl rfl rfl rfl rfl hl.1 (Nat.le_of_ble_eq_true rfl) dX6_sufferPoison_63 ⟨Nat.zero_le _, Nat.zero_le _⟩ (fun H locs hP hD hS => ?_)
                refine lv_iload_n hx hb dX6_sufferPoison_66 rfl (lv_at hl 3 rfl) ?_
                refine lv_icmp_le (tgt := 80) hx hb dX6_sufferPoison_67 (by decide) (fun hc => ?_) (fun hc => ?_)
                · have h := o_t h hc
                  refine lv_iload_n hx hb dX6_sufferPoison_80 rfl (lv_at hl 3 rfl) ?_
                  refine lv_istore_n (lv' := [(2, .int v2), (4, .int (0 : Int32)), (0, .ref a0), (1, .int p1), (3, .int v3)]) hx hb dX6_sufferPoison_81 rfl hl (by decide) rfl (fun ls hl => ?_)
                  refine lv_iload hx hb dX6_sufferPoison_82 (lv_at hl 1 rfl) ?_
                  refine lv_if_eq (tgt := 104) hx hb dX6_sufferPoison_84 (by decide) (fun _ => ?_) (fun c => absurd (by decide) c)
                  refine lv_iinc (v := (v3 + 1)) (lv' := [(3, .int (v3 + 1)), (2, .int v2), (4, .int (0 : Int32)), (0, .ref a0), (1, .int p1)]) hx hb dX6_sufferPoison_104 hl (k := 4) rfl rfl (by decide) rfl (fun ls hl => ?_)
                  refine lv_goto (tgt := 4) hx hb dX6_sufferPoison_107 (by decide) ?_
                  exact ih sa v2 (v3 + 1) _ _ _ h hP hD hS (lv_sub hl [3, 4, 1, 0] rfl)
                · have h := o_f h hc
                  refine lv_aload_n hx hb dX6_sufferPoison_70 rfl (lv_at hl 1 rfl) ?_
                  refine lv_iload_n hx hb dX6_sufferPoison_71 rfl (lv_at hl 4 rfl) ?_
                  refine lv_bipush (v := 7) hx hb dX6_sufferPoison_72 (by decide) ?_
                  obtain ⟨x10, ex10, h⟩ := o_b h
                  refine call_iV (As := [.int v3, .int (7 : Int32)]) (rest := []) (ws2 := [(a0, .inr (9, [.int th, .ref a1, .ref a2, .ref a3, .int sm, .ref a4, .int ln, .int nx, .int cd, .int dg, .int pw, .long hs])), (a1, .inl (cI, 378, .inl sa)), (a2, .inl (cI, 378, .inl asd)), (a3, .inl (cI, 1512, .inl sv)), (a4, .inl (cI, 120, .inl mt))]) ⟨hx, hb, hml, hown, hts⟩ (cX6_ofEffect_ok l G cI cG a0 a1 a2 a3 a4 th sa asd sv sm mt ln nx cd dg pw hs v3 (7 : Int32) x10 ex10) (cwV 2 hts gX6_sufferPoison_X6_ofEffect rfl rfl rfl hdX6_ofEffect ⟨Nat.le_of_ble_eq_true rfl, Nat.le_of_ble_eq_true rfl⟩) hP hD hS hA hK 9 rfl rfl rfl [0, 1, 2, 3, 4] rfl rfl rfl rfl rfl rfl rfl rfl hl.1 (Nat.le_of_ble_eq_true rfl) dX6_sufferPoison_74 ⟨Nat.zero_le _, Nat.zero_le _⟩ (fun H locs hP hD hS => ?_)
                  refine lv_goto (tgt := 81) hx hb dX6_sufferPoison_77 (by decide) ?_
                  refine lv_istore_n (lv' := [(2, .int x10), (4, .int (0 : Int32)), (0, .ref a0), (1, .int p1), (3, .int v3)]) hx hb dX6_sufferPoison_81 rfl hl (by decide) rfl (fun ls hl => ?_)
                  refine lv_iload hx hb dX6_sufferPoison_82 (lv_at hl 1 rfl) ?_
                  refine lv_if_eq (tgt := 104) hx hb dX6_sufferPoison_84 (by decide) (fun _ => ?_) (fun c => absurd (by decide) c)
                  refine lv_iinc (v := (v3 + 1)) (lv' := [(3, .int (v3 + 1)), (2, .int x10), (4, .int (0 : Int32)), (0, .ref a0), (1, .int p1)]) hx hb dX6_sufferPoison_104 hl (k := 4) rfl rfl (by decide) rfl (fun ls hl => ?_)
                  refine lv_goto (tgt := 4) hx hb dX6_sufferPoison_107 (by decide) ?_
                  exact ih sa x10 (v3 + 1) _ _ _ h hP hD hS (lv_sub hl [3, 4, 1, 0] rfl)
              · have h := o_t h hc
                refine lv_iconst (v := 1) hx hb dX6_sufferPoison_52 (by decide) ?_
                refine lv_goto (tgt := 57) hx hb dX6_sufferPoison_53 (by decide) ?_
                refine lv_istore (lv' := [(4, .int (1 : Int32)), (0, .ref a0), (1, .int p1), (2, .int v2), (3, .int v3)]) hx hb dX6_sufferPoison_57 hl (by decide) rfl (fun ls hl => ?_)
                refine lv_aload_n hx hb dX6_sufferPoison_59 rfl (lv_at hl 1 rfl) ?_
                refine lv_iload_n hx hb dX6_sufferPoison_60 rfl (lv_at hl 4 rfl) ?_
                refine lv_bipush (v := 7) hx hb dX6_sufferPoison_61 (by decide) ?_
                obtain ⟨x11, ex11, h⟩ := o_b h
                refine call_iV (As := [.int v3, .int (7 : Int32)]) (rest := []) (ws2 := [(a0, .inr (9, [.int th, .ref a1, .ref a2, .ref a3, .int sm, .ref a4, .int ln, .int nx, .int cd, .int dg, .int pw, .long hs])), (a1, .inl (cI, 378, .inl sa)), (a2, .inl (cI, 378, .inl asd)), (a3, .inl (cI, 1512, .inl sv)), (a4, .inl (cI, 120, .inl mt))]) ⟨hx, hb, hml, hown, hts⟩ (cX6_ofEffect_ok l G cI cG a0 a1 a2 a3 a4 th sa asd sv sm mt ln nx cd dg pw hs v3 (7 : Int32) x11 ex11) (cwV 2 hts gX6_sufferPoison_X6_ofEffect rfl rfl rfl hdX6_ofEffect ⟨Nat.le_of_ble_eq_true rfl, Nat.le_of_ble_eq_true rfl⟩) hP hD hS hA hK 9 rfl rfl rfl [0, 1, 2, 3, 4] rfl rfl rfl rfl rfl rfl rfl rfl hl.1 (Nat.le_of_ble_eq_true rfl) dX6_sufferPoison_63 ⟨Nat.zero_le _, Nat.zero_le _⟩ (fun H locs hP hD hS => ?_)
                refine lv_iload_n hx hb dX6_sufferPoison_66 rfl (lv_at hl 3 rfl) ?_
                refine lv_icmp_le (tgt := 80) hx hb dX6_sufferPoison_67 (by decide) (fun hc => ?_) (fun hc => ?_)
                · have h := o_t h hc
                  refine lv_iload_n hx hb dX6_sufferPoison_80 rfl (lv_at hl 3 rfl) ?_
                  refine lv_istore_n (lv' := [(2, .int v2), (4, .int (1 : Int32)), (0, .ref a0), (1, .int p1), (3, .int v3)]) hx hb dX6_sufferPoison_81 rfl hl (by decide) rfl (fun ls hl => ?_)
                  refine lv_iload hx hb dX6_sufferPoison_82 (lv_at hl 1 rfl) ?_
                  refine lv_if_eq (tgt := 104) hx hb dX6_sufferPoison_84 (by decide) (fun c => absurd c (by decide)) (fun _ => ?_)
                  refine lv_aload_n hx hb dX6_sufferPoison_87 rfl (lv_at hl 2 rfl) ?_
                  refine lv_iload_n hx hb dX6_sufferPoison_88 rfl (lv_at hl 3 rfl) ?_
                  refine lv_aload_n hx hb dX6_sufferPoison_89 rfl (lv_at hl 2 rfl) ?_
                  refine lv_iload_n hx hb dX6_sufferPoison_90 rfl (lv_at hl 4 rfl) ?_
                  refine lv_iconst (v := 1) hx hb dX6_sufferPoison_91 (by decide) ?_
                  obtain ⟨x12, ex12, h⟩ := o_b h
                  refine call_iV (As := [.int v3, .int (1 : Int32)]) (rest := [.int p1, .ref a0]) (ws2 := [(a0, .inr (9, [.int th, .ref a1, .ref a2, .ref a3, .int sm, .ref a4, .int ln, .int nx, .int cd, .int dg, .int pw, .long hs])), (a1, .inl (cI, 378, .inl sa)), (a2, .inl (cI, 378, .inl asd)), (a3, .inl (cI, 1512, .inl sv)), (a4, .inl (cI, 120, .inl mt))]) ⟨hx, hb, hml, hown, hts⟩ (cX6_ofEffect_ok l G cI cG a0 a1 a2 a3 a4 th sa asd sv sm mt ln nx cd dg pw hs v3 (1 : Int32) x12 ex12) (cwV 2 hts gX6_sufferPoison_X6_ofEffect rfl rfl rfl hdX6_ofEffect ⟨Nat.le_of_ble_eq_true rfl, Nat.le_of_ble_eq_true rfl⟩) hP hD hS hA hK 9 rfl rfl rfl [0, 1, 2, 3, 4] rfl rfl rfl rfl rfl rfl rfl rfl hl.1 (Nat.le_of_ble_eq_true rfl) dX6_sufferPoison_92 ⟨Nat.zero_le _, Nat.zero_le _⟩ (fun H locs hP hD hS => ?_)
                  refine lv_iconst (v := 1) hx hb dX6_sufferPoison_95 (by decide) ?_
                  obtain ⟨x13, ex13, h⟩ := o_b h
                  refine call_vV (As := [.int p1, .int x12, .int (1 : Int32)]) (rest := []) (ws2 := [(a0, .inr (9, [.int th, .ref a1, .ref a2, .ref a3, .int sm, .ref a4, .int ln, .int nx, .int cd, .int dg, .int pw, .long hs])), (a1, .inl (cI, 378, .inl x13)), (a2, .inl (cI, 378, .inl asd)), (a3, .inl (cI, 1512, .inl sv)), (a4, .inl (cI, 120, .inl mt))]) ⟨hx, hb, hml, hown, hts⟩ (cX6_harm_ok l G cI cG a0 a1 a2 a3 a4 fu th sa asd sv sm mt ln nx cd dg pw hs p1 x12 true x13 ex13) (cwV 3 hts gX6_sufferPoison_X6_harm rfl rfl rfl hdX6_harm ⟨Nat.le_of_ble_eq_true rfl, Nat.le_of_ble_eq_true rfl⟩) hP hD hS hA hK 9 rfl rfl rfl [0, 1, 2, 3, 4] rfl rfl rfl rfl rfl rfl rfl rfl hl.1 (Nat.le_of_ble_eq_true rfl) dX6_sufferPoison_96 ⟨Nat.zero_le _, Nat.zero_le _⟩ (fun H locs hP hD hS => ?_)
                  refine lv_iconst (v := 0) hx hb dX6_sufferPoison_99 (by decide) ?_
                  refine lv_istore_n (lv' := [(3, .int (0 : Int32)), (2, .int v2), (4, .int (1 : Int32)), (0, .ref a0), (1, .int p1)]) hx hb dX6_sufferPoison_100 rfl hl (by decide) rfl (fun ls hl => ?_)
                  refine lv_goto (tgt := 107) hx hb dX6_sufferPoison_101 (by decide) ?_
                  refine lv_goto (tgt := 4) hx hb dX6_sufferPoison_107 (by decide) ?_
                  exact ih x13 v2 (0 : Int32) _ _ _ h hP hD hS (lv_sub hl [3, 4, 1, 0] rfl)
                · have h := o_f h hc
                  refine lv_aload_n hx hb dX6_sufferPoison_70 rfl (lv_at hl 1 rfl) ?_
                  refine lv_iload_n hx hb dX6_sufferPoison_71 rfl (lv_at hl 4 rfl) ?_
                  refine lv_bipush (v := 7) hx hb dX6_sufferPoison_72 (by decide) ?_
                  obtain ⟨x14, ex14, h⟩ := o_b h
                  refine call_iV (As := [.int v3, .int (7 : Int32)]) (rest := []) (ws2 := [(a0, .inr (9, [.int th, .ref a1, .ref a2, .ref a3, .int sm, .ref a4, .int ln, .int nx, .int cd, .int dg, .int pw, .long hs])), (a1, .inl (cI, 378, .inl sa)), (a2, .inl (cI, 378, .inl asd)), (a3, .inl (cI, 1512, .inl sv)), (a4, .inl (cI, 120, .inl mt))]) ⟨hx, hb, hml, hown, hts⟩ (cX6_ofEffect_ok l G cI cG a0 a1 a2 a3 a4 th sa asd sv sm mt ln nx cd dg pw hs v3 (7 : Int32) x14 ex14) (cwV 2 hts gX6_sufferPoison_X6_ofEffect rfl rfl rfl hdX6_ofEffect ⟨Nat.le_of_ble_eq_true rfl, Nat.le_of_ble_eq_true rfl⟩) hP hD hS hA hK 9 rfl rfl rfl [0, 1, 2, 3, 4] rfl rfl rfl rfl rfl rfl rfl rfl hl.1 (Nat.le_of_ble_eq_true rfl) dX6_sufferPoison_74 ⟨Nat.zero_le _, Nat.zero_le _⟩ (fun H locs hP hD hS => ?_)
                  refine lv_goto (tgt := 81) hx hb dX6_sufferPoison_77 (by decide) ?_
                  refine lv_istore_n (lv' := [(2, .int x14), (4, .int (1 : Int32)), (0, .ref a0), (1, .int p1), (3, .int v3)]) hx hb dX6_sufferPoison_81 rfl hl (by decide) rfl (fun ls hl => ?_)
                  refine lv_iload hx hb dX6_sufferPoison_82 (lv_at hl 1 rfl) ?_
                  refine lv_if_eq (tgt := 104) hx hb dX6_sufferPoison_84 (by decide) (fun c => absurd c (by decide)) (fun _ => ?_)
                  refine lv_aload_n hx hb dX6_sufferPoison_87 rfl (lv_at hl 2 rfl) ?_
                  refine lv_iload_n hx hb dX6_sufferPoison_88 rfl (lv_at hl 3 rfl) ?_
                  refine lv_aload_n hx hb dX6_sufferPoison_89 rfl (lv_at hl 2 rfl) ?_
                  refine lv_iload_n hx hb dX6_sufferPoison_90 rfl (lv_at hl 4 rfl) ?_
                  refine lv_iconst (v := 1) hx hb dX6_sufferPoison_91 (by decide) ?_
                  obtain ⟨x15, ex15, h⟩ := o_b h
                  refine call_iV (As := [.int v3, .int (1 : Int32)]) (rest := [.int p1, .ref a0]) (ws2 := [(a0, .inr (9, [.int th, .ref a1, .ref a2, .ref a3, .int sm, .ref a4, .int ln, .int nx, .int cd, .int dg, .int pw, .long hs])), (a1, .inl (cI, 378, .inl sa)), (a2, .inl (cI, 378, .inl asd)), (a3, .inl (cI, 1512, .inl sv)), (a4, .inl (cI, 120, .inl mt))]) ⟨hx, hb, hml, hown, hts⟩ (cX6_ofEffect_ok l G cI cG a0 a1 a2 a3 a4 th sa asd sv sm mt ln nx cd dg pw hs v3 (1 : Int32) x15 ex15) (cwV 2 hts gX6_sufferPoison_X6_ofEffect rfl rfl rfl hdX6_ofEffect ⟨Nat.le_of_ble_eq_true rfl, Nat.le_of_ble_eq_true rfl⟩) hP hD hS hA hK 9 rfl rfl rfl [0, 1, 2, 3, 4] rfl rfl rfl rfl rfl rfl rfl rfl hl.1 (Nat.le_of_ble_eq_true rfl) dX6_sufferPoison_92 ⟨Nat.zero_le _, Nat.zero_le _⟩ (fun H locs hP hD hS => ?_)
                  refine lv_iconst (v := 1) hx hb dX6_sufferPoison_95 (by decide) ?_
                  obtain ⟨x16, ex16, h⟩ := o_b h
                  refine call_vV (As := [.int p1, .int x15, .int (1 : Int32)]) (rest := []) (ws2 := [(a0, .inr (9, [.int th, .ref a1, .ref a2, .ref a3, .int sm, .ref a4, .int ln, .int nx, .int cd, .int dg, .int pw, .long hs])), (a1, .inl (cI, 378, .inl x16)), (a2, .inl (cI, 378, .inl asd)), (a3, .inl (cI, 1512, .inl sv)), (a4, .inl (cI, 120, .inl mt))]) ⟨hx, hb, hml, hown, hts⟩ (cX6_harm_ok l G cI cG a0 a1 a2 a3 a4 fu th sa asd sv sm mt ln nx cd dg pw hs p1 x15 true x16 ex16) (cwV 3 hts gX6_sufferPoison_X6_harm rfl rfl rfl hdX6_harm ⟨Nat.le_of_ble_eq_true rfl, Nat.le_of_ble_eq_true rfl⟩) hP hD hS hA hK 9 rfl rfl rfl [0, 1, 2, 3, 4] rfl rfl rfl rfl rfl rfl rfl rfl hl.1 (Nat.le_of_ble_eq_true rfl) dX6_sufferPoison_96 ⟨Nat.zero_le _, Nat.zero_le _⟩ (fun H locs hP hD hS => ?_)
                  refine lv_iconst (v := 0) hx hb dX6_sufferPoison_99 (by decide) ?_
                  refine lv_istore_n (lv' := [(3, .int (0 : Int32)), (2, .int x14), (4, .int (1 : Int32)), (0, .ref a0), (1, .int p1)]) hx hb dX6_sufferPoison_100 rfl hl (by decide) rfl (fun ls hl => ?_)
                  refine lv_goto (tgt := 107) hx hb dX6_sufferPoison_101 (by decide) ?_
                  refine lv_goto (tgt := 4) hx hb dX6_sufferPoison_107 (by decide) ?_
                  exact ih x16 x14 (0 : Int32) _ _ _ h hP hD hS (lv_sub hl [3, 4, 1, 0] rfl)
  have h := hf
  rw [fX6_sufferPoison] at h
  have hl := lv_entry ([.ref a0, .int p1]) (n := 5) (Nat.le_of_ble_eq_true rfl)
  rw [lg_entry_eq]
  generalize (lg_sl ([.ref a0, .int p1]) ++ List.replicate (5 - (lg_sl ([.ref a0, .int p1])).length) Slot.unset).toArray = ls at hl ⊢
  have hl : lv_has ls 5 [(0, .ref a0), (1, .int p1)] := hl
  refine lv_iconst (v := (-1)) hx hb dX6_sufferPoison_0 (by decide) ?_
  refine lv_istore_n (lv' := [(2, .int (-1 : Int32)), (0, .ref a0), (1, .int p1)]) hx hb dX6_sufferPoison_1 rfl hl (by decide) rfl (fun ls hl => ?_)
  refine lv_iconst (v := 0) hx hb dX6_sufferPoison_2 (by decide) ?_
  refine lv_istore_n (lv' := [(3, .int (0 : Int32)), (2, .int (-1 : Int32)), (0, .ref a0), (1, .int p1)]) hx hb dX6_sufferPoison_3 rfl hl (by decide) rfl (fun ls hl => ?_)
  exact L4 fu sa (-1 : Int32) (0 : Int32) _ _ _ h hP hD hS (lv_sub hl [2, 3, 1, 0] rfl)
theorem hdX6_ends : yX6_ends.cls = RX6 ∧ yX6_ends.cls ≠ "java/lang/invoke/MethodHandle" ∧ yX6_ends.cls ≠ "java/lang/invoke/VarHandle" ∧ (parseMethodDescriptor yX6_ends.desc).map (fun d => d.parameters.length) = some 0 := by decide +kernel
set_option maxHeartbeats 4000000 in
set_option maxRecDepth 100000 in
theorem cX6_ends_ok (l : Launch) (G : va_G) (cI cG : ClassId) (a0 a1 a2 a3 a4 : Nat) (fu : Nat) (th : Int32) (sa : (Nat → Int32)) (asd : (Nat → Int32)) (sv : (Nat → Int32)) (sm : Int32) (mt : (Nat → Int32)) (ln : Int32) (nx : Int32) (cd : Int32) (dg : Int32) (pw : Int32) (hs : Int64) (out : Int32 × (Nat → Int32)) (hf : fX6_ends fu sa = some out) : CI l G (tyz cI cG) yX6_ends wsX6_ends ({ frames := 1, cells := 0, slots := 0, locals := 22 } : Room) [.ref a0] [(a0, .inr (9, [.int th, .ref a1, .ref a2, .ref a3, .int sm, .ref a4, .int ln, .int nx, .int cd, .int dg, .int pw, .long hs])), (a1, .inl (cI, 378, .inl sa)), (a2, .inl (cI, 378, .inl asd)), (a3, .inl (cI, 1512, .inl sv)), (a4, .inl (cI, 120, .inl mt))] out.1 [(a0, .inr (9, [.int th, .ref a1, .ref a2, .ref a3, .int sm, .ref a4, .int ln, .int nx, .int cd, .int dg, .int pw, .long hs])), (a1, .inl (cI, 378, .inl out.2)), (a2, .inl (cI, 378, .inl asd)), (a3, .inl (cI, 1512, .inl sv)), (a4, .inl (cI, 120, .inl mt))] := by
  intro sz
  refine Met.ofW (cc := cX6_ends) (maxL := 5) (ret := (some .int)) (by decide) rfl ?_
  intro p e s m args below meth c s₁ B hml hv
  obtain ⟨rfl, hsz, hP, hK, hD0⟩ := hv
  have hx := B.exec
  have hb := B.bytes
  have hr := B.returns
  have hts := atoms_spec (ws := wsX6_ends) B.pre
  have hown : s.vm.findClass RX6 = some m.cls := findClass_of_methodNamed B.named
  have hlocks := B.notSynchronized
  subst hsz
  have hD := hD0.self (sz := s.heap.size)
  generalize hAe : va_A [(a0, .inr (9, [.int th, .ref a1, .ref a2, .ref a3, .int sm, .ref a4, .int ln, .int nx, .int cd, .int dg, .int pw, .long hs])), (a1, .inl (cI, 378, .inl sa)), (a2, .inl (cI, 378, .inl asd)), (a3, .inl (cI, 1512, .inl sv)), (a4, .inl (cI, 120, .inl mt))] s.heap.size = A at hD ⊢
  have hA : ∀ q : Nat, s.heap.size ≤ q → A q := fun q h => by rw [← hAe]; exact Or.inr h
  have hS : va_S A s.heap s.heap [] := va_S.rf
  have hw0 := hts (.fieldLink RX6 7 "SpeedTurnsModel" "s" "[I") (List.mem_of_getElem? (i := 1) rfl)
  have hin6 : ∀ w ∈ u_ws RX6 TX6 12, w ∈ wsX6_ends := by decide +kernel
  show W p l e ({ frames := 1, cells := 0, slots := 0, locals := 22 } : Room) s m _ below meth c s.heap [] 0 0 _ _
  refine W_genQ (fun Q hQ => ?_)
  have L24 : ∀ (k : Nat) (sa : (Nat → Int32)) (v1 : Int32) (v2 : Int32) (v3 : Int32) (H : Heap) (locs : List Loc) (ls : Array Slot), fX6_ends_L24 fu  k sa v1 v2 v3 = some out → va_P G vwCl [(a0, .inr (9, [.int th, .ref a1, .ref a2, .ref a3, .int sm, .ref a4, .int ln, .int nx, .int cd, .int dg, .int pw, .long hs])), (a1, .inl (cI, 378, .inl sa)), (a2, .inl (cI, 378, .inl asd)), (a3, .inl (cI, 1512, .inl sv)), (a4, .inl (cI, 120, .inl mt))] H → va_D A [(a0, .inr (9, [.int th, .ref a1, .ref a2, .ref a3, .int sm, .ref a4, .int ln, .int nx, .int cd, .int dg, .int pw, .long hs])), (a1, .inl (cI, 378, .inl sa)), (a2, .inl (cI, 378, .inl asd)), (a3, .inl (cI, 1512, .inl sv)), (a4, .inl (cI, 120, .inl mt))] → va_S A s.heap H locs → lv_has ls 5 [(0, .ref a0), (1, .int v1), (2, .int v2), (3, .int v3)] → W p l e ({ frames := 1, cells := 0, slots := 0, locals := 22 } : Room) s m ([.ref a0] : List Value).toArray below meth c H locs 0 0 Q (F0 m 24 ls []) := by
    intro k
    induction k with
    | zero => intro sa v1 v2 v3 H locs ls h hP hD hS hl; rw [fX6_ends_L24] at h; exact o_n h
    | succ k ih =>
      intro sa v1 v2 v3 H locs ls h hP hD hS hl
      rw [fX6_ends_L24] at h
      refine lv_iload_n hx hb dX6_ends_24 rfl (lv_at hl 3 rfl) ?_
      refine lv_aload_n hx hb dX6_ends_25 rfl (lv_at hl 0 rfl) ?_
      refine va_get (D := G) (ci := 9) (v := .ref a1) (C := RX6) (T := TX6) (N := 12) hx hb hts hin6 hown hK.1 hP 0 rfl rfl 1 (by decide) hw0 (fun _ h9 => h9) rfl dX6_ends_26 ?_
      refine lv_iconst (v := 1) hx hb dX6_ends_29 (by decide) ?_
      obtain ⟨hin, h⟩ := o_g h
      refine va_iald hx hb hK.1 hP 1 0 rfl rfl hin dX6_ends_30 ?_
      refine lv_icmp_ge (tgt := 111) hx hb dX6_ends_31 (by decide) (fun hc => ?_) (fun hc => ?_)
      · have h := o_t h hc
        refine lv_aload_n hx hb dX6_ends_111 rfl (lv_at hl 0 rfl) ?_
        refine va_get (D := G) (ci := 9) (v := .ref a1) (C := RX6) (T := TX6) (N := 12) hx hb hts hin6 hown hK.1 hP 0 rfl rfl 1 (by decide) hw0 (fun _ h9 => h9) rfl dX6_ends_112 ?_
        refine lv_bipush (v := 10) hx hb dX6_ends_115 (by decide) ?_
        obtain ⟨hin, h⟩ := o_g h
        refine va_iald hx hb hK.1 hP 1 0 rfl rfl hin dX6_ends_117 ?_
        refine lv_iload_n hx hb dX6_ends_118 rfl (lv_at hl 2 rfl) ?_
        refine lv_isub hx hb dX6_ends_119 ?_
        obtain rfl := o_s h
        rw [hQ]
        exact end_i hx hb hr rfl hP hD hS dX6_ends_120 hlocks
      · have h := o_f h hc
        refine lv_bipush (v := 82) hx hb dX6_ends_34 (by decide) ?_
        refine lv_bipush (v := 8) hx hb dX6_ends_36 (by decide) ?_
        refine lv_iload_n hx hb dX6_ends_38 rfl (lv_at hl 3 rfl) ?_
        refine lv_imul hx hb dX6_ends_39 ?_
        refine lv_iadd hx hb dX6_ends_40 ?_
        refine lv_istore (lv' := [(4, .int ((82 : Int32) + ((8 : Int32) * v3))), (0, .ref a0), (1, .int v1), (2, .int v2), (3, .int v3)]) hx hb dX6_ends_41 hl (by decide) rfl (fun ls hl => ?_)
        refine lv_aload_n hx hb dX6_ends_43 rfl (lv_at hl 1 rfl) ?_
        refine va_get (D := G) (ci := 9) (v := .ref a1) (C := RX6) (T := TX6) (N := 12) hx hb hts hin6 hown hK.1 hP 0 rfl rfl 1 (by decide) hw0 (fun _ h9 => h9) rfl dX6_ends_44 ?_
        refine lv_iload hx hb dX6_ends_47 (lv_at hl 0 rfl) ?_
        refine lv_aload_n hx hb dX6_ends_49 rfl (lv_at hl 1 rfl) ?_
        refine va_get (D := G) (ci := 9) (v := .ref a1) (C := RX6) (T := TX6) (N := 12) hx hb hts hin6 hown hK.1 hP 0 rfl rfl 1 (by decide) hw0 (fun _ h9 => h9) rfl dX6_ends_50 ?_
        refine lv_iload hx hb dX6_ends_53 (lv_at hl 0 rfl) ?_
        refine lv_iconst (v := 5) hx hb dX6_ends_55 (by decide) ?_
        refine lv_iadd hx hb dX6_ends_56 ?_
        obtain ⟨hin, h⟩ := o_g h
        refine va_iald hx hb hK.1 hP 1 0 rfl rfl hin dX6_ends_57 ?_
        refine lv_if_ne (tgt := 65) hx hb dX6_ends_58 (by decide) (fun hc => ?_) (fun hc => ?_)
        · have h := o_f h hc
          refine lv_iconst (v := 3) hx hb dX6_ends_65 (by decide) ?_
          refine lv_iadd hx hb dX6_ends_66 ?_
          obtain ⟨hin, h⟩ := o_g h
          refine va_iald hx hb hK.1 hP 1 0 rfl rfl hin dX6_ends_67 ?_
          refine lv_iload_n hx hb dX6_ends_68 rfl (lv_at hl 2 rfl) ?_
          refine lv_icmp_ne (tgt := 85) hx hb dX6_ends_69 (by decide) (fun hc => ?_) (fun hc => ?_)
          · have h := o_f h hc
            refine lv_aload_n hx hb dX6_ends_85 rfl (lv_at hl 1 rfl) ?_
            refine va_get (D := G) (ci := 9) (v := .ref a1) (C := RX6) (T := TX6) (N := 12) hx hb hts hin6 hown hK.1 hP 0 rfl rfl 1 (by decide) hw0 (fun _ h9 => h9) rfl dX6_ends_86 ?_
            refine lv_iload hx hb dX6_ends_89 (lv_at hl 0 rfl) ?_
            refine lv_iconst (v := 4) hx hb dX6_ends_91 (by decide) ?_
            refine lv_iadd hx hb dX6_ends_92 ?_
            obtain ⟨hin, h⟩ := o_g h
            refine va_iald hx hb hK.1 hP 1 0 rfl rfl hin dX6_ends_93 ?_
            refine lv_if_ne (tgt := 105) hx hb dX6_ends_94 (by decide) (fun hc => ?_) (fun hc => ?_)
            · have h := o_f h hc
              refine lv_iinc (v := (v3 + 1)) (lv' := [(3, .int (v3 + 1)), (4, .int ((82 : Int32) + ((8 : Int32) * v3))), (0, .ref a0), (1, .int v1), (2, .int v2)]) hx hb dX6_ends_105 hl (k := 4) rfl rfl (by decide) rfl (fun ls hl => ?_)
              refine lv_goto (tgt := 24) hx hb dX6_ends_108 (by decide) ?_
              exact ih sa v1 v2 (v3 + 1) _ _ _ h hP hD hS (lv_sub hl [2, 3, 4, 0] rfl)
            · have h := o_t h hc
              refine lv_aload_n hx hb dX6_ends_97 rfl (lv_at hl 1 rfl) ?_
              refine lv_iload_n hx hb dX6_ends_98 rfl (lv_at hl 4 rfl) ?_
              obtain ⟨x1, ex1, h⟩ := o_b h
              refine call_vV (As := [.int v3]) (rest := []) (ws2 := [(a0, .inr (9, [.int th, .ref a1, .ref a2, .ref a3, .int sm, .ref a4, .int ln, .int nx, .int cd, .int dg, .int pw, .long hs])), (a1, .inl (cI, 378, .inl x1)), (a2, .inl (cI, 378, .inl asd)), (a3, .inl (cI, 1512, .inl sv)), (a4, .inl (cI, 120, .inl mt))]) ⟨hx, hb, hml, hown, hts⟩ (cX6_endEffect_ok l G cI cG a0 a1 a2 a3 a4 fu th sa asd sv sm mt ln nx cd dg pw hs v3 x1 ex1) (cwV 1 hts gX6_ends_X6_endEffect rfl rfl rfl hdX6_endEffect ⟨Nat.le_of_ble_eq_true rfl, Nat.le_of_ble_eq_true rfl⟩) hP hD hS hA hK 9 rfl rfl rfl [0, 1, 2, 3, 4] rfl rfl rfl rfl rfl rfl rfl rfl hl.1 (Nat.le_of_ble_eq_true rfl) dX6_ends_99 ⟨Nat.zero_le _, Nat.zero_le _⟩ (fun H locs hP hD hS => ?_)
              refine lv_goto (tgt := 108) hx hb dX6_ends_102 (by decide) ?_
              refine lv_goto (tgt := 24) hx hb dX6_ends_108 (by decide) ?_
              exact ih x1 v1 v2 v3 _ _ _ h hP hD hS (lv_sub hl [1, 2, 3, 4] rfl)
          · have h := o_t h hc
            refine lv_aload_n hx hb dX6_ends_72 rfl (lv_at hl 1 rfl) ?_
            refine va_get (D := G) (ci := 9) (v := .ref a1) (C := RX6) (T := TX6) (N := 12) hx hb hts hin6 hown hK.1 hP 0 rfl rfl 1 (by decide) hw0 (fun _ h9 => h9) rfl dX6_ends_73 ?_
            refine lv_iload hx hb dX6_ends_76 (lv_at hl 0 rfl) ?_
            refine lv_iconst (v := 4) hx hb dX6_ends_78 (by decide) ?_
            refine lv_iadd hx hb dX6_ends_79 ?_
            refine lv_dup2_11 hx hb dX6_ends_80 rfl rfl ?_
            obtain ⟨hin, h⟩ := o_g h
            refine va_iald hx hb hK.1 hP 1 0 rfl rfl hin dX6_ends_81 ?_
            refine lv_iconst (v := 1) hx hb dX6_ends_82 (by decide) ?_
            refine lv_isub hx hb dX6_ends_83 ?_
            obtain ⟨hin, h⟩ := o_g h
            refine va_iast hx hb hK.1 hP hD hS 1 0 rfl rfl hin dX6_ends_84 (fun H locs hP hD hS => ?_)
            have hP : va_P G vwCl [(a0, .inr (9, [.int th, .ref a1, .ref a2, .ref a3, .int sm, .ref a4, .int ln, .int nx, .int cd, .int dg, .int pw, .long hs])), (a1, .inl (cI, 378, .inl (upd sa ((((82 : Int32) + ((8 : Int32) * v3)) + (4 : Int32))).toNatClampNeg ((sa ((((82 : Int32) + ((8 : Int32) * v3)) + (4 : Int32))).toNatClampNeg) - (1 : Int32))))), (a2, .inl (cI, 378, .inl asd)), (a3, .inl (cI, 1512, .inl sv)), (a4, .inl (cI, 120, .inl mt))] H := hP
            have hD : va_D A [(a0, .inr (9, [.int th, .ref a1, .ref a2, .ref a3, .int sm, .ref a4, .int ln, .int nx, .int cd, .int dg, .int pw, .long hs])), (a1, .inl (cI, 378, .inl (upd sa ((((82 : Int32) + ((8 : Int32) * v3)) + (4 : Int32))).toNatClampNeg ((sa ((((82 : Int32) + ((8 : Int32) * v3)) + (4 : Int32))).toNatClampNeg) - (1 : Int32))))), (a2, .inl (cI, 378, .inl asd)), (a3, .inl (cI, 1512, .inl sv)), (a4, .inl (cI, 120, .inl mt))] := hD
            refine lv_aload_n hx hb dX6_ends_85 rfl (lv_at hl 1 rfl) ?_
            refine va_get (D := G) (ci := 9) (v := .ref a1) (C := RX6) (T := TX6) (N := 12) hx hb hts hin6 hown hK.1 hP 0 rfl rfl 1 (by decide) hw0 (fun _ h9 => h9) rfl dX6_ends_86 ?_
            refine lv_iload hx hb dX6_ends_89 (lv_at hl 0 rfl) ?_
            refine lv_iconst (v := 4) hx hb dX6_ends_91 (by decide) ?_
            refine lv_iadd hx hb dX6_ends_92 ?_
            obtain ⟨hin, h⟩ := o_g h
            refine va_iald hx hb hK.1 hP 1 0 rfl rfl hin dX6_ends_93 ?_
            refine lv_if_ne (tgt := 105) hx hb dX6_ends_94 (by decide) (fun hc => ?_) (fun hc => ?_)
            · have h := o_f h hc
              refine lv_iinc (v := (v3 + 1)) (lv' := [(3, .int (v3 + 1)), (4, .int ((82 : Int32) + ((8 : Int32) * v3))), (0, .ref a0), (1, .int v1), (2, .int v2)]) hx hb dX6_ends_105 hl (k := 4) rfl rfl (by decide) rfl (fun ls hl => ?_)
              refine lv_goto (tgt := 24) hx hb dX6_ends_108 (by decide) ?_
              exact ih (upd sa ((((82 : Int32) + ((8 : Int32) * v3)) + (4 : Int32))).toNatClampNeg ((sa ((((82 : Int32) + ((8 : Int32) * v3)) + (4 : Int32))).toNatClampNeg) - (1 : Int32))) v1 v2 (v3 + 1) _ _ _ h hP hD hS (lv_sub hl [2, 3, 4, 0] rfl)
            · have h := o_t h hc
              refine lv_aload_n hx hb dX6_ends_97 rfl (lv_at hl 1 rfl) ?_
              refine lv_iload_n hx hb dX6_ends_98 rfl (lv_at hl 4 rfl) ?_
              obtain ⟨x2, ex2, h⟩ := o_b h
              refine call_vV (As := [.int v3]) (rest := []) (ws2 := [(a0, .inr (9, [.int th, .ref a1, .ref a2, .ref a3, .int sm, .ref a4, .int ln, .int nx, .int cd, .int dg, .int pw, .long hs])), (a1, .inl (cI, 378, .inl x2)), (a2, .inl (cI, 378, .inl asd)), (a3, .inl (cI, 1512, .inl sv)), (a4, .inl (cI, 120, .inl mt))]) ⟨hx, hb, hml, hown, hts⟩ (cX6_endEffect_ok l G cI cG a0 a1 a2 a3 a4 fu th (upd sa ((((82 : Int32) + ((8 : Int32) * v3)) + (4 : Int32))).toNatClampNeg ((sa ((((82 : Int32) + ((8 : Int32) * v3)) + (4 : Int32))).toNatClampNeg) - (1 : Int32))) asd sv sm mt ln nx cd dg pw hs v3 x2 ex2) (cwV 1 hts gX6_ends_X6_endEffect rfl rfl rfl hdX6_endEffect ⟨Nat.le_of_ble_eq_true rfl, Nat.le_of_ble_eq_true rfl⟩) hP hD hS hA hK 9 rfl rfl rfl [0, 1, 2, 3, 4] rfl rfl rfl rfl rfl rfl rfl rfl hl.1 (Nat.le_of_ble_eq_true rfl) dX6_ends_99 ⟨Nat.zero_le _, Nat.zero_le _⟩ (fun H locs hP hD hS => ?_)
              refine lv_goto (tgt := 108) hx hb dX6_ends_102 (by decide) ?_
              refine lv_goto (tgt := 24) hx hb dX6_ends_108 (by decide) ?_
              exact ih x2 v1 v2 v3 _ _ _ h hP hD hS (lv_sub hl [1, 2, 3, 4] rfl)
        · have h := o_t h hc
          refine lv_iconst (v := 2) hx hb dX6_ends_61 (by decide) ?_
          refine lv_goto (tgt := 66) hx hb dX6_ends_62 (by decide) ?_
          refine lv_iadd hx hb dX6_ends_66 ?_
          obtain ⟨hin, h⟩ := o_g h
          refine va_iald hx hb hK.1 hP 1 0 rfl rfl hin dX6_ends_67 ?_
          refine lv_iload_n hx hb dX6_ends_68 rfl (lv_at hl 2 rfl) ?_
          refine lv_icmp_ne (tgt := 85) hx hb dX6_ends_69 (by decide) (fun hc => ?_) (fun hc => ?_)
          · have h := o_f h hc
            refine lv_aload_n hx hb dX6_ends_85 rfl (lv_at hl 1 rfl) ?_
            refine va_get (D := G) (ci := 9) (v := .ref a1) (C := RX6) (T := TX6) (N := 12) hx hb hts hin6 hown hK.1 hP 0 rfl rfl 1 (by decide) hw0 (fun _ h9 => h9) rfl dX6_ends_86 ?_
            refine lv_iload hx hb dX6_ends_89 (lv_at hl 0 rfl) ?_
            refine lv_iconst (v := 4) hx hb dX6_ends_91 (by decide) ?_
            refine lv_iadd hx hb dX6_ends_92 ?_
            obtain ⟨hin, h⟩ := o_g h
            refine va_iald hx hb hK.1 hP 1 0 rfl rfl hin dX6_ends_93 ?_
            refine lv_if_ne (tgt := 105) hx hb dX6_ends_94 (by decide) (fun hc => ?_) (fun hc => ?_)
            · have h := o_f h hc
              refine lv_iinc (v := (v3 + 1)) (lv' := [(3, .int (v3 + 1)), (4, .int ((82 : Int32) + ((8 : Int32) * v3))), (0, .ref a0), (1, .int v1), (2, .int v2)]) hx hb dX6_ends_105 hl (k := 4) rfl rfl (by decide) rfl (fun ls hl => ?_)
              refine lv_goto (tgt := 24) hx hb dX6_ends_108 (by decide) ?_
              exact ih sa v1 v2 (v3 + 1) _ _ _ h hP hD hS (lv_sub hl [2, 3, 4, 0] rfl)
            · have h := o_t h hc
              refine lv_aload_n hx hb dX6_ends_97 rfl (lv_at hl 1 rfl) ?_
              refine lv_iload_n hx hb dX6_ends_98 rfl (lv_at hl 4 rfl) ?_
              obtain ⟨x3, ex3, h⟩ := o_b h
              refine call_vV (As := [.int v3]) (rest := []) (ws2 := [(a0, .inr (9, [.int th, .ref a1, .ref a2, .ref a3, .int sm, .ref a4, .int ln, .int nx, .int cd, .int dg, .int pw, .long hs])), (a1, .inl (cI, 378, .inl x3)), (a2, .inl (cI, 378, .inl asd)), (a3, .inl (cI, 1512, .inl sv)), (a4, .inl (cI, 120, .inl mt))]) ⟨hx, hb, hml, hown, hts⟩ (cX6_endEffect_ok l G cI cG a0 a1 a2 a3 a4 fu th sa asd sv sm mt ln nx cd dg pw hs v3 x3 ex3) (cwV 1 hts gX6_ends_X6_endEffect rfl rfl rfl hdX6_endEffect ⟨Nat.le_of_ble_eq_true rfl, Nat.le_of_ble_eq_true rfl⟩) hP hD hS hA hK 9 rfl rfl rfl [0, 1, 2, 3, 4] rfl rfl rfl rfl rfl rfl rfl rfl hl.1 (Nat.le_of_ble_eq_true rfl) dX6_ends_99 ⟨Nat.zero_le _, Nat.zero_le _⟩ (fun H locs hP hD hS => ?_)
              refine lv_goto (tgt := 108) hx hb dX6_ends_102 (by decide) ?_
              refine lv_goto (tgt := 24) hx hb dX6_ends_108 (by decide) ?_
              exact ih x3 v1 v2 v3 _ _ _ h hP hD hS (lv_sub hl [1, 2, 3, 4] rfl)
          · have h := o_t h hc
            refine lv_aload_n hx hb dX6_ends_72 rfl (lv_at hl 1 rfl) ?_
            refine va_get (D := G) (ci := 9) (v := .ref a1) (C := RX6) (T := TX6) (N := 12) hx hb hts hin6 hown hK.1 hP 0 rfl rfl 1 (by decide) hw0 (fun _ h9 => h9) rfl dX6_ends_73 ?_
            refine lv_iload hx hb dX6_ends_76 (lv_at hl 0 rfl) ?_
            refine lv_iconst (v := 4) hx hb dX6_ends_78 (by decide) ?_
            refine lv_iadd hx hb dX6_ends_79 ?_
            refine lv_dup2_11 hx hb dX6_ends_80 rfl rfl ?_
            obtain ⟨hin, h⟩ := o_g h
            refine va_iald hx hb hK.1 hP 1 0 rfl rfl hin dX6_ends_81 ?_
            refine lv_iconst (v := 1) hx hb dX6_ends_82 (by decide) ?_
            refine lv_isub hx hb dX6_ends_83 ?_
            obtain ⟨hin, h⟩ := o_g h
            refine va_iast hx hb hK.1 hP hD hS 1 0 rfl rfl hin dX6_ends_84 (fun H locs hP hD hS => ?_)
            have hP : va_P G vwCl [(a0, .inr (9, [.int th, .ref a1, .ref a2, .ref a3, .int sm, .ref a4, .int ln, .int nx, .int cd, .int dg, .int pw, .long hs])), (a1, .inl (cI, 378, .inl (upd sa ((((82 : Int32) + ((8 : Int32) * v3)) + (4 : Int32))).toNatClampNeg ((sa ((((82 : Int32) + ((8 : Int32) * v3)) + (4 : Int32))).toNatClampNeg) - (1 : Int32))))), (a2, .inl (cI, 378, .inl asd)), (a3, .inl (cI, 1512, .inl sv)), (a4, .inl (cI, 120, .inl mt))] H := hP
            have hD : va_D A [(a0, .inr (9, [.int th, .ref a1, .ref a2, .ref a3, .int sm, .ref a4, .int ln, .int nx, .int cd, .int dg, .int pw, .long hs])), (a1, .inl (cI, 378, .inl (upd sa ((((82 : Int32) + ((8 : Int32) * v3)) + (4 : Int32))).toNatClampNeg ((sa ((((82 : Int32) + ((8 : Int32) * v3)) + (4 : Int32))).toNatClampNeg) - (1 : Int32))))), (a2, .inl (cI, 378, .inl asd)), (a3, .inl (cI, 1512, .inl sv)), (a4, .inl (cI, 120, .inl mt))] := hD
            refine lv_aload_n hx hb dX6_ends_85 rfl (lv_at hl 1 rfl) ?_
            refine va_get (D := G) (ci := 9) (v := .ref a1) (C := RX6) (T := TX6) (N := 12) hx hb hts hin6 hown hK.1 hP 0 rfl rfl 1 (by decide) hw0 (fun _ h9 => h9) rfl dX6_ends_86 ?_
            refine lv_iload hx hb dX6_ends_89 (lv_at hl 0 rfl) ?_
            refine lv_iconst (v := 4) hx hb dX6_ends_91 (by decide) ?_
            refine lv_iadd hx hb dX6_ends_92 ?_
            obtain ⟨hin, h⟩ := o_g h
            refine va_iald hx hb hK.1 hP 1 0 rfl rfl hin dX6_ends_93 ?_
            refine lv_if_ne (tgt := 105) hx hb dX6_ends_94 (by decide) (fun hc => ?_) (fun hc => ?_)
            · have h := o_f h hc
              refine lv_iinc (v := (v3 + 1)) (lv' := [(3, .int (v3 + 1)), (4, .int ((82 : Int32) + ((8 : Int32) * v3))), (0, .ref a0), (1, .int v1), (2, .int v2)]) hx hb dX6_ends_105 hl (k := 4) rfl rfl (by decide) rfl (fun ls hl => ?_)
              refine lv_goto (tgt := 24) hx hb dX6_ends_108 (by decide) ?_
              exact ih (upd sa ((((82 : Int32) + ((8 : Int32) * v3)) + (4 : Int32))).toNatClampNeg ((sa ((((82 : Int32) + ((8 : Int32) * v3)) + (4 : Int32))).toNatClampNeg) - (1 : Int32))) v1 v2 (v3 + 1) _ _ _ h hP hD hS (lv_sub hl [2, 3, 4, 0] rfl)
            · have h := o_t h hc
              refine lv_aload_n hx hb dX6_ends_97 rfl (lv_at hl 1 rfl) ?_
              refine lv_iload_n hx hb dX6_ends_98 rfl (lv_at hl 4 rfl) ?_
              obtain ⟨x4, ex4, h⟩ := o_b h
              refine call_vV (As := [.int v3]) (rest := []) (ws2 := [(a0, .inr (9, [.int th, .ref a1, .ref a2, .ref a3, .int sm, .ref a4, .int ln, .int nx, .int cd, .int dg, .int pw, .long hs])), (a1, .inl (cI, 378, .inl x4)), (a2, .inl (cI, 378, .inl asd)), (a3, .inl (cI, 1512, .inl sv)), (a4, .inl (cI, 120, .inl mt))]) ⟨hx, hb, hml, hown, hts⟩ (cX6_endEffect_ok l G cI cG a0 a1 a2 a3 a4 fu th (upd sa ((((82 : Int32) + ((8 : Int32) * v3)) + (4 : Int32))).toNatClampNeg ((sa ((((82 : Int32) + ((8 : Int32) * v3)) + (4 : Int32))).toNatClampNeg) - (1 : Int32))) asd sv sm mt ln nx cd dg pw hs v3 x4 ex4) (cwV 1 hts gX6_ends_X6_endEffect rfl rfl rfl hdX6_endEffect ⟨Nat.le_of_ble_eq_true rfl, Nat.le_of_ble_eq_true rfl⟩) hP hD hS hA hK 9 rfl rfl rfl [0, 1, 2, 3, 4] rfl rfl rfl rfl rfl rfl rfl rfl hl.1 (Nat.le_of_ble_eq_true rfl) dX6_ends_99 ⟨Nat.zero_le _, Nat.zero_le _⟩ (fun H locs hP hD hS => ?_)
              refine lv_goto (tgt := 108) hx hb dX6_ends_102 (by decide) ?_
              refine lv_goto (tgt := 24) hx hb dX6_ends_108 (by decide) ?_
              exact ih x4 v1 v2 v3 _ _ _ h hP hD hS (lv_sub hl [1, 2, 3, 4] rfl)
  have h := hf
  rw [fX6_ends] at h
  have hl := lv_entry ([.ref a0]) (n := 5) (Nat.le_of_ble_eq_true rfl)
  rw [lg_entry_eq]
  generalize (lg_sl ([.ref a0]) ++ List.replicate (5 - (lg_sl ([.ref a0])).length) Slot.unset).toArray = ls at hl ⊢
  have hl : lv_has ls 5 [(0, .ref a0)] := hl
  refine lv_aload_n hx hb dX6_ends_0 rfl (lv_at hl 0 rfl) ?_
  refine va_get (D := G) (ci := 9) (v := .ref a1) (C := RX6) (T := TX6) (N := 12) hx hb hts hin6 hown hK.1 hP 0 rfl rfl 1 (by decide) hw0 (fun _ h9 => h9) rfl dX6_ends_1 ?_
  refine lv_iconst (v := 4) hx hb dX6_ends_4 (by decide) ?_
  obtain ⟨hin, h⟩ := o_g h
  refine va_iald hx hb hK.1 hP 1 0 rfl rfl hin dX6_ends_5 ?_
  refine lv_istore_n (lv' := [(1, .int (sa ((4 : Int32)).toNatClampNeg)), (0, .ref a0)]) hx hb dX6_ends_6 rfl hl (by decide) rfl (fun ls hl => ?_)
  refine lv_aload_n hx hb dX6_ends_7 rfl (lv_at hl 1 rfl) ?_
  refine va_get (D := G) (ci := 9) (v := .ref a1) (C := RX6) (T := TX6) (N := 12) hx hb hts hin6 hown hK.1 hP 0 rfl rfl 1 (by decide) hw0 (fun _ h9 => h9) rfl dX6_ends_8 ?_
  refine lv_iconst (v := 4) hx hb dX6_ends_11 (by decide) ?_
  refine lv_iconst (v := (-1)) hx hb dX6_ends_12 (by decide) ?_
  obtain ⟨hin, h⟩ := o_g h
  refine va_iast hx hb hK.1 hP hD hS 1 0 rfl rfl hin dX6_ends_13 (fun H locs hP hD hS => ?_)
  have hP : va_P G vwCl [(a0, .inr (9, [.int th, .ref a1, .ref a2, .ref a3, .int sm, .ref a4, .int ln, .int nx, .int cd, .int dg, .int pw, .long hs])), (a1, .inl (cI, 378, .inl (upd sa ((4 : Int32)).toNatClampNeg (-1 : Int32)))), (a2, .inl (cI, 378, .inl asd)), (a3, .inl (cI, 1512, .inl sv)), (a4, .inl (cI, 120, .inl mt))] H := hP
  have hD : va_D A [(a0, .inr (9, [.int th, .ref a1, .ref a2, .ref a3, .int sm, .ref a4, .int ln, .int nx, .int cd, .int dg, .int pw, .long hs])), (a1, .inl (cI, 378, .inl (upd sa ((4 : Int32)).toNatClampNeg (-1 : Int32)))), (a2, .inl (cI, 378, .inl asd)), (a3, .inl (cI, 1512, .inl sv)), (a4, .inl (cI, 120, .inl mt))] := hD
  refine lv_aload_n hx hb dX6_ends_14 rfl (lv_at hl 1 rfl) ?_
  refine va_get (D := G) (ci := 9) (v := .ref a1) (C := RX6) (T := TX6) (N := 12) hx hb hts hin6 hown hK.1 hP 0 rfl rfl 1 (by decide) hw0 (fun _ h9 => h9) rfl dX6_ends_15 ?_
  refine lv_bipush (v := 10) hx hb dX6_ends_18 (by decide) ?_
  obtain ⟨hin, h⟩ := o_g h
  refine va_iald hx hb hK.1 hP 1 0 rfl rfl hin dX6_ends_20 ?_
  refine lv_istore_n (lv' := [(2, .int ((upd sa ((4 : Int32)).toNatClampNeg (-1 : Int32)) ((10 : Int32)).toNatClampNeg)), (1, .int (sa ((4 : Int32)).toNatClampNeg)), (0, .ref a0)]) hx hb dX6_ends_21 rfl hl (by decide) rfl (fun ls hl => ?_)
  refine lv_iconst (v := 0) hx hb dX6_ends_22 (by decide) ?_
  refine lv_istore_n (lv' := [(3, .int (0 : Int32)), (2, .int ((upd sa ((4 : Int32)).toNatClampNeg (-1 : Int32)) ((10 : Int32)).toNatClampNeg)), (1, .int (sa ((4 : Int32)).toNatClampNeg)), (0, .ref a0)]) hx hb dX6_ends_23 rfl hl (by decide) rfl (fun ls hl => ?_)
  exact L24 fu (upd sa ((4 : Int32)).toNatClampNeg (-1 : Int32)) (sa ((4 : Int32)).toNatClampNeg) ((upd sa ((4 : Int32)).toNatClampNeg (-1 : Int32)) ((10 : Int32)).toNatClampNeg) (0 : Int32) _ _ _ h hP hD hS (lv_sub hl [3, 2, 1, 0] rfl)
theorem hdX6_begins : yX6_begins.cls = RX6 ∧ yX6_begins.cls ≠ "java/lang/invoke/MethodHandle" ∧ yX6_begins.cls ≠ "java/lang/invoke/VarHandle" ∧ (parseMethodDescriptor yX6_begins.desc).map (fun d => d.parameters.length) = some 0 := by decide +kernel
set_option maxHeartbeats 4000000 in
set_option maxRecDepth 100000 in
theorem cX6_begins_ok (l : Launch) (G : va_G) (cI cG : ClassId) (a0 a1 a2 a3 a4 : Nat) (fu : Nat) (th : Int32) (sa : (Nat → Int32)) (asd : (Nat → Int32)) (sv : (Nat → Int32)) (sm : Int32) (mt : (Nat → Int32)) (ln : Int32) (nx : Int32) (cd : Int32) (dg : Int32) (pw : Int32) (hs : Int64) (out : Int32 × (Nat → Int32)) (hf : fX6_begins fu sa = some out) : CI l G (tyz cI cG) yX6_begins wsX6_begins ({ frames := 5, cells := 0, slots := 0, locals := 115 } : Room) [.ref a0] [(a0, .inr (9, [.int th, .ref a1, .ref a2, .ref a3, .int sm, .ref a4, .int ln, .int nx, .int cd, .int dg, .int pw, .long hs])), (a1, .inl (cI, 378, .inl sa)), (a2, .inl (cI, 378, .inl asd)), (a3, .inl (cI, 1512, .inl sv)), (a4, .inl (cI, 120, .inl mt))] out.1 [(a0, .inr (9, [.int th, .ref a1, .ref a2, .ref a3, .int sm, .ref a4, .int ln, .int nx, .int cd, .int dg, .int pw, .long hs])), (a1, .inl (cI, 378, .inl out.2)), (a2, .inl (cI, 378, .inl asd)), (a3, .inl (cI, 1512, .inl sv)), (a4, .inl (cI, 120, .inl mt))] := by
  intro sz
  refine Met.ofW (cc := cX6_begins) (maxL := 3) (ret := (some .int)) (by decide) rfl ?_
  intro p e s m args below meth c s₁ B hml hv
  obtain ⟨rfl, hsz, hP, hK, hD0⟩ := hv
  have hx := B.exec
  have hb := B.bytes
  have hr := B.returns
  have hts := atoms_spec (ws := wsX6_begins) B.pre
  have hown : s.vm.findClass RX6 = some m.cls := findClass_of_methodNamed B.named
  have hlocks := B.notSynchronized
  subst hsz
  have hD := hD0.self (sz := s.heap.size)
  generalize hAe : va_A [(a0, .inr (9, [.int th, .ref a1, .ref a2, .ref a3, .int sm, .ref a4, .int ln, .int nx, .int cd, .int dg, .int pw, .long hs])), (a1, .inl (cI, 378, .inl sa)), (a2, .inl (cI, 378, .inl asd)), (a3, .inl (cI, 1512, .inl sv)), (a4, .inl (cI, 120, .inl mt))] s.heap.size = A at hD ⊢
  have hA : ∀ q : Nat, s.heap.size ≤ q → A q := fun q h => by rw [← hAe]; exact Or.inr h
  have hS : va_S A s.heap s.heap [] := va_S.rf
  have hw0 := hts (.fieldLink RX6 7 "SpeedTurnsModel" "s" "[I") (List.mem_of_getElem? (i := 1) rfl)
  have hin6 : ∀ w ∈ u_ws RX6 TX6 12, w ∈ wsX6_begins := by decide +kernel
  show W p l e ({ frames := 5, cells := 0, slots := 0, locals := 115 } : Room) s m _ below meth c s.heap [] 0 0 _ _
  refine W_genQ (fun Q hQ => ?_)
  have J32 : ∀ (sa : (Nat → Int32)) (v1 : Int32) (H : Heap) (locs : List Loc) (ls : Array Slot), fX6_begins_J32 fu sa v1 = some out → va_P G vwCl [(a0, .inr (9, [.int th, .ref a1, .ref a2, .ref a3, .int sm, .ref a4, .int ln, .int nx, .int cd, .int dg, .int pw, .long hs])), (a1, .inl (cI, 378, .inl sa)), (a2, .inl (cI, 378, .inl asd)), (a3, .inl (cI, 1512, .inl sv)), (a4, .inl (cI, 120, .inl mt))] H → va_D A [(a0, .inr (9, [.int th, .ref a1, .ref a2, .ref a3, .int sm, .ref a4, .int ln, .int nx, .int cd, .int dg, .int pw, .long hs])), (a1, .inl (cI, 378, .inl sa)), (a2, .inl (cI, 378, .inl asd)), (a3, .inl (cI, 1512, .inl sv)), (a4, .inl (cI, 120, .inl mt))] → va_S A s.heap H locs → lv_has ls 3 [(0, .ref a0), (1, .int v1)] → W p l e ({ frames := 5, cells := 0, slots := 0, locals := 115 } : Room) s m ([.ref a0] : List Value).toArray below meth c H locs 0 0 Q (F0 m 32 ls []) := by
    intro sa v1 H locs ls h hP hD hS hl
    rw [fX6_begins_J32] at h
    refine lv_iload_n hx hb dX6_begins_32 rfl (lv_at hl 1 rfl) ?_
    refine lv_iconst (v := (-1)) hx hb dX6_begins_33 (by decide) ?_
    refine lv_icmp_ne (tgt := 39) hx hb dX6_begins_34 (by decide) (fun hc => ?_) (fun hc => ?_)
    · have h := o_f h hc
      refine lv_aload_n hx hb dX6_begins_39 rfl (lv_at hl 0 rfl) ?_
      refine va_get (D := G) (ci := 9) (v := .ref a1) (C := RX6) (T := TX6) (N := 12) hx hb hts hin6 hown hK.1 hP 0 rfl rfl 1 (by decide) hw0 (fun _ h9 => h9) rfl dX6_begins_40 ?_
      refine lv_bipush (v := 9) hx hb dX6_begins_43 (by decide) ?_
      refine lv_dup2_11 hx hb dX6_begins_45 rfl rfl ?_
      obtain ⟨hin, h⟩ := o_g h
      refine va_iald hx hb hK.1 hP 1 0 rfl rfl hin dX6_begins_46 ?_
      refine lv_iconst (v := 1) hx hb dX6_begins_47 (by decide) ?_
      refine lv_iadd hx hb dX6_begins_48 ?_
      obtain ⟨hin, h⟩ := o_g h
      refine va_iast hx hb hK.1 hP hD hS 1 0 rfl rfl hin dX6_begins_49 (fun H locs hP hD hS => ?_)
      have hP : va_P G vwCl [(a0, .inr (9, [.int th, .ref a1, .ref a2, .ref a3, .int sm, .ref a4, .int ln, .int nx, .int cd, .int dg, .int pw, .long hs])), (a1, .inl (cI, 378, .inl (upd sa ((9 : Int32)).toNatClampNeg ((sa ((9 : Int32)).toNatClampNeg) + (1 : Int32))))), (a2, .inl (cI, 378, .inl asd)), (a3, .inl (cI, 1512, .inl sv)), (a4, .inl (cI, 120, .inl mt))] H := hP
      have hD : va_D A [(a0, .inr (9, [.int th, .ref a1, .ref a2, .ref a3, .int sm, .ref a4, .int ln, .int nx, .int cd, .int dg, .int pw, .long hs])), (a1, .inl (cI, 378, .inl (upd sa ((9 : Int32)).toNatClampNeg ((sa ((9 : Int32)).toNatClampNeg) + (1 : Int32))))), (a2, .inl (cI, 378, .inl asd)), (a3, .inl (cI, 1512, .inl sv)), (a4, .inl (cI, 120, .inl mt))] := hD
      refine lv_aload_n hx hb dX6_begins_50 rfl (lv_at hl 0 rfl) ?_
      refine va_get (D := G) (ci := 9) (v := .ref a1) (C := RX6) (T := TX6) (N := 12) hx hb hts hin6 hown hK.1 hP 0 rfl rfl 1 (by decide) hw0 (fun _ h9 => h9) rfl dX6_begins_51 ?_
      refine lv_bipush (v := 7) hx hb dX6_begins_54 (by decide) ?_
      refine lv_iload_n hx hb dX6_begins_56 rfl (lv_at hl 1 rfl) ?_
      obtain ⟨hin, h⟩ := o_g h
      refine va_iast hx hb hK.1 hP hD hS 1 0 rfl rfl hin dX6_begins_57 (fun H locs hP hD hS => ?_)
      have hP : va_P G vwCl [(a0, .inr (9, [.int th, .ref a1, .ref a2, .ref a3, .int sm, .ref a4, .int ln, .int nx, .int cd, .int dg, .int pw, .long hs])), (a1, .inl (cI, 378, .inl (upd (upd sa ((9 : Int32)).toNatClampNeg ((sa ((9 : Int32)).toNatClampNeg) + (1 : Int32))) ((7 : Int32)).toNatClampNeg v1))), (a2, .inl (cI, 378, .inl asd)), (a3, .inl (cI, 1512, .inl sv)), (a4, .inl (cI, 120, .inl mt))] H := hP
      have hD : va_D A [(a0, .inr (9, [.int th, .ref a1, .ref a2, .ref a3, .int sm, .ref a4, .int ln, .int nx, .int cd, .int dg, .int pw, .long hs])), (a1, .inl (cI, 378, .inl (upd (upd sa ((9 : Int32)).toNatClampNeg ((sa ((9 : Int32)).toNatClampNeg) + (1 : Int32))) ((7 : Int32)).toNatClampNeg v1))), (a2, .inl (cI, 378, .inl asd)), (a3, .inl (cI, 1512, .inl sv)), (a4, .inl (cI, 120, .inl mt))] := hD
      refine lv_aload_n hx hb dX6_begins_58 rfl (lv_at hl 0 rfl) ?_
      refine va_get (D := G) (ci := 9) (v := .ref a1) (C := RX6) (T := TX6) (N := 12) hx hb hts hin6 hown hK.1 hP 0 rfl rfl 1 (by decide) hw0 (fun _ h9 => h9) rfl dX6_begins_59 ?_
      refine lv_iconst (v := 5) hx hb dX6_begins_62 (by decide) ?_
      refine lv_iconst (v := 0) hx hb dX6_begins_63 (by decide) ?_
      obtain ⟨hin, h⟩ := o_g h
      refine va_iast hx hb hK.1 hP hD hS 1 0 rfl rfl hin dX6_begins_64 (fun H locs hP hD hS => ?_)
      have hP : va_P G vwCl [(a0, .inr (9, [.int th, .ref a1, .ref a2, .ref a3, .int sm, .ref a4, .int ln, .int nx, .int cd, .int dg, .int pw, .long hs])), (a1, .inl (cI, 378, .inl (upd (upd (upd sa ((9 : Int32)).toNatClampNeg ((sa ((9 : Int32)).toNatClampNeg) + (1 : Int32))) ((7 : Int32)).toNatClampNeg v1) ((5 : Int32)).toNatClampNeg (0 : Int32)))), (a2, .inl (cI, 378, .inl asd)), (a3, .inl (cI, 1512, .inl sv)), (a4, .inl (cI, 120, .inl mt))] H := hP
      have hD : va_D A [(a0, .inr (9, [.int th, .ref a1, .ref a2, .ref a3, .int sm, .ref a4, .int ln, .int nx, .int cd, .int dg, .int pw, .long hs])), (a1, .inl (cI, 378, .inl (upd (upd (upd sa ((9 : Int32)).toNatClampNeg ((sa ((9 : Int32)).toNatClampNeg) + (1 : Int32))) ((7 : Int32)).toNatClampNeg v1) ((5 : Int32)).toNatClampNeg (0 : Int32)))), (a2, .inl (cI, 378, .inl asd)), (a3, .inl (cI, 1512, .inl sv)), (a4, .inl (cI, 120, .inl mt))] := hD
      refine lv_aload_n hx hb dX6_begins_65 rfl (lv_at hl 0 rfl) ?_
      refine va_get (D := G) (ci := 9) (v := .ref a1) (C := RX6) (T := TX6) (N := 12) hx hb hts hin6 hown hK.1 hP 0 rfl rfl 1 (by decide) hw0 (fun _ h9 => h9) rfl dX6_begins_66 ?_
      refine lv_iconst (v := 4) hx hb dX6_begins_69 (by decide) ?_
      refine lv_iload_n hx hb dX6_begins_70 rfl (lv_at hl 1 rfl) ?_
      obtain ⟨hin, h⟩ := o_g h
      refine va_iast hx hb hK.1 hP hD hS 1 0 rfl rfl hin dX6_begins_71 (fun H locs hP hD hS => ?_)
      have hP : va_P G vwCl [(a0, .inr (9, [.int th, .ref a1, .ref a2, .ref a3, .int sm, .ref a4, .int ln, .int nx, .int cd, .int dg, .int pw, .long hs])), (a1, .inl (cI, 378, .inl (upd (upd (upd (upd sa ((9 : Int32)).toNatClampNeg ((sa ((9 : Int32)).toNatClampNeg) + (1 : Int32))) ((7 : Int32)).toNatClampNeg v1) ((5 : Int32)).toNatClampNeg (0 : Int32)) ((4 : Int32)).toNatClampNeg v1))), (a2, .inl (cI, 378, .inl asd)), (a3, .inl (cI, 1512, .inl sv)), (a4, .inl (cI, 120, .inl mt))] H := hP
      have hD : va_D A [(a0, .inr (9, [.int th, .ref a1, .ref a2, .ref a3, .int sm, .ref a4, .int ln, .int nx, .int cd, .int dg, .int pw, .long hs])), (a1, .inl (cI, 378, .inl (upd (upd (upd (upd sa ((9 : Int32)).toNatClampNeg ((sa ((9 : Int32)).toNatClampNeg) + (1 : Int32))) ((7 : Int32)).toNatClampNeg v1) ((5 : Int32)).toNatClampNeg (0 : Int32)) ((4 : Int32)).toNatClampNeg v1))), (a2, .inl (cI, 378, .inl asd)), (a3, .inl (cI, 1512, .inl sv)), (a4, .inl (cI, 120, .inl mt))] := hD
      refine lv_aload_n hx hb dX6_begins_72 rfl (lv_at hl 0 rfl) ?_
      refine lv_iload_n hx hb dX6_begins_73 rfl (lv_at hl 1 rfl) ?_
      refine lv_iconst (v := 4) hx hb dX6_begins_74 (by decide) ?_
      refine lv_iconst (v := 1) hx hb dX6_begins_75 (by decide) ?_
      obtain ⟨x2, ex2, h⟩ := o_b h
      refine call_vV (As := [.int v1, .int (4 : Int32), .int (1 : Int32)]) (rest := []) (ws2 := [(a0, .inr (9, [.int th, .ref a1, .ref a2, .ref a3, .int sm, .ref a4, .int ln, .int nx, .int cd, .int dg, .int pw, .long hs])), (a1, .inl (cI, 378, .inl x2)), (a2, .inl (cI, 378, .inl asd)), (a3, .inl (cI, 1512, .inl sv)), (a4, .inl (cI, 120, .inl mt))]) ⟨hx, hb, hml, hown, hts⟩ (cX6_set_ok l G cI cG a0 a1 a2 a3 a4 th (upd (upd (upd (upd sa ((9 : Int32)).toNatClampNeg ((sa ((9 : Int32)).toNatClampNeg) + (1 : Int32))) ((7 : Int32)).toNatClampNeg v1) ((5 : Int32)).toNatClampNeg (0 : Int32)) ((4 : Int32)).toNatClampNeg v1) asd sv sm mt ln nx cd dg pw hs v1 (4 : Int32) (1 : Int32) x2 ex2) (cwV 3 hts gX6_begins_X6_set rfl rfl rfl hdX6_set ⟨Nat.le_of_ble_eq_true rfl, Nat.le_of_ble_eq_true rfl⟩) hP hD hS hA hK 9 rfl rfl rfl [0, 1, 2, 3, 4] rfl rfl rfl rfl rfl rfl rfl rfl hl.1 (Nat.le_of_ble_eq_true rfl) dX6_begins_76 ⟨Nat.zero_le _, Nat.zero_le _⟩ (fun H locs hP hD hS => ?_)
      refine lv_aload_n hx hb dX6_begins_79 rfl (lv_at hl 0 rfl) ?_
      refine lv_iload_n hx hb dX6_begins_80 rfl (lv_at hl 1 rfl) ?_
      refine lv_iconst (v := 3) hx hb dX6_begins_81 (by decide) ?_
      refine lv_iconst (v := 1) hx hb dX6_begins_82 (by decide) ?_
      obtain ⟨x3, ex3, h⟩ := o_b h
      refine call_vV (As := [.int v1, .int (3 : Int32), .int (1 : Int32)]) (rest := []) (ws2 := [(a0, .inr (9, [.int th, .ref a1, .ref a2, .ref a3, .int sm, .ref a4, .int ln, .int nx, .int cd, .int dg, .int pw, .long hs])), (a1, .inl (cI, 378, .inl x3)), (a2, .inl (cI, 378, .inl asd)), (a3, .inl (cI, 1512, .inl sv)), (a4, .inl (cI, 120, .inl mt))]) ⟨hx, hb, hml, hown, hts⟩ (cX6_set_ok l G cI cG a0 a1 a2 a3 a4 th x2 asd sv sm mt ln nx cd dg pw hs v1 (3 : Int32) (1 : Int32) x3 ex3) (cwV 3 hts gX6_begins_X6_set rfl rfl rfl hdX6_set ⟨Nat.le_of_ble_eq_true rfl, Nat.le_of_ble_eq_true rfl⟩) hP hD hS hA hK 9 rfl rfl rfl [0, 1, 2, 3, 4] rfl rfl rfl rfl rfl rfl rfl rfl hl.1 (Nat.le_of_ble_eq_true rfl) dX6_begins_83 ⟨Nat.zero_le _, Nat.zero_le _⟩ (fun H locs hP hD hS => ?_)
      refine lv_aload_n hx hb dX6_begins_86 rfl (lv_at hl 0 rfl) ?_
      refine lv_iload_n hx hb dX6_begins_87 rfl (lv_at hl 1 rfl) ?_
      obtain ⟨x4, ex4, h⟩ := o_b h
      refine call_vV (As := [.int v1]) (rest := []) (ws2 := [(a0, .inr (9, [.int th, .ref a1, .ref a2, .ref a3, .int sm, .ref a4, .int ln, .int nx, .int cd, .int dg, .int pw, .long hs])), (a1, .inl (cI, 378, .inl x4)), (a2, .inl (cI, 378, .inl asd)), (a3, .inl (cI, 1512, .inl sv)), (a4, .inl (cI, 120, .inl mt))]) ⟨hx, hb, hml, hown, hts⟩ (cX6_sufferPoison_ok l G cI cG a0 a1 a2 a3 a4 fu th x3 asd sv sm mt ln nx cd dg pw hs v1 x4 ex4) (cwV 1 hts gX6_begins_X6_sufferPoison rfl rfl rfl hdX6_sufferPoison ⟨Nat.le_of_ble_eq_true rfl, Nat.le_of_ble_eq_true rfl⟩) hP hD hS hA hK 9 rfl rfl rfl [0, 1, 2, 3, 4] rfl rfl rfl rfl rfl rfl rfl rfl hl.1 (Nat.le_of_ble_eq_true rfl) dX6_begins_88 ⟨Nat.zero_le _, Nat.zero_le _⟩ (fun H locs hP hD hS => ?_)
      refine lv_aload_n hx hb dX6_begins_91 rfl (lv_at hl 0 rfl) ?_
      refine lv_iload_n hx hb dX6_begins_92 rfl (lv_at hl 1 rfl) ?_
      obtain ⟨x5, ex5, h⟩ := o_b h
      refine call_iV (As := [.int v1]) (rest := []) (ws2 := [(a0, .inr (9, [.int th, .ref a1, .ref a2, .ref a3, .int sm, .ref a4, .int ln, .int nx, .int cd, .int dg, .int pw, .long hs])), (a1, .inl (cI, 378, .inl x4)), (a2, .inl (cI, 378, .inl asd)), (a3, .inl (cI, 1512, .inl sv)), (a4, .inl (cI, 120, .inl mt))]) ⟨hx, hb, hml, hown, hts⟩ (cX6_stands_ok l G cI cG a0 a1 a2 a3 a4 th x4 asd sv sm mt ln nx cd dg pw hs v1 x5 ex5) (cwV 1 hts gX6_begins_X6_stands rfl rfl rfl hdX6_stands ⟨Nat.le_of_ble_eq_true rfl, Nat.le_of_ble_eq_true rfl⟩) hP hD hS hA hK 9 rfl rfl rfl [0, 1, 2, 3, 4] rfl rfl rfl rfl rfl rfl rfl rfl hl.1 (Nat.le_of_ble_eq_true rfl) dX6_begins_93 ⟨Nat.zero_le _, Nat.zero_le _⟩ (fun H locs hP hD hS => ?_)
      refine lv_if_ne (tgt := 109) hx hb dX6_begins_96 (by decide) (fun hc => ?_) (fun hc => ?_)
      · have h := o_f h hc
        refine lv_aload_n hx hb dX6_begins_109 rfl (lv_at hl 0 rfl) ?_
        refine lv_iload_n hx hb dX6_begins_110 rfl (lv_at hl 1 rfl) ?_
        refine lv_iconst (v := 4) hx hb dX6_begins_111 (by decide) ?_
        obtain ⟨x6, ex6, h⟩ := o_b h
        refine call_iV (As := [.int v1, .int (4 : Int32)]) (rest := []) (ws2 := [(a0, .inr (9, [.int th, .ref a1, .ref a2, .ref a3, .int sm, .ref a4, .int ln, .int nx, .int cd, .int dg, .int pw, .long hs])), (a1, .inl (cI, 378, .inl x4)), (a2, .inl (cI, 378, .inl asd)), (a3, .inl (cI, 1512, .inl sv)), (a4, .inl (cI, 120, .inl mt))]) ⟨hx, hb, hml, hown, hts⟩ (cX6_powersOn_ok l G cI cG a0 a1 a2 a3 a4 fu th x4 asd sv sm mt ln nx cd dg pw hs v1 (4 : Int32) x6 ex6) (cwV 2 hts gX6_begins_X6_powersOn rfl rfl rfl hdX6_powersOn ⟨Nat.le_of_ble_eq_true rfl, Nat.le_of_ble_eq_true rfl⟩) hP hD hS hA hK 9 rfl rfl rfl [0, 1, 2, 3, 4] rfl rfl rfl rfl rfl rfl rfl rfl hl.1 (Nat.le_of_ble_eq_true rfl) dX6_begins_112 ⟨Nat.zero_le _, Nat.zero_le _⟩ (fun H locs hP hD hS => ?_)
        refine lv_if_le (tgt := 138) hx hb dX6_begins_115 (by decide) (fun hc => ?_) (fun hc => ?_)
        · have h := o_t h hc
          refine lv_iload_n hx hb dX6_begins_138 rfl (lv_at hl 1 rfl) ?_
          obtain rfl := o_s h
          rw [hQ]
          exact end_i hx hb hr rfl hP hD hS dX6_begins_139 hlocks
        · have h := o_f h hc
          refine lv_aload_n hx hb dX6_begins_118 rfl (lv_at hl 0 rfl) ?_
          obtain ⟨x7, ex7, h⟩ := o_b h
          refine call_iV (As := []) (rest := []) (ws2 := [(a0, .inr (9, [.int th, .ref a1, .ref a2, .ref a3, .int sm, .ref a4, .int ln, .int nx, .int cd, .int dg, .int pw, .long hs])), (a1, .inl (cI, 378, .inl x7.2)), (a2, .inl (cI, 378, .inl asd)), (a3, .inl (cI, 1512, .inl sv)), (a4, .inl (cI, 120, .inl mt))]) ⟨hx, hb, hml, hown, hts⟩ (cX6_ends_ok l G cI cG a0 a1 a2 a3 a4 fu th x4 asd sv sm mt ln nx cd dg pw hs x7 ex7) (cwV 0 hts gX6_begins_X6_ends rfl rfl rfl hdX6_ends ⟨Nat.le_of_ble_eq_true rfl, Nat.le_of_ble_eq_true rfl⟩) hP hD hS hA hK 9 rfl rfl rfl [0, 1, 2, 3, 4] rfl rfl rfl rfl rfl rfl rfl rfl hl.1 (Nat.le_of_ble_eq_true rfl) dX6_begins_119 ⟨Nat.zero_le _, Nat.zero_le _⟩ (fun H locs hP hD hS => ?_)
          refine lv_istore_n (lv' := [(2, .int x7.1), (0, .ref a0), (1, .int v1)]) hx hb dX6_begins_122 rfl hl (by decide) rfl (fun ls hl => ?_)
          refine lv_aload_n hx hb dX6_begins_123 rfl (lv_at hl 1 rfl) ?_
          refine va_get (D := G) (ci := 9) (v := .ref a1) (C := RX6) (T := TX6) (N := 12) hx hb hts hin6 hown hK.1 hP 0 rfl rfl 1 (by decide) hw0 (fun _ h9 => h9) rfl dX6_begins_124 ?_
          refine lv_iconst (v := 4) hx hb dX6_begins_127 (by decide) ?_
          refine lv_iload_n hx hb dX6_begins_128 rfl (lv_at hl 0 rfl) ?_
          refine lv_if_ge (tgt := 136) hx hb dX6_begins_129 (by decide) (fun hc => ?_) (fun hc => ?_)
          · have h := o_t h hc
            refine lv_iconst (v := (-1)) hx hb dX6_begins_136 (by decide) ?_
            obtain ⟨hin, h⟩ := o_g h
            refine va_iast hx hb hK.1 hP hD hS 1 0 rfl rfl hin dX6_begins_137 (fun H locs hP hD hS => ?_)
            have hP : va_P G vwCl [(a0, .inr (9, [.int th, .ref a1, .ref a2, .ref a3, .int sm, .ref a4, .int ln, .int nx, .int cd, .int dg, .int pw, .long hs])), (a1, .inl (cI, 378, .inl (upd x7.2 ((4 : Int32)).toNatClampNeg (-1 : Int32)))), (a2, .inl (cI, 378, .inl asd)), (a3, .inl (cI, 1512, .inl sv)), (a4, .inl (cI, 120, .inl mt))] H := hP
            have hD : va_D A [(a0, .inr (9, [.int th, .ref a1, .ref a2, .ref a3, .int sm, .ref a4, .int ln, .int nx, .int cd, .int dg, .int pw, .long hs])), (a1, .inl (cI, 378, .inl (upd x7.2 ((4 : Int32)).toNatClampNeg (-1 : Int32)))), (a2, .inl (cI, 378, .inl asd)), (a3, .inl (cI, 1512, .inl sv)), (a4, .inl (cI, 120, .inl mt))] := hD
            refine lv_iload_n hx hb dX6_begins_138 rfl (lv_at hl 2 rfl) ?_
            obtain rfl := o_s h
            rw [hQ]
            exact end_i hx hb hr rfl hP hD hS dX6_begins_139 hlocks
          · have h := o_f h hc
            refine lv_iload_n hx hb dX6_begins_132 rfl (lv_at hl 2 rfl) ?_
            refine lv_goto (tgt := 137) hx hb dX6_begins_133 (by decide) ?_
            obtain ⟨hin, h⟩ := o_g h
            refine va_iast hx hb hK.1 hP hD hS 1 0 rfl rfl hin dX6_begins_137 (fun H locs hP hD hS => ?_)
            have hP : va_P G vwCl [(a0, .inr (9, [.int th, .ref a1, .ref a2, .ref a3, .int sm, .ref a4, .int ln, .int nx, .int cd, .int dg, .int pw, .long hs])), (a1, .inl (cI, 378, .inl (upd x7.2 ((4 : Int32)).toNatClampNeg v1))), (a2, .inl (cI, 378, .inl asd)), (a3, .inl (cI, 1512, .inl sv)), (a4, .inl (cI, 120, .inl mt))] H := hP
            have hD : va_D A [(a0, .inr (9, [.int th, .ref a1, .ref a2, .ref a3, .int sm, .ref a4, .int ln, .int nx, .int cd, .int dg, .int pw, .long hs])), (a1, .inl (cI, 378, .inl (upd x7.2 ((4 : Int32)).toNatClampNeg v1))), (a2, .inl (cI, 378, .inl asd)), (a3, .inl (cI, 1512, .inl sv)), (a4, .inl (cI, 120, .inl mt))] := hD
            refine lv_iload_n hx hb dX6_begins_138 rfl (lv_at hl 2 rfl) ?_
            obtain rfl := o_s h
            rw [hQ]
            exact end_i hx hb hr rfl hP hD hS dX6_begins_139 hlocks
      · have h := o_t h hc
        refine lv_aload_n hx hb dX6_begins_99 rfl (lv_at hl 0 rfl) ?_
        refine va_get (D := G) (ci := 9) (v := .ref a1) (C := RX6) (T := TX6) (N := 12) hx hb hts hin6 hown hK.1 hP 0 rfl rfl 1 (by decide) hw0 (fun _ h9 => h9) rfl dX6_begins_100 ?_
        refine lv_iconst (v := 4) hx hb dX6_begins_103 (by decide) ?_
        refine lv_iconst (v := (-1)) hx hb dX6_begins_104 (by decide) ?_
        obtain ⟨hin, h⟩ := o_g h
        refine va_iast hx hb hK.1 hP hD hS 1 0 rfl rfl hin dX6_begins_105 (fun H locs hP hD hS => ?_)
        have hP : va_P G vwCl [(a0, .inr (9, [.int th, .ref a1, .ref a2, .ref a3, .int sm, .ref a4, .int ln, .int nx, .int cd, .int dg, .int pw, .long hs])), (a1, .inl (cI, 378, .inl (upd x4 ((4 : Int32)).toNatClampNeg (-1 : Int32)))), (a2, .inl (cI, 378, .inl asd)), (a3, .inl (cI, 1512, .inl sv)), (a4, .inl (cI, 120, .inl mt))] H := hP
        have hD : va_D A [(a0, .inr (9, [.int th, .ref a1, .ref a2, .ref a3, .int sm, .ref a4, .int ln, .int nx, .int cd, .int dg, .int pw, .long hs])), (a1, .inl (cI, 378, .inl (upd x4 ((4 : Int32)).toNatClampNeg (-1 : Int32)))), (a2, .inl (cI, 378, .inl asd)), (a3, .inl (cI, 1512, .inl sv)), (a4, .inl (cI, 120, .inl mt))] := hD
        refine lv_goto (tgt := 138) hx hb dX6_begins_106 (by decide) ?_
        refine lv_iload_n hx hb dX6_begins_138 rfl (lv_at hl 1 rfl) ?_
        obtain rfl := o_s h
        rw [hQ]
        exact end_i hx hb hr rfl hP hD hS dX6_begins_139 hlocks
    · have h := o_t h hc
      refine lv_iconst (v := (-1)) hx hb dX6_begins_37 (by decide) ?_
      obtain rfl := o_s h
      rw [hQ]
      exact end_i hx hb hr rfl hP hD hS dX6_begins_38 hlocks
  have J17 : ∀ (sa : (Nat → Int32)) (t0 : Int32) (H : Heap) (locs : List Loc) (ls : Array Slot), fX6_begins_J17 fu sa t0 = some out → va_P G vwCl [(a0, .inr (9, [.int th, .ref a1, .ref a2, .ref a3, .int sm, .ref a4, .int ln, .int nx, .int cd, .int dg, .int pw, .long hs])), (a1, .inl (cI, 378, .inl sa)), (a2, .inl (cI, 378, .inl asd)), (a3, .inl (cI, 1512, .inl sv)), (a4, .inl (cI, 120, .inl mt))] H → va_D A [(a0, .inr (9, [.int th, .ref a1, .ref a2, .ref a3, .int sm, .ref a4, .int ln, .int nx, .int cd, .int dg, .int pw, .long hs])), (a1, .inl (cI, 378, .inl sa)), (a2, .inl (cI, 378, .inl asd)), (a3, .inl (cI, 1512, .inl sv)), (a4, .inl (cI, 120, .inl mt))] → va_S A s.heap H locs → lv_has ls 3 [(0, .ref a0)] → W p l e ({ frames := 5, cells := 0, slots := 0, locals := 115 } : Room) s m ([.ref a0] : List Value).toArray below meth c H locs 0 0 Q (F0 m 17 ls [.int t0]) := by
    intro sa t0 H locs ls h hP hD hS hl
    rw [fX6_begins_J17] at h
    refine lv_istore_n (lv' := [(1, .int t0), (0, .ref a0)]) hx hb dX6_begins_17 rfl hl (by decide) rfl (fun ls hl => ?_)
    refine lv_iload_n hx hb dX6_begins_18 rfl (lv_at hl 0 rfl) ?_
    refine lv_iconst (v := (-1)) hx hb dX6_begins_19 (by decide) ?_
    refine lv_icmp_ne (tgt := 32) hx hb dX6_begins_20 (by decide) (fun hc => ?_) (fun hc => ?_)
    · have h := o_f h hc
      exact J32 sa t0 _ _ _ h hP hD hS (lv_sub hl [1, 0] rfl)
    · have h := o_t h hc
      refine lv_aload_n hx hb dX6_begins_23 rfl (lv_at hl 1 rfl) ?_
      obtain ⟨x8, ex8, h⟩ := o_b h
      refine call_vV (As := []) (rest := []) (ws2 := [(a0, .inr (9, [.int th, .ref a1, .ref a2, .ref a3, .int sm, .ref a4, .int ln, .int nx, .int cd, .int dg, .int pw, .long hs])), (a1, .inl (cI, 378, .inl x8)), (a2, .inl (cI, 378, .inl asd)), (a3, .inl (cI, 1512, .inl sv)), (a4, .inl (cI, 120, .inl mt))]) ⟨hx, hb, hml, hown, hts⟩ (cX6_newRound_ok l G cI cG a0 a1 a2 a3 a4 fu th sa asd sv sm mt ln nx cd dg pw hs x8 ex8) (cwV 0 hts gX6_begins_X6_newRound rfl rfl rfl hdX6_newRound ⟨Nat.le_of_ble_eq_true rfl, Nat.le_of_ble_eq_true rfl⟩) hP hD hS hA hK 9 rfl rfl rfl [0, 1, 2, 3, 4] rfl rfl rfl rfl rfl rfl rfl rfl hl.1 (Nat.le_of_ble_eq_true rfl) dX6_begins_24 ⟨Nat.zero_le _, Nat.zero_le _⟩ (fun H locs hP hD hS => ?_)
      refine lv_aload_n hx hb dX6_begins_27 rfl (lv_at hl 1 rfl) ?_
      obtain ⟨x9, ex9, h⟩ := o_b h
      refine call_iV (As := []) (rest := []) (ws2 := [(a0, .inr (9, [.int th, .ref a1, .ref a2, .ref a3, .int sm, .ref a4, .int ln, .int nx, .int cd, .int dg, .int pw, .long hs])), (a1, .inl (cI, 378, .inl x8)), (a2, .inl (cI, 378, .inl asd)), (a3, .inl (cI, 1512, .inl sv)), (a4, .inl (cI, 120, .inl mt))]) ⟨hx, hb, hml, hown, hts⟩ (cX6_firstWaiting_ok l G cI cG a0 a1 a2 a3 a4 fu th x8 asd sv sm mt ln nx cd dg pw hs x9 ex9) (cwV 0 hts gX6_begins_X6_firstWaiting rfl rfl rfl hdX6_firstWaiting ⟨Nat.le_of_ble_eq_true rfl, Nat.le_of_ble_eq_true rfl⟩) hP hD hS hA hK 9 rfl rfl rfl [0, 1, 2, 3, 4] rfl rfl rfl rfl rfl rfl rfl rfl hl.1 (Nat.le_of_ble_eq_true rfl) dX6_begins_28 ⟨Nat.zero_le _, Nat.zero_le _⟩ (fun H locs hP hD hS => ?_)
      refine lv_istore_n (lv' := [(1, .int x9), (0, .ref a0)]) hx hb dX6_begins_31 rfl hl (by decide) rfl (fun ls hl => ?_)
      exact J32 x8 x9 _ _ _ h hP hD hS (lv_sub hl [1, 0] rfl)
  have h := hf
  rw [fX6_begins] at h
  have hl := lv_entry ([.ref a0]) (n := 3) (Nat.le_of_ble_eq_true rfl)
  rw [lg_entry_eq]
  generalize (lg_sl ([.ref a0]) ++ List.replicate (3 - (lg_sl ([.ref a0])).length) Slot.unset).toArray = ls at hl ⊢
  have hl : lv_has ls 3 [(0, .ref a0)] := hl
  refine lv_aload_n hx hb dX6_begins_0 rfl (lv_at hl 0 rfl) ?_
  refine va_get (D := G) (ci := 9) (v := .ref a1) (C := RX6) (T := TX6) (N := 12) hx hb hts hin6 hown hK.1 hP 0 rfl rfl 1 (by decide) hw0 (fun _ h9 => h9) rfl dX6_begins_1 ?_
  refine lv_iconst (v := 3) hx hb dX6_begins_4 (by decide) ?_
  obtain ⟨hin, h⟩ := o_g h
  refine va_iald hx hb hK.1 hP 1 0 rfl rfl hin dX6_begins_5 ?_
  refine lv_if_ne (tgt := 13) hx hb dX6_begins_6 (by decide) (fun hc => ?_) (fun hc => ?_)
  · have h := o_f h hc
    refine lv_aload_n hx hb dX6_begins_13 rfl (lv_at hl 0 rfl) ?_
    obtain ⟨x1, ex1, h⟩ := o_b h
    refine call_iV (As := []) (rest := []) (ws2 := [(a0, .inr (9, [.int th, .ref a1, .ref a2, .ref a3, .int sm, .ref a4, .int ln, .int nx, .int cd, .int dg, .int pw, .long hs])), (a1, .inl (cI, 378, .inl sa)), (a2, .inl (cI, 378, .inl asd)), (a3, .inl (cI, 1512, .inl sv)), (a4, .inl (cI, 120, .inl mt))]) ⟨hx, hb, hml, hown, hts⟩ (cX6_firstWaiting_ok l G cI cG a0 a1 a2 a3 a4 fu th sa asd sv sm mt ln nx cd dg pw hs x1 ex1) (cwV 0 hts gX6_begins_X6_firstWaiting rfl rfl rfl hdX6_firstWaiting ⟨Nat.le_of_ble_eq_true rfl, Nat.le_of_ble_eq_true rfl⟩) hP hD hS hA hK 9 rfl rfl rfl [0, 1, 2, 3, 4] rfl rfl rfl rfl rfl rfl rfl rfl hl.1 (Nat.le_of_ble_eq_true rfl) dX6_begins_14 ⟨Nat.zero_le _, Nat.zero_le _⟩ (fun H locs hP hD hS => ?_)
    exact J17 sa x1 _ _ _ h hP hD hS (lv_sub hl [0] rfl)
  · have h := o_t h hc
    refine lv_iconst (v := (-1)) hx hb dX6_begins_9 (by decide) ?_
    refine lv_goto (tgt := 17) hx hb dX6_begins_10 (by decide) ?_
    exact J17 sa (-1 : Int32) _ _ _ h hP hD hS (lv_sub hl [0] rfl)
theorem hdX6_canDelay : yX6_canDelay.cls = RX6 ∧ yX6_canDelay.cls ≠ "java/lang/invoke/MethodHandle" ∧ yX6_canDelay.cls ≠ "java/lang/invoke/VarHandle" ∧ (parseMethodDescriptor yX6_canDelay.desc).map (fun d => d.parameters.length) = some 0 := by decide +kernel
set_option maxHeartbeats 4000000 in
set_option maxRecDepth 100000 in
theorem cX6_canDelay_ok (l : Launch) (G : va_G) (cI cG : ClassId) (a0 a1 a2 a3 a4 : Nat) (th : Int32) (sa : (Nat → Int32)) (asd : (Nat → Int32)) (sv : (Nat → Int32)) (sm : Int32) (mt : (Nat → Int32)) (ln : Int32) (nx : Int32) (cd : Int32) (dg : Int32) (pw : Int32) (hs : Int64) (out : Bool) (hf : fX6_canDelay sa = some out) : CI l G (tyz cI cG) yX6_canDelay wsX6_canDelay ({ frames := 1, cells := 0, slots := 0, locals := 22 } : Room) [.ref a0] [(a0, .inr (9, [.int th, .ref a1, .ref a2, .ref a3, .int sm, .ref a4, .int ln, .int nx, .int cd, .int dg, .int pw, .long hs])), (a1, .inl (cI, 378, .inl sa)), (a2, .inl (cI, 378, .inl asd)), (a3, .inl (cI, 1512, .inl sv)), (a4, .inl (cI, 120, .inl mt))] (bI out) [(a0, .inr (9, [.int th, .ref a1, .ref a2, .ref a3, .int sm, .ref a4, .int ln, .int nx, .int cd, .int dg, .int pw, .long hs])), (a1, .inl (cI, 378, .inl sa)), (a2, .inl (cI, 378, .inl asd)), (a3, .inl (cI, 1512, .inl sv)), (a4, .inl (cI, 120, .inl mt))] := by
  intro sz
  refine Met.ofW (cc := cX6_canDelay) (maxL := 1) (ret := (some .boolean)) (by decide) rfl ?_
  intro p e s m args below meth c s₁ B hml hv
  obtain ⟨rfl, hsz, hP, hK, hD0⟩ := hv
  have hx := B.exec
  have hb := B.bytes
  have hr := B.returns
  have hts := atoms_spec (ws := wsX6_canDelay) B.pre
  have hown : s.vm.findClass RX6 = some m.cls := findClass_of_methodNamed B.named
  have hlocks := B.notSynchronized
  subst hsz
  have hD := hD0.self (sz := s.heap.size)
  generalize hAe : va_A [(a0, .inr (9, [.int th, .ref a1, .ref a2, .ref a3, .int sm, .ref a4, .int ln, .int nx, .int cd, .int dg, .int pw, .long hs])), (a1, .inl (cI, 378, .inl sa)), (a2, .inl (cI, 378, .inl asd)), (a3, .inl (cI, 1512, .inl sv)), (a4, .inl (cI, 120, .inl mt))] s.heap.size = A at hD ⊢
  have hA : ∀ q : Nat, s.heap.size ≤ q → A q := fun q h => by rw [← hAe]; exact Or.inr h
  have hS : va_S A s.heap s.heap [] := va_S.rf
  have hw0 := hts (.fieldLink RX6 7 "SpeedTurnsModel" "s" "[I") (List.mem_of_getElem? (i := 1) rfl)
  have hin6 : ∀ w ∈ u_ws RX6 TX6 12, w ∈ wsX6_canDelay := by decide +kernel
  show W p l e ({ frames := 1, cells := 0, slots := 0, locals := 22 } : Room) s m _ below meth c s.heap [] 0 0 _ _
  refine W_genQ (fun Q hQ => ?_)
  have h := hf
  rw [fX6_canDelay] at h
  have hl := lv_entry ([.ref a0]) (n := 1) (Nat.le_of_ble_eq_true rfl)
  rw [lg_entry_eq]
  generalize (lg_sl ([.ref a0]) ++ List.replicate (1 - (lg_sl ([.ref a0])).length) Slot.unset).toArray = ls at hl ⊢
  have hl : lv_has ls 1 [(0, .ref a0)] := hl
  refine lv_aload_n hx hb dX6_canDelay_0 rfl (lv_at hl 0 rfl) ?_
  refine va_get (D := G) (ci := 9) (v := .ref a1) (C := RX6) (T := TX6) (N := 12) hx hb hts hin6 hown hK.1 hP 0 rfl rfl 1 (by decide) hw0 (fun _ h9 => h9) rfl dX6_canDelay_1 ?_
  refine lv_iconst (v := 4) hx hb dX6_canDelay_4 (by decide) ?_
  obtain ⟨hin, h⟩ := o_g h
  refine va_iald hx hb hK.1 hP 1 0 rfl rfl hin dX6_canDelay_5 ?_
  refine lv_iconst (v := (-1)) hx hb dX6_canDelay_6 (by decide) ?_
  refine lv_icmp_eq (tgt := 37) hx hb dX6_canDelay_7 (by decide) (fun hc => ?_) (fun hc => ?_)
  · have h := o_t h hc
    refine lv_iconst (v := 0) hx hb dX6_canDelay_37 (by decide) ?_
    obtain rfl := o_s h
    rw [hQ]
    exact end_z hx hb hr rfl rfl hP hD hS dX6_canDelay_38 hlocks
  · have h := o_f h hc
    refine lv_aload_n hx hb dX6_canDelay_10 rfl (lv_at hl 0 rfl) ?_
    refine va_get (D := G) (ci := 9) (v := .ref a1) (C := RX6) (T := TX6) (N := 12) hx hb hts hin6 hown hK.1 hP 0 rfl rfl 1 (by decide) hw0 (fun _ h9 => h9) rfl dX6_canDelay_11 ?_
    refine lv_iconst (v := 5) hx hb dX6_canDelay_14 (by decide) ?_
    obtain ⟨hin, h⟩ := o_g h
    refine va_iald hx hb hK.1 hP 1 0 rfl rfl hin dX6_canDelay_15 ?_
    refine lv_if_ne (tgt := 37) hx hb dX6_canDelay_16 (by decide) (fun hc => ?_) (fun hc => ?_)
    · have h := o_f h hc
      refine lv_iconst (v := 0) hx hb dX6_canDelay_37 (by decide) ?_
      obtain rfl := o_s h
      rw [hQ]
      exact end_z hx hb hr rfl rfl hP hD hS dX6_canDelay_38 hlocks
    · have h := o_t h hc
      refine lv_aload_n hx hb dX6_canDelay_19 rfl (lv_at hl 0 rfl) ?_
      refine lv_aload_n hx hb dX6_canDelay_20 rfl (lv_at hl 0 rfl) ?_
      refine va_get (D := G) (ci := 9) (v := .ref a1) (C := RX6) (T := TX6) (N := 12) hx hb hts hin6 hown hK.1 hP 0 rfl rfl 1 (by decide) hw0 (fun _ h9 => h9) rfl dX6_canDelay_21 ?_
      refine lv_iconst (v := 4) hx hb dX6_canDelay_24 (by decide) ?_
      obtain ⟨hin, h⟩ := o_g h
      refine va_iald hx hb hK.1 hP 1 0 rfl rfl hin dX6_canDelay_25 ?_
      refine lv_iconst (v := 5) hx hb dX6_canDelay_26 (by decide) ?_
      obtain ⟨x1, ex1, h⟩ := o_b h
      refine call_iV (As := [.int (sa ((4 : Int32)).toNatClampNeg), .int (5 : Int32)]) (rest := []) (ws2 := [(a0, .inr (9, [.int th, .ref a1, .ref a2, .ref a3, .int sm, .ref a4, .int ln, .int nx, .int cd, .int dg, .int pw, .long hs])), (a1, .inl (cI, 378, .inl sa)), (a2, .inl (cI, 378, .inl asd)), (a3, .inl (cI, 1512, .inl sv)), (a4, .inl (cI, 120, .inl mt))]) ⟨hx, hb, hml, hown, hts⟩ (cX6_of_ok l G cI cG a0 a1 a2 a3 a4 th sa asd sv sm mt ln nx cd dg pw hs (sa ((4 : Int32)).toNatClampNeg) (5 : Int32) x1 ex1) (cwV 2 hts gX6_canDelay_X6_of rfl rfl rfl hdX6_of ⟨Nat.le_of_ble_eq_true rfl, Nat.le_of_ble_eq_true rfl⟩) hP hD hS hA hK 9 rfl rfl rfl [0, 1, 2, 3, 4] rfl rfl rfl rfl rfl rfl rfl rfl hl.1 (Nat.le_of_ble_eq_true rfl) dX6_canDelay_27 ⟨Nat.zero_le _, Nat.zero_le _⟩ (fun H locs hP hD hS => ?_)
      refine lv_if_ne (tgt := 37) hx hb dX6_canDelay_30 (by decide) (fun hc => ?_) (fun hc => ?_)
      · have h := o_f h hc
        refine lv_iconst (v := 0) hx hb dX6_canDelay_37 (by decide) ?_
        obtain rfl := o_s h
        rw [hQ]
        exact end_z hx hb hr rfl rfl hP hD hS dX6_canDelay_38 hlocks
      · have h := o_t h hc
        refine lv_iconst (v := 1) hx hb dX6_canDelay_33 (by decide) ?_
        refine lv_goto (tgt := 38) hx hb dX6_canDelay_34 (by decide) ?_
        obtain rfl := o_s h
        rw [hQ]
        exact end_z hx hb hr rfl rfl hP hD hS dX6_canDelay_38 hlocks
theorem hdX6_delays : yX6_delays.cls = RX6 ∧ yX6_delays.cls ≠ "java/lang/invoke/MethodHandle" ∧ yX6_delays.cls ≠ "java/lang/invoke/VarHandle" ∧ (parseMethodDescriptor yX6_delays.desc).map (fun d => d.parameters.length) = some 0 := by decide +kernel
set_option maxHeartbeats 4000000 in
set_option maxRecDepth 100000 in
theorem cX6_delays_ok (l : Launch) (G : va_G) (cI cG : ClassId) (a0 a1 a2 a3 a4 : Nat) (th : Int32) (sa : (Nat → Int32)) (asd : (Nat → Int32)) (sv : (Nat → Int32)) (sm : Int32) (mt : (Nat → Int32)) (ln : Int32) (nx : Int32) (cd : Int32) (dg : Int32) (pw : Int32) (hs : Int64) (out : Int32 × (Nat → Int32)) (hf : fX6_delays sa = some out) : CI l G (tyz cI cG) yX6_delays wsX6_delays ({ frames := 1, cells := 0, slots := 0, locals := 23 } : Room) [.ref a0] [(a0, .inr (9, [.int th, .ref a1, .ref a2, .ref a3, .int sm, .ref a4, .int ln, .int nx, .int cd, .int dg, .int pw, .long hs])), (a1, .inl (cI, 378, .inl sa)), (a2, .inl (cI, 378, .inl asd)), (a3, .inl (cI, 1512, .inl sv)), (a4, .inl (cI, 120, .inl mt))] out.1 [(a0, .inr (9, [.int th, .ref a1, .ref a2, .ref a3, .int sm, .ref a4, .int ln, .int nx, .int cd, .int dg, .int pw, .long hs])), (a1, .inl (cI, 378, .inl out.2)), (a2, .inl (cI, 378, .inl asd)), (a3, .inl (cI, 1512, .inl sv)), (a4, .inl (cI, 120, .inl mt))] := by
  intro sz
  refine Met.ofW (cc := cX6_delays) (maxL := 2) (ret := (some .int)) (by decide) rfl ?_
  intro p e s m args below meth c s₁ B hml hv
  obtain ⟨rfl, hsz, hP, hK, hD0⟩ := hv
  have hx := B.exec
  have hb := B.bytes
  have hr := B.returns
  have hts := atoms_spec (ws := wsX6_delays) B.pre
  have hown : s.vm.findClass RX6 = some m.cls := findClass_of_methodNamed B.named
  have hlocks := B.notSynchronized
  subst hsz
  have hD := hD0.self (sz := s.heap.size)
  generalize hAe : va_A [(a0, .inr (9, [.int th, .ref a1, .ref a2, .ref a3, .int sm, .ref a4, .int ln, .int nx, .int cd, .int dg, .int pw, .long hs])), (a1, .inl (cI, 378, .inl sa)), (a2, .inl (cI, 378, .inl asd)), (a3, .inl (cI, 1512, .inl sv)), (a4, .inl (cI, 120, .inl mt))] s.heap.size = A at hD ⊢
  have hA : ∀ q : Nat, s.heap.size ≤ q → A q := fun q h => by rw [← hAe]; exact Or.inr h
  have hS : va_S A s.heap s.heap [] := va_S.rf
  have hw0 := hts (.fieldLink RX6 7 "SpeedTurnsModel" "s" "[I") (List.mem_of_getElem? (i := 1) rfl)
  have hin6 : ∀ w ∈ u_ws RX6 TX6 12, w ∈ wsX6_delays := by decide +kernel
  show W p l e ({ frames := 1, cells := 0, slots := 0, locals := 23 } : Room) s m _ below meth c s.heap [] 0 0 _ _
  refine W_genQ (fun Q hQ => ?_)
  have h := hf
  rw [fX6_delays] at h
  have hl := lv_entry ([.ref a0]) (n := 2) (Nat.le_of_ble_eq_true rfl)
  rw [lg_entry_eq]
  generalize (lg_sl ([.ref a0]) ++ List.replicate (2 - (lg_sl ([.ref a0])).length) Slot.unset).toArray = ls at hl ⊢
  have hl : lv_has ls 2 [(0, .ref a0)] := hl
  refine lv_aload_n hx hb dX6_delays_0 rfl (lv_at hl 0 rfl) ?_
  refine va_get (D := G) (ci := 9) (v := .ref a1) (C := RX6) (T := TX6) (N := 12) hx hb hts hin6 hown hK.1 hP 0 rfl rfl 1 (by decide) hw0 (fun _ h9 => h9) rfl dX6_delays_1 ?_
  refine lv_iconst (v := 4) hx hb dX6_delays_4 (by decide) ?_
  obtain ⟨hin, h⟩ := o_g h
  refine va_iald hx hb hK.1 hP 1 0 rfl rfl hin dX6_delays_5 ?_
  refine lv_istore_n (lv' := [(1, .int (sa ((4 : Int32)).toNatClampNeg)), (0, .ref a0)]) hx hb dX6_delays_6 rfl hl (by decide) rfl (fun ls hl => ?_)
  refine lv_aload_n hx hb dX6_delays_7 rfl (lv_at hl 1 rfl) ?_
  refine lv_iload_n hx hb dX6_delays_8 rfl (lv_at hl 0 rfl) ?_
  refine lv_iconst (v := 4) hx hb dX6_delays_9 (by decide) ?_
  refine lv_iconst (v := 2) hx hb dX6_delays_10 (by decide) ?_
  obtain ⟨x1, ex1, h⟩ := o_b h
  refine call_vV (As := [.int (sa ((4 : Int32)).toNatClampNeg), .int (4 : Int32), .int (2 : Int32)]) (rest := []) (ws2 := [(a0, .inr (9, [.int th, .ref a1, .ref a2, .ref a3, .int sm, .ref a4, .int ln, .int nx, .int cd, .int dg, .int pw, .long hs])), (a1, .inl (cI, 378, .inl x1)), (a2, .inl (cI, 378, .inl asd)), (a3, .inl (cI, 1512, .inl sv)), (a4, .inl (cI, 120, .inl mt))]) ⟨hx, hb, hml, hown, hts⟩ (cX6_set_ok l G cI cG a0 a1 a2 a3 a4 th sa asd sv sm mt ln nx cd dg pw hs (sa ((4 : Int32)).toNatClampNeg) (4 : Int32) (2 : Int32) x1 ex1) (cwV 3 hts gX6_delays_X6_set rfl rfl rfl hdX6_set ⟨Nat.le_of_ble_eq_true rfl, Nat.le_of_ble_eq_true rfl⟩) hP hD hS hA hK 9 rfl rfl rfl [0, 1, 2, 3, 4] rfl rfl rfl rfl rfl rfl rfl rfl hl.1 (Nat.le_of_ble_eq_true rfl) dX6_delays_11 ⟨Nat.zero_le _, Nat.zero_le _⟩ (fun H locs hP hD hS => ?_)
  refine lv_aload_n hx hb dX6_delays_14 rfl (lv_at hl 1 rfl) ?_
  refine lv_iload_n hx hb dX6_delays_15 rfl (lv_at hl 0 rfl) ?_
  refine lv_iconst (v := 5) hx hb dX6_delays_16 (by decide) ?_
  refine lv_iconst (v := 1) hx hb dX6_delays_17 (by decide) ?_
  obtain ⟨x2, ex2, h⟩ := o_b h
  refine call_vV (As := [.int (sa ((4 : Int32)).toNatClampNeg), .int (5 : Int32), .int (1 : Int32)]) (rest := []) (ws2 := [(a0, .inr (9, [.int th, .ref a1, .ref a2, .ref a3, .int sm, .ref a4, .int ln, .int nx, .int cd, .int dg, .int pw, .long hs])), (a1, .inl (cI, 378, .inl x2)), (a2, .inl (cI, 378, .inl asd)), (a3, .inl (cI, 1512, .inl sv)), (a4, .inl (cI, 120, .inl mt))]) ⟨hx, hb, hml, hown, hts⟩ (cX6_set_ok l G cI cG a0 a1 a2 a3 a4 th x1 asd sv sm mt ln nx cd dg pw hs (sa ((4 : Int32)).toNatClampNeg) (5 : Int32) (1 : Int32) x2 ex2) (cwV 3 hts gX6_delays_X6_set rfl rfl rfl hdX6_set ⟨Nat.le_of_ble_eq_true rfl, Nat.le_of_ble_eq_true rfl⟩) hP hD hS hA hK 9 rfl rfl rfl [0, 1, 2, 3, 4] rfl rfl rfl rfl rfl rfl rfl rfl hl.1 (Nat.le_of_ble_eq_true rfl) dX6_delays_18 ⟨Nat.zero_le _, Nat.zero_le _⟩ (fun H locs hP hD hS => ?_)
  refine lv_aload_n hx hb dX6_delays_21 rfl (lv_at hl 1 rfl) ?_
  refine va_get (D := G) (ci := 9) (v := .ref a1) (C := RX6) (T := TX6) (N := 12) hx hb hts hin6 hown hK.1 hP 0 rfl rfl 1 (by decide) hw0 (fun _ h9 => h9) rfl dX6_delays_22 ?_
  refine lv_iconst (v := 4) hx hb dX6_delays_25 (by decide) ?_
  refine lv_iconst (v := (-1)) hx hb dX6_delays_26 (by decide) ?_
  obtain ⟨hin, h⟩ := o_g h
  refine va_iast hx hb hK.1 hP hD hS 1 0 rfl rfl hin dX6_delays_27 (fun H locs hP hD hS => ?_)
  have hP : va_P G vwCl [(a0, .inr (9, [.int th, .ref a1, .ref a2, .ref a3, .int sm, .ref a4, .int ln, .int nx, .int cd, .int dg, .int pw, .long hs])), (a1, .inl (cI, 378, .inl (upd x2 ((4 : Int32)).toNatClampNeg (-1 : Int32)))), (a2, .inl (cI, 378, .inl asd)), (a3, .inl (cI, 1512, .inl sv)), (a4, .inl (cI, 120, .inl mt))] H := hP
  have hD : va_D A [(a0, .inr (9, [.int th, .ref a1, .ref a2, .ref a3, .int sm, .ref a4, .int ln, .int nx, .int cd, .int dg, .int pw, .long hs])), (a1, .inl (cI, 378, .inl (upd x2 ((4 : Int32)).toNatClampNeg (-1 : Int32)))), (a2, .inl (cI, 378, .inl asd)), (a3, .inl (cI, 1512, .inl sv)), (a4, .inl (cI, 120, .inl mt))] := hD
  refine lv_iload_n hx hb dX6_delays_28 rfl (lv_at hl 0 rfl) ?_
  obtain rfl := o_s h
  rw [hQ]
  exact end_i hx hb hr rfl hP hD hS dX6_delays_29 hlocks
theorem hdX6_placeOf : yX6_placeOf.cls = RX6 ∧ yX6_placeOf.cls ≠ "java/lang/invoke/MethodHandle" ∧ yX6_placeOf.cls ≠ "java/lang/invoke/VarHandle" ∧ (parseMethodDescriptor yX6_placeOf.desc).map (fun d => d.parameters.length) = some 1 := by decide +kernel
set_option maxHeartbeats 4000000 in
set_option maxRecDepth 100000 in
theorem cX6_placeOf_ok (l : Launch) (G : va_G) (cI cG : ClassId) (a0 a1 a2 a3 a4 : Nat) (fu : Nat) (th : Int32) (sa : (Nat → Int32)) (asd : (Nat → Int32)) (sv : (Nat → Int32)) (sm : Int32) (mt : (Nat → Int32)) (ln : Int32) (nx : Int32) (cd : Int32) (dg : Int32) (pw : Int32) (hs : Int64) (p1 : Int32) (out : Int32) (hf : fX6_placeOf fu sa p1 = some out) : CI l G (tyz cI cG) yX6_placeOf wsX6_placeOf ({ frames := 0, cells := 0, slots := 0, locals := 0 } : Room) [.ref a0, .int p1] [(a0, .inr (9, [.int th, .ref a1, .ref a2, .ref a3, .int sm, .ref a4, .int ln, .int nx, .int cd, .int dg, .int pw, .long hs])), (a1, .inl (cI, 378, .inl sa)), (a2, .inl (cI, 378, .inl asd)), (a3, .inl (cI, 1512, .inl sv)), (a4, .inl (cI, 120, .inl mt))] out [(a0, .inr (9, [.int th, .ref a1, .ref a2, .ref a3, .int sm, .ref a4, .int ln, .int nx, .int cd, .int dg, .int pw, .long hs])), (a1, .inl (cI, 378, .inl sa)), (a2, .inl (cI, 378, .inl asd)), (a3, .inl (cI, 1512, .inl sv)), (a4, .inl (cI, 120, .inl mt))] := by
  intro sz
  refine Met.ofW (cc := cX6_placeOf) (maxL := 3) (ret := (some .int)) (by decide) rfl ?_
  intro p e s m args below meth c s₁ B hml hv
  obtain ⟨rfl, hsz, hP, hK, hD0⟩ := hv
  have hx := B.exec
  have hb := B.bytes
  have hr := B.returns
  have hts := atoms_spec (ws := wsX6_placeOf) B.pre
  have hown : s.vm.findClass RX6 = some m.cls := findClass_of_methodNamed B.named
  have hlocks := B.notSynchronized
  subst hsz
  have hD := hD0.self (sz := s.heap.size)
  generalize hAe : va_A [(a0, .inr (9, [.int th, .ref a1, .ref a2, .ref a3, .int sm, .ref a4, .int ln, .int nx, .int cd, .int dg, .int pw, .long hs])), (a1, .inl (cI, 378, .inl sa)), (a2, .inl (cI, 378, .inl asd)), (a3, .inl (cI, 1512, .inl sv)), (a4, .inl (cI, 120, .inl mt))] s.heap.size = A at hD ⊢
  have hA : ∀ q : Nat, s.heap.size ≤ q → A q := fun q h => by rw [← hAe]; exact Or.inr h
  have hS : va_S A s.heap s.heap [] := va_S.rf
  have hw0 := hts (.fieldLink RX6 7 "SpeedTurnsModel" "s" "[I") (List.mem_of_getElem? (i := 1) rfl)
  have hin6 : ∀ w ∈ u_ws RX6 TX6 12, w ∈ wsX6_placeOf := by decide +kernel
  show W p l e ({ frames := 0, cells := 0, slots := 0, locals := 0 } : Room) s m _ below meth c s.heap [] 0 0 _ _
  refine W_genQ (fun Q hQ => ?_)
  have L2 : ∀ (k : Nat) (v2 : Int32) (H : Heap) (locs : List Loc) (ls : Array Slot), fX6_placeOf_L2 fu sa p1 k v2 = some out → va_P G vwCl [(a0, .inr (9, [.int th, .ref a1, .ref a2, .ref a3, .int sm, .ref a4, .int ln, .int nx, .int cd, .int dg, .int pw, .long hs])), (a1, .inl (cI, 378, .inl sa)), (a2, .inl (cI, 378, .inl asd)), (a3, .inl (cI, 1512, .inl sv)), (a4, .inl (cI, 120, .inl mt))] H → va_D A [(a0, .inr (9, [.int th, .ref a1, .ref a2, .ref a3, .int sm, .ref a4, .int ln, .int nx, .int cd, .int dg, .int pw, .long hs])), (a1, .inl (cI, 378, .inl sa)), (a2, .inl (cI, 378, .inl asd)), (a3, .inl (cI, 1512, .inl sv)), (a4, .inl (cI, 120, .inl mt))] → va_S A s.heap H locs → lv_has ls 3 [(0, .ref a0), (1, .int p1), (2, .int v2)] → W p l e ({ frames := 0, cells := 0, slots := 0, locals := 0 } : Room) s m ([.ref a0, .int p1] : List Value).toArray below meth c H locs 0 0 Q (F0 m 2 ls []) := by
    intro k
    induction k with
    | zero => intro v2 H locs ls h hP hD hS hl; rw [fX6_placeOf_L2] at h; exact o_n h
    | succ k ih =>
      intro v2 H locs ls h hP hD hS hl
      rw [fX6_placeOf_L2] at h
      refine lv_iload_n hx hb dX6_placeOf_2 rfl (lv_at hl 2 rfl) ?_
      refine lv_aload_n hx hb dX6_placeOf_3 rfl (lv_at hl 0 rfl) ?_
      refine va_get (D := G) (ci := 9) (v := .ref a1) (C := RX6) (T := TX6) (N := 12) hx hb hts hin6 hown hK.1 hP 0 rfl rfl 1 (by decide) hw0 (fun _ h9 => h9) rfl dX6_placeOf_4 ?_
      refine lv_bipush (v := 6) hx hb dX6_placeOf_7 (by decide) ?_
      obtain ⟨hin, h⟩ := o_g h
      refine va_iald hx hb hK.1 hP 1 0 rfl rfl hin dX6_placeOf_9 ?_
      refine lv_icmp_ge (tgt := 34) hx hb dX6_placeOf_10 (by decide) (fun hc => ?_) (fun hc => ?_)
      · have h := o_t h hc
        refine lv_iconst (v := (-1)) hx hb dX6_placeOf_34 (by decide) ?_
        obtain rfl := o_s h
        rw [hQ]
        exact end_i hx hb hr rfl hP hD hS dX6_placeOf_35 hlocks
      · have h := o_f h hc
        refine lv_aload_n hx hb dX6_placeOf_13 rfl (lv_at hl 0 rfl) ?_
        refine va_get (D := G) (ci := 9) (v := .ref a1) (C := RX6) (T := TX6) (N := 12) hx hb hts hin6 hown hK.1 hP 0 rfl rfl 1 (by decide) hw0 (fun _ h9 => h9) rfl dX6_placeOf_14 ?_
        refine lv_bipush (v := 72) hx hb dX6_placeOf_17 (by decide) ?_
        refine lv_iload_n hx hb dX6_placeOf_19 rfl (lv_at hl 2 rfl) ?_
        refine lv_iadd hx hb dX6_placeOf_20 ?_
        obtain ⟨hin, h⟩ := o_g h
        refine va_iald hx hb hK.1 hP 1 0 rfl rfl hin dX6_placeOf_21 ?_
        refine lv_iload_n hx hb dX6_placeOf_22 rfl (lv_at hl 1 rfl) ?_
        refine lv_icmp_ne (tgt := 28) hx hb dX6_placeOf_23 (by decide) (fun hc => ?_) (fun hc => ?_)
        · have h := o_f h hc
          refine lv_iinc (v := (v2 + 1)) (lv' := [(2, .int (v2 + 1)), (0, .ref a0), (1, .int p1)]) hx hb dX6_placeOf_28 hl (k := 2) rfl rfl (by decide) rfl (fun ls hl => ?_)
          refine lv_goto (tgt := 2) hx hb dX6_placeOf_31 (by decide) ?_
          exact ih (v2 + 1) _ _ _ h hP hD hS (lv_sub hl [1, 2, 0] rfl)
        · have h := o_t h hc
          refine lv_iload_n hx hb dX6_placeOf_26 rfl (lv_at hl 2 rfl) ?_
          obtain rfl := o_s h
          rw [hQ]
          exact end_i hx hb hr rfl hP hD hS dX6_placeOf_27 hlocks
  have h := hf
  rw [fX6_placeOf] at h
  have hl := lv_entry ([.ref a0, .int p1]) (n := 3) (Nat.le_of_ble_eq_true rfl)
  rw [lg_entry_eq]
  generalize (lg_sl ([.ref a0, .int p1]) ++ List.replicate (3 - (lg_sl ([.ref a0, .int p1])).length) Slot.unset).toArray = ls at hl ⊢
  have hl : lv_has ls 3 [(0, .ref a0), (1, .int p1)] := hl
  refine lv_iconst (v := 0) hx hb dX6_placeOf_0 (by decide) ?_
  refine lv_istore_n (lv' := [(2, .int (0 : Int32)), (0, .ref a0), (1, .int p1)]) hx hb dX6_placeOf_1 rfl hl (by decide) rfl (fun ls hl => ?_)
  exact L2 fu (0 : Int32) _ _ _ h hP hD hS (lv_sub hl [1, 2, 0] rfl)
theorem hdX6_canComeIn : yX6_canComeIn.cls = RX6 ∧ yX6_canComeIn.cls ≠ "java/lang/invoke/MethodHandle" ∧ yX6_canComeIn.cls ≠ "java/lang/invoke/VarHandle" ∧ (parseMethodDescriptor yX6_canComeIn.desc).map (fun d => d.parameters.length) = some 1 := by decide +kernel
set_option maxHeartbeats 4000000 in
set_option maxRecDepth 100000 in
theorem cX6_canComeIn_ok (l : Launch) (G : va_G) (cI cG : ClassId) (a0 a1 a2 a3 a4 : Nat) (th : Int32) (sa : (Nat → Int32)) (asd : (Nat → Int32)) (sv : (Nat → Int32)) (sm : Int32) (mt : (Nat → Int32)) (ln : Int32) (nx : Int32) (cd : Int32) (dg : Int32) (pw : Int32) (hs : Int64) (p1 : Int32) (out : Bool) (hf : fX6_canComeIn sa p1 = some out) : CI l G (tyz cI cG) yX6_canComeIn wsX6_canComeIn ({ frames := 2, cells := 0, slots := 0, locals := 43 } : Room) [.ref a0, .int p1] [(a0, .inr (9, [.int th, .ref a1, .ref a2, .ref a3, .int sm, .ref a4, .int ln, .int nx, .int cd, .int dg, .int pw, .long hs])), (a1, .inl (cI, 378, .inl sa)), (a2, .inl (cI, 378, .inl asd)), (a3, .inl (cI, 1512, .inl sv)), (a4, .inl (cI, 120, .inl mt))] (bI out) [(a0, .inr (9, [.int th, .ref a1, .ref a2, .ref a3, .int sm, .ref a4, .int ln, .int nx, .int cd, .int dg, .int pw, .long hs])), (a1, .inl (cI, 378, .inl sa)), (a2, .inl (cI, 378, .inl asd)), (a3, .inl (cI, 1512, .inl sv)), (a4, .inl (cI, 120, .inl mt))] := by
  intro sz
  refine Met.ofW (cc := cX6_canComeIn) (maxL := 2) (ret := (some .boolean)) (by decide) rfl ?_
  intro p e s m args below meth c s₁ B hml hv
  obtain ⟨rfl, hsz, hP, hK, hD0⟩ := hv
  have hx := B.exec
  have hb := B.bytes
  have hr := B.returns
  have hts := atoms_spec (ws := wsX6_canComeIn) B.pre
  have hown : s.vm.findClass RX6 = some m.cls := findClass_of_methodNamed B.named
  have hlocks := B.notSynchronized
  subst hsz
  have hD := hD0.self (sz := s.heap.size)
  generalize hAe : va_A [(a0, .inr (9, [.int th, .ref a1, .ref a2, .ref a3, .int sm, .ref a4, .int ln, .int nx, .int cd, .int dg, .int pw, .long hs])), (a1, .inl (cI, 378, .inl sa)), (a2, .inl (cI, 378, .inl asd)), (a3, .inl (cI, 1512, .inl sv)), (a4, .inl (cI, 120, .inl mt))] s.heap.size = A at hD ⊢
  have hA : ∀ q : Nat, s.heap.size ≤ q → A q := fun q h => by rw [← hAe]; exact Or.inr h
  have hS : va_S A s.heap s.heap [] := va_S.rf
  have hw0 := hts (.fieldLink RX6 7 "SpeedTurnsModel" "s" "[I") (List.mem_of_getElem? (i := 1) rfl)
  have hin6 : ∀ w ∈ u_ws RX6 TX6 12, w ∈ wsX6_canComeIn := by decide +kernel
  show W p l e ({ frames := 2, cells := 0, slots := 0, locals := 43 } : Room) s m _ below meth c s.heap [] 0 0 _ _
  refine W_genQ (fun Q hQ => ?_)
  have h := hf
  rw [fX6_canComeIn] at h
  have hl := lv_entry ([.ref a0, .int p1]) (n := 2) (Nat.le_of_ble_eq_true rfl)
  rw [lg_entry_eq]
  generalize (lg_sl ([.ref a0, .int p1]) ++ List.replicate (2 - (lg_sl ([.ref a0, .int p1])).length) Slot.unset).toArray = ls at hl ⊢
  have hl : lv_has ls 2 [(0, .ref a0), (1, .int p1)] := hl
  refine lv_aload_n hx hb dX6_canComeIn_0 rfl (lv_at hl 0 rfl) ?_
  refine va_get (D := G) (ci := 9) (v := .ref a1) (C := RX6) (T := TX6) (N := 12) hx hb hts hin6 hown hK.1 hP 0 rfl rfl 1 (by decide) hw0 (fun _ h9 => h9) rfl dX6_canComeIn_1 ?_
  refine lv_iconst (v := 4) hx hb dX6_canComeIn_4 (by decide) ?_
  obtain ⟨hin, h⟩ := o_g h
  refine va_iald hx hb hK.1 hP 1 0 rfl rfl hin dX6_canComeIn_5 ?_
  refine lv_iconst (v := (-1)) hx hb dX6_canComeIn_6 (by decide) ?_
  refine lv_icmp_ne (tgt := 32) hx hb dX6_canComeIn_7 (by decide) (fun hc => ?_) (fun hc => ?_)
  · have h := o_f h hc
    refine lv_iconst (v := 0) hx hb dX6_canComeIn_32 (by decide) ?_
    obtain rfl := o_s h
    rw [hQ]
    exact end_z hx hb hr rfl rfl hP hD hS dX6_canComeIn_33 hlocks
  · have h := o_t h hc
    refine lv_aload_n hx hb dX6_canComeIn_10 rfl (lv_at hl 0 rfl) ?_
    refine lv_iload_n hx hb dX6_canComeIn_11 rfl (lv_at hl 1 rfl) ?_
    refine lv_iconst (v := 4) hx hb dX6_canComeIn_12 (by decide) ?_
    obtain ⟨x1, ex1, h⟩ := o_b h
    refine call_iV (As := [.int p1, .int (4 : Int32)]) (rest := []) (ws2 := [(a0, .inr (9, [.int th, .ref a1, .ref a2, .ref a3, .int sm, .ref a4, .int ln, .int nx, .int cd, .int dg, .int pw, .long hs])), (a1, .inl (cI, 378, .inl sa)), (a2, .inl (cI, 378, .inl asd)), (a3, .inl (cI, 1512, .inl sv)), (a4, .inl (cI, 120, .inl mt))]) ⟨hx, hb, hml, hown, hts⟩ (cX6_of_ok l G cI cG a0 a1 a2 a3 a4 th sa asd sv sm mt ln nx cd dg pw hs p1 (4 : Int32) x1 ex1) (cwV 2 hts gX6_canComeIn_X6_of rfl rfl rfl hdX6_of ⟨Nat.le_of_ble_eq_true rfl, Nat.le_of_ble_eq_true rfl⟩) hP hD hS hA hK 9 rfl rfl rfl [0, 1, 2, 3, 4] rfl rfl rfl rfl rfl rfl rfl rfl hl.1 (Nat.le_of_ble_eq_true rfl) dX6_canComeIn_13 ⟨Nat.zero_le _, Nat.zero_le _⟩ (fun H locs hP hD hS => ?_)
    refine lv_iconst (v := 2) hx hb dX6_canComeIn_16 (by decide) ?_
    refine lv_icmp_ne (tgt := 32) hx hb dX6_canComeIn_17 (by decide) (fun hc => ?_) (fun hc => ?_)
    · have h := o_f h hc
      refine lv_iconst (v := 0) hx hb dX6_canComeIn_32 (by decide) ?_
      obtain rfl := o_s h
      rw [hQ]
      exact end_z hx hb hr rfl rfl hP hD hS dX6_canComeIn_33 hlocks
    · have h := o_t h hc
      refine lv_aload_n hx hb dX6_canComeIn_20 rfl (lv_at hl 0 rfl) ?_
      refine lv_iload_n hx hb dX6_canComeIn_21 rfl (lv_at hl 1 rfl) ?_
      obtain ⟨x2, ex2, h⟩ := o_b h
      refine call_iV (As := [.int p1]) (rest := []) (ws2 := [(a0, .inr (9, [.int th, .ref a1, .ref a2, .ref a3, .int sm, .ref a4, .int ln, .int nx, .int cd, .int dg, .int pw, .long hs])), (a1, .inl (cI, 378, .inl sa)), (a2, .inl (cI, 378, .inl asd)), (a3, .inl (cI, 1512, .inl sv)), (a4, .inl (cI, 120, .inl mt))]) ⟨hx, hb, hml, hown, hts⟩ (cX6_stands_ok l G cI cG a0 a1 a2 a3 a4 th sa asd sv sm mt ln nx cd dg pw hs p1 x2 ex2) (cwV 1 hts gX6_canComeIn_X6_stands rfl rfl rfl hdX6_stands ⟨Nat.le_of_ble_eq_true rfl, Nat.le_of_ble_eq_true rfl⟩) hP hD hS hA hK 9 rfl rfl rfl [0, 1, 2, 3, 4] rfl rfl rfl rfl rfl rfl rfl rfl hl.1 (Nat.le_of_ble_eq_true rfl) dX6_canComeIn_22 ⟨Nat.zero_le _, Nat.zero_le _⟩ (fun H locs hP hD hS => ?_)
      refine lv_if_eq (tgt := 32) hx hb dX6_canComeIn_25 (by decide) (fun hc => ?_) (fun hc => ?_)
      · have h := o_t h hc
        refine lv_iconst (v := 0) hx hb dX6_canComeIn_32 (by decide) ?_
        obtain rfl := o_s h
        rw [hQ]
        exact end_z hx hb hr rfl rfl hP hD hS dX6_canComeIn_33 hlocks
      · have h := o_f h hc
        refine lv_iconst (v := 1) hx hb dX6_canComeIn_28 (by decide) ?_
        refine lv_goto (tgt := 33) hx hb dX6_canComeIn_29 (by decide) ?_
        obtain rfl := o_s h
        rw [hQ]
        exact end_z hx hb hr rfl rfl hP hD hS dX6_canComeIn_33 hlocks
theorem hdX6_carry : yX6_carry.cls = RX6 ∧ yX6_carry.cls ≠ "java/lang/invoke/MethodHandle" ∧ yX6_carry.cls ≠ "java/lang/invoke/VarHandle" ∧ (parseMethodDescriptor yX6_carry.desc).map (fun d => d.parameters.length) = some 1 := by decide +kernel
set_option maxHeartbeats 4000000 in
set_option maxRecDepth 100000 in
theorem cX6_carry_ok (l : Launch) (G : va_G) (cI cG : ClassId) (a0 a1 a2 a3 a4 : Nat) (fu : Nat) (th : Int32) (sa : (Nat → Int32)) (asd : (Nat → Int32)) (sv : (Nat → Int32)) (sm : Int32) (mt : (Nat → Int32)) (ln : Int32) (nx : Int32) (cd : Int32) (dg : Int32) (pw : Int32) (hs : Int64) (p1 : Int32) (out : (Nat → Int32)) (hf : fX6_carry fu sa p1 = some out) : CV l G (tyz cI cG) yX6_carry wsX6_carry ({ frames := 1, cells := 0, slots := 0, locals := 22 } : Room) [.ref a0, .int p1] [(a0, .inr (9, [.int th, .ref a1, .ref a2, .ref a3, .int sm, .ref a4, .int ln, .int nx, .int cd, .int dg, .int pw, .long hs])), (a1, .inl (cI, 378, .inl sa)), (a2, .inl (cI, 378, .inl asd)), (a3, .inl (cI, 1512, .inl sv)), (a4, .inl (cI, 120, .inl mt))] [(a0, .inr (9, [.int th, .ref a1, .ref a2, .ref a3, .int sm, .ref a4, .int ln, .int nx, .int cd, .int dg, .int pw, .long hs])), (a1, .inl (cI, 378, .inl out)), (a2, .inl (cI, 378, .inl asd)), (a3, .inl (cI, 1512, .inl sv)), (a4, .inl (cI, 120, .inl mt))] := by
  intro sz
  refine Met.ofW (cc := cX6_carry) (maxL := 5) (ret := none) (by decide) rfl ?_
  intro p e s m args below meth c s₁ B hml hv
  obtain ⟨rfl, hsz, hP, hK, hD0⟩ := hv
  have hx := B.exec
  have hb := B.bytes
  have hr := B.returns
  have hts := atoms_spec (ws := wsX6_carry) B.pre
  have hown : s.vm.findClass RX6 = some m.cls := findClass_of_methodNamed B.named
  have hlocks := B.notSynchronized
  subst hsz
  have hD := hD0.self (sz := s.heap.size)
  generalize hAe : va_A [(a0, .inr (9, [.int th, .ref a1, .ref a2, .ref a3, .int sm, .ref a4, .int ln, .int nx, .int cd, .int dg, .int pw, .long hs])), (a1, .inl (cI, 378, .inl sa)), (a2, .inl (cI, 378, .inl asd)), (a3, .inl (cI, 1512, .inl sv)), (a4, .inl (cI, 120, .inl mt))] s.heap.size = A at hD ⊢
  have hA : ∀ q : Nat, s.heap.size ≤ q → A q := fun q h => by rw [← hAe]; exact Or.inr h
  have hS : va_S A s.heap s.heap [] := va_S.rf
  have hw0 := hts (.fieldLink RX6 7 "SpeedTurnsModel" "s" "[I") (List.mem_of_getElem? (i := 1) rfl)
  have hin6 : ∀ w ∈ u_ws RX6 TX6 12, w ∈ wsX6_carry := by decide +kernel
  show W p l e ({ frames := 1, cells := 0, slots := 0, locals := 22 } : Room) s m _ below meth c s.heap [] 0 0 _ _
  refine W_genQ (fun Q hQ => ?_)
  have L91 : ∀ (k : Nat) (sa : (Nat → Int32)) (v3 : Int32) (v4 : Int32) (H : Heap) (locs : List Loc) (ls : Array Slot), fX6_carry_L91 fu p1 k sa v3 v4 = some out → va_P G vwCl [(a0, .inr (9, [.int th, .ref a1, .ref a2, .ref a3, .int sm, .ref a4, .int ln, .int nx, .int cd, .int dg, .int pw, .long hs])), (a1, .inl (cI, 378, .inl sa)), (a2, .inl (cI, 378, .inl asd)), (a3, .inl (cI, 1512, .inl sv)), (a4, .inl (cI, 120, .inl mt))] H → va_D A [(a0, .inr (9, [.int th, .ref a1, .ref a2, .ref a3, .int sm, .ref a4, .int ln, .int nx, .int cd, .int dg, .int pw, .long hs])), (a1, .inl (cI, 378, .inl sa)), (a2, .inl (cI, 378, .inl asd)), (a3, .inl (cI, 1512, .inl sv)), (a4, .inl (cI, 120, .inl mt))] → va_S A s.heap H locs → lv_has ls 5 [(0, .ref a0), (1, .int p1), (3, .int v3), (4, .int v4)] → W p l e ({ frames := 1, cells := 0, slots := 0, locals := 22 } : Room) s m ([.ref a0, .int p1] : List Value).toArray below meth c H locs 0 0 Q (F0 m 91 ls []) := by
    intro k
    induction k with
    | zero => intro sa v3 v4 H locs ls h hP hD hS hl; rw [fX6_carry_L91] at h; exact o_n h
    | succ k ih =>
      intro sa v3 v4 H locs ls h hP hD hS hl
      rw [fX6_carry_L91] at h
      refine lv_iload hx hb dX6_carry_91 (lv_at hl 3 rfl) ?_
      refine lv_iload_n hx hb dX6_carry_93 rfl (lv_at hl 2 rfl) ?_
      refine lv_icmp_le (tgt := 125) hx hb dX6_carry_94 (by decide) (fun hc => ?_) (fun hc => ?_)
      · have h := o_t h hc
        refine lv_aload_n hx hb dX6_carry_125 rfl (lv_at hl 0 rfl) ?_
        refine va_get (D := G) (ci := 9) (v := .ref a1) (C := RX6) (T := TX6) (N := 12) hx hb hts hin6 hown hK.1 hP 0 rfl rfl 1 (by decide) hw0 (fun _ h9 => h9) rfl dX6_carry_126 ?_
        refine lv_bipush (v := 72) hx hb dX6_carry_129 (by decide) ?_
        refine lv_iload_n hx hb dX6_carry_131 rfl (lv_at hl 2 rfl) ?_
        refine lv_iadd hx hb dX6_carry_132 ?_
        refine lv_iload_n hx hb dX6_carry_133 rfl (lv_at hl 1 rfl) ?_
        obtain ⟨hin, h⟩ := o_g h
        refine va_iast hx hb hK.1 hP hD hS 1 0 rfl rfl hin dX6_carry_134 (fun H locs hP hD hS => ?_)
        have hP : va_P G vwCl [(a0, .inr (9, [.int th, .ref a1, .ref a2, .ref a3, .int sm, .ref a4, .int ln, .int nx, .int cd, .int dg, .int pw, .long hs])), (a1, .inl (cI, 378, .inl (upd sa (((72 : Int32) + v3)).toNatClampNeg p1))), (a2, .inl (cI, 378, .inl asd)), (a3, .inl (cI, 1512, .inl sv)), (a4, .inl (cI, 120, .inl mt))] H := hP
        have hD : va_D A [(a0, .inr (9, [.int th, .ref a1, .ref a2, .ref a3, .int sm, .ref a4, .int ln, .int nx, .int cd, .int dg, .int pw, .long hs])), (a1, .inl (cI, 378, .inl (upd sa (((72 : Int32) + v3)).toNatClampNeg p1))), (a2, .inl (cI, 378, .inl asd)), (a3, .inl (cI, 1512, .inl sv)), (a4, .inl (cI, 120, .inl mt))] := hD
        refine lv_aload_n hx hb dX6_carry_135 rfl (lv_at hl 0 rfl) ?_
        refine va_get (D := G) (ci := 9) (v := .ref a1) (C := RX6) (T := TX6) (N := 12) hx hb hts hin6 hown hK.1 hP 0 rfl rfl 1 (by decide) hw0 (fun _ h9 => h9) rfl dX6_carry_136 ?_
        refine lv_bipush (v := 6) hx hb dX6_carry_139 (by decide) ?_
        refine lv_dup2_11 hx hb dX6_carry_141 rfl rfl ?_
        obtain ⟨hin, h⟩ := o_g h
        refine va_iald hx hb hK.1 hP 1 0 rfl rfl hin dX6_carry_142 ?_
        refine lv_iconst (v := 1) hx hb dX6_carry_143 (by decide) ?_
        refine lv_iadd hx hb dX6_carry_144 ?_
        obtain ⟨hin, h⟩ := o_g h
        refine va_iast hx hb hK.1 hP hD hS 1 0 rfl rfl hin dX6_carry_145 (fun H locs hP hD hS => ?_)
        have hP : va_P G vwCl [(a0, .inr (9, [.int th, .ref a1, .ref a2, .ref a3, .int sm, .ref a4, .int ln, .int nx, .int cd, .int dg, .int pw, .long hs])), (a1, .inl (cI, 378, .inl (upd (upd sa (((72 : Int32) + v3)).toNatClampNeg p1) ((6 : Int32)).toNatClampNeg (((upd sa (((72 : Int32) + v3)).toNatClampNeg p1) ((6 : Int32)).toNatClampNeg) + (1 : Int32))))), (a2, .inl (cI, 378, .inl asd)), (a3, .inl (cI, 1512, .inl sv)), (a4, .inl (cI, 120, .inl mt))] H := hP
        have hD : va_D A [(a0, .inr (9, [.int th, .ref a1, .ref a2, .ref a3, .int sm, .ref a4, .int ln, .int nx, .int cd, .int dg, .int pw, .long hs])), (a1, .inl (cI, 378, .inl (upd (upd sa (((72 : Int32) + v3)).toNatClampNeg p1) ((6 : Int32)).toNatClampNeg (((upd sa (((72 : Int32) + v3)).toNatClampNeg p1) ((6 : Int32)).toNatClampNeg) + (1 : Int32))))), (a2, .inl (cI, 378, .inl asd)), (a3, .inl (cI, 1512, .inl sv)), (a4, .inl (cI, 120, .inl mt))] := hD
        obtain rfl := o_s h
        rw [hQ]
        exact end_v hx hb hr hP hD hS dX6_carry_146 hlocks
      · have h := o_f h hc
        refine lv_aload_n hx hb dX6_carry_97 rfl (lv_at hl 0 rfl) ?_
        refine va_get (D := G) (ci := 9) (v := .ref a1) (C := RX6) (T := TX6) (N := 12) hx hb hts hin6 hown hK.1 hP 0 rfl rfl 1 (by decide) hw0 (fun _ h9 => h9) rfl dX6_carry_98 ?_
        refine lv_bipush (v := 72) hx hb dX6_carry_101 (by decide) ?_
        refine lv_iload hx hb dX6_carry_103 (lv_at hl 3 rfl) ?_
        refine lv_iadd hx hb dX6_carry_105 ?_
        refine lv_aload_n hx hb dX6_carry_106 rfl (lv_at hl 0 rfl) ?_
        refine va_get (D := G) (ci := 9) (v := .ref a1) (C := RX6) (T := TX6) (N := 12) hx hb hts hin6 hown hK.1 hP 0 rfl rfl 1 (by decide) hw0 (fun _ h9 => h9) rfl dX6_carry_107 ?_
        refine lv_bipush (v := 72) hx hb dX6_carry_110 (by decide) ?_
        refine lv_iload hx hb dX6_carry_112 (lv_at hl 3 rfl) ?_
        refine lv_iadd hx hb dX6_carry_114 ?_
        refine lv_iconst (v := 1) hx hb dX6_carry_115 (by decide) ?_
        refine lv_isub hx hb dX6_carry_116 ?_
        obtain ⟨hin, h⟩ := o_g h
        refine va_iald hx hb hK.1 hP 1 0 rfl rfl hin dX6_carry_117 ?_
        obtain ⟨hin, h⟩ := o_g h
        refine va_iast hx hb hK.1 hP hD hS 1 0 rfl rfl hin dX6_carry_118 (fun H locs hP hD hS => ?_)
        have hP : va_P G vwCl [(a0, .inr (9, [.int th, .ref a1, .ref a2, .ref a3, .int sm, .ref a4, .int ln, .int nx, .int cd, .int dg, .int pw, .long hs])), (a1, .inl (cI, 378, .inl (upd sa (((72 : Int32) + v4)).toNatClampNeg (sa ((((72 : Int32) + v4) - (1 : Int32))).toNatClampNeg)))), (a2, .inl (cI, 378, .inl asd)), (a3, .inl (cI, 1512, .inl sv)), (a4, .inl (cI, 120, .inl mt))] H := hP
        have hD : va_D A [(a0, .inr (9, [.int th, .ref a1, .ref a2, .ref a3, .int sm, .ref a4, .int ln, .int nx, .int cd, .int dg, .int pw, .long hs])), (a1, .inl (cI, 378, .inl (upd sa (((72 : Int32) + v4)).toNatClampNeg (sa ((((72 : Int32) + v4) - (1 : Int32))).toNatClampNeg)))), (a2, .inl (cI, 378, .inl asd)), (a3, .inl (cI, 1512, .inl sv)), (a4, .inl (cI, 120, .inl mt))] := hD
        refine lv_iinc (v := (v4 + (-1))) (lv' := [(4, .int (v4 + (-1))), (0, .ref a0), (1, .int p1), (3, .int v3)]) hx hb dX6_carry_119 hl (k := 3) rfl rfl (by decide) rfl (fun ls hl => ?_)
        refine lv_goto (tgt := 91) hx hb dX6_carry_122 (by decide) ?_
        exact ih (upd sa (((72 : Int32) + v4)).toNatClampNeg (sa ((((72 : Int32) + v4) - (1 : Int32))).toNatClampNeg)) v3 (v4 + (-1)) _ _ _ h hP hD hS (lv_sub hl [1, 2, 3, 0] rfl)
  have L4 : ∀ (k : Nat) (sa : (Nat → Int32)) (v2 : Int32) (v3 : Int32) (H : Heap) (locs : List Loc) (ls : Array Slot), fX6_carry_L4 fu p1 k sa v2 v3 = some out → va_P G vwCl [(a0, .inr (9, [.int th, .ref a1, .ref a2, .ref a3, .int sm, .ref a4, .int ln, .int nx, .int cd, .int dg, .int pw, .long hs])), (a1, .inl (cI, 378, .inl sa)), (a2, .inl (cI, 378, .inl asd)), (a3, .inl (cI, 1512, .inl sv)), (a4, .inl (cI, 120, .inl mt))] H → va_D A [(a0, .inr (9, [.int th, .ref a1, .ref a2, .ref a3, .int sm, .ref a4, .int ln, .int nx, .int cd, .int dg, .int pw, .long hs])), (a1, .inl (cI, 378, .inl sa)), (a2, .inl (cI, 378, .inl asd)), (a3, .inl (cI, 1512, .inl sv)), (a4, .inl (cI, 120, .inl mt))] → va_S A s.heap H locs → lv_has ls 5 [(0, .ref a0), (1, .int p1), (2, .int v2), (3, .int v3)] → W p l e ({ frames := 1, cells := 0, slots := 0, locals := 22 } : Room) s m ([.ref a0, .int p1] : List Value).toArray below meth c H locs 0 0 Q (F0 m 4 ls []) := by
    intro k
    induction k with
    | zero => intro sa v2 v3 H locs ls h hP hD hS hl; rw [fX6_carry_L4] at h; exact o_n h
    | succ k ih =>
      intro sa v2 v3 H locs ls h hP hD hS hl
      rw [fX6_carry_L4] at h
      refine lv_iload_n hx hb dX6_carry_4 rfl (lv_at hl 3 rfl) ?_
      refine lv_aload_n hx hb dX6_carry_5 rfl (lv_at hl 0 rfl) ?_
      refine va_get (D := G) (ci := 9) (v := .ref a1) (C := RX6) (T := TX6) (N := 12) hx hb hts hin6 hown hK.1 hP 0 rfl rfl 1 (by decide) hw0 (fun _ h9 => h9) rfl dX6_carry_6 ?_
      refine lv_bipush (v := 6) hx hb dX6_carry_9 (by decide) ?_
      obtain ⟨hin, h⟩ := o_g h
      refine va_iald hx hb hK.1 hP 1 0 rfl rfl hin dX6_carry_11 ?_
      refine lv_icmp_ge (tgt := 57) hx hb dX6_carry_12 (by decide) (fun hc => ?_) (fun hc => ?_)
      · have h := o_t h hc
        refine lv_aload_n hx hb dX6_carry_57 rfl (lv_at hl 0 rfl) ?_
        refine va_get (D := G) (ci := 9) (v := .ref a1) (C := RX6) (T := TX6) (N := 12) hx hb hts hin6 hown hK.1 hP 0 rfl rfl 1 (by decide) hw0 (fun _ h9 => h9) rfl dX6_carry_58 ?_
        refine lv_bipush (v := 6) hx hb dX6_carry_61 (by decide) ?_
        refine lv_dup2_11 hx hb dX6_carry_63 rfl rfl ?_
        obtain ⟨hin, h⟩ := o_g h
        refine va_iald hx hb hK.1 hP 1 0 rfl rfl hin dX6_carry_64 ?_
        refine lv_iconst (v := 1) hx hb dX6_carry_65 (by decide) ?_
        refine lv_isub hx hb dX6_carry_66 ?_
        obtain ⟨hin, h⟩ := o_g h
        refine va_iast hx hb hK.1 hP hD hS 1 0 rfl rfl hin dX6_carry_67 (fun H locs hP hD hS => ?_)
        have hP : va_P G vwCl [(a0, .inr (9, [.int th, .ref a1, .ref a2, .ref a3, .int sm, .ref a4, .int ln, .int nx, .int cd, .int dg, .int pw, .long hs])), (a1, .inl (cI, 378, .inl (upd sa ((6 : Int32)).toNatClampNeg ((sa ((6 : Int32)).toNatClampNeg) - (1 : Int32))))), (a2, .inl (cI, 378, .inl asd)), (a3, .inl (cI, 1512, .inl sv)), (a4, .inl (cI, 120, .inl mt))] H := hP
        have hD : va_D A [(a0, .inr (9, [.int th, .ref a1, .ref a2, .ref a3, .int sm, .ref a4, .int ln, .int nx, .int cd, .int dg, .int pw, .long hs])), (a1, .inl (cI, 378, .inl (upd sa ((6 : Int32)).toNatClampNeg ((sa ((6 : Int32)).toNatClampNeg) - (1 : Int32))))), (a2, .inl (cI, 378, .inl asd)), (a3, .inl (cI, 1512, .inl sv)), (a4, .inl (cI, 120, .inl mt))] := hD
        refine lv_aload_n hx hb dX6_carry_68 rfl (lv_at hl 0 rfl) ?_
        refine lv_aload_n hx hb dX6_carry_69 rfl (lv_at hl 0 rfl) ?_
        refine va_get (D := G) (ci := 9) (v := .ref a1) (C := RX6) (T := TX6) (N := 12) hx hb hts hin6 hown hK.1 hP 0 rfl rfl 1 (by decide) hw0 (fun _ h9 => h9) rfl dX6_carry_70 ?_
        refine lv_bipush (v := 7) hx hb dX6_carry_73 (by decide) ?_
        obtain ⟨hin, h⟩ := o_g h
        refine va_iald hx hb hK.1 hP 1 0 rfl rfl hin dX6_carry_75 ?_
        obtain ⟨x1, ex1, h⟩ := o_b h
        refine call_iV (As := [.int ((upd sa ((6 : Int32)).toNatClampNeg ((sa ((6 : Int32)).toNatClampNeg) - (1 : Int32))) ((7 : Int32)).toNatClampNeg)]) (rest := []) (ws2 := [(a0, .inr (9, [.int th, .ref a1, .ref a2, .ref a3, .int sm, .ref a4, .int ln, .int nx, .int cd, .int dg, .int pw, .long hs])), (a1, .inl (cI, 378, .inl (upd sa ((6 : Int32)).toNatClampNeg ((sa ((6 : Int32)).toNatClampNeg) - (1 : Int32))))), (a2, .inl (cI, 378, .inl asd)), (a3, .inl (cI, 1512, .inl sv)), (a4, .inl (cI, 120, .inl mt))]) ⟨hx, hb, hml, hown, hts⟩ (cX6_placeOf_ok l G cI cG a0 a1 a2 a3 a4 fu th (upd sa ((6 : Int32)).toNatClampNeg ((sa ((6 : Int32)).toNatClampNeg) - (1 : Int32))) asd sv sm mt ln nx cd dg pw hs ((upd sa ((6 : Int32)).toNatClampNeg ((sa ((6 : Int32)).toNatClampNeg) - (1 : Int32))) ((7 : Int32)).toNatClampNeg) x1 ex1) (cwV 1 hts gX6_carry_X6_placeOf rfl rfl rfl hdX6_placeOf ⟨Nat.le_of_ble_eq_true rfl, Nat.le_of_ble_eq_true rfl⟩) hP hD hS hA hK 9 rfl rfl rfl [0, 1, 2, 3, 4] rfl rfl rfl rfl rfl rfl rfl rfl hl.1 (Nat.le_of_ble_eq_true rfl) dX6_carry_76 ⟨Nat.zero_le _, Nat.zero_le _⟩ (fun H locs hP hD hS => ?_)
        refine lv_iconst (v := 1) hx hb dX6_carry_79 (by decide) ?_
        refine lv_iadd hx hb dX6_carry_80 ?_
        refine lv_istore_n (lv' := [(3, .int (x1 + (1 : Int32))), (0, .ref a0), (1, .int p1), (2, .int v2)]) hx hb dX6_carry_81 rfl hl (by decide) rfl (fun ls hl => ?_)
        refine lv_aload_n hx hb dX6_carry_82 rfl (lv_at hl 1 rfl) ?_
        refine va_get (D := G) (ci := 9) (v := .ref a1) (C := RX6) (T := TX6) (N := 12) hx hb hts hin6 hown hK.1 hP 0 rfl rfl 1 (by decide) hw0 (fun _ h9 => h9) rfl dX6_carry_83 ?_
        refine lv_bipush (v := 6) hx hb dX6_carry_86 (by decide) ?_
        obtain ⟨hin, h⟩ := o_g h
        refine va_iald hx hb hK.1 hP 1 0 rfl rfl hin dX6_carry_88 ?_
        refine lv_istore (lv' := [(4, .int ((upd sa ((6 : Int32)).toNatClampNeg ((sa ((6 : Int32)).toNatClampNeg) - (1 : Int32))) ((6 : Int32)).toNatClampNeg)), (3, .int (x1 + (1 : Int32))), (0, .ref a0), (1, .int p1), (2, .int v2)]) hx hb dX6_carry_89 hl (by decide) rfl (fun ls hl => ?_)
        exact L91 fu (upd sa ((6 : Int32)).toNatClampNeg ((sa ((6 : Int32)).toNatClampNeg) - (1 : Int32))) (x1 + (1 : Int32)) ((upd sa ((6 : Int32)).toNatClampNeg ((sa ((6 : Int32)).toNatClampNeg) - (1 : Int32))) ((6 : Int32)).toNatClampNeg) _ _ _ h hP hD hS (lv_sub hl [2, 3, 1, 0] rfl)
      · have h := o_f h hc
        refine lv_aload_n hx hb dX6_carry_15 rfl (lv_at hl 0 rfl) ?_
        refine va_get (D := G) (ci := 9) (v := .ref a1) (C := RX6) (T := TX6) (N := 12) hx hb hts hin6 hown hK.1 hP 0 rfl rfl 1 (by decide) hw0 (fun _ h9 => h9) rfl dX6_carry_16 ?_
        refine lv_bipush (v := 72) hx hb dX6_carry_19 (by decide) ?_
        refine lv_iload_n hx hb dX6_carry_21 rfl (lv_at hl 3 rfl) ?_
        refine lv_iadd hx hb dX6_carry_22 ?_
        obtain ⟨hin, h⟩ := o_g h
        refine va_iald hx hb hK.1 hP 1 0 rfl rfl hin dX6_carry_23 ?_
        refine lv_istore (lv' := [(4, .int (sa (((72 : Int32) + v3)).toNatClampNeg)), (0, .ref a0), (1, .int p1), (2, .int v2), (3, .int v3)]) hx hb dX6_carry_24 hl (by decide) rfl (fun ls hl => ?_)
        refine lv_aload_n hx hb dX6_carry_26 rfl (lv_at hl 1 rfl) ?_
        refine va_get (D := G) (ci := 9) (v := .ref a1) (C := RX6) (T := TX6) (N := 12) hx hb hts hin6 hown hK.1 hP 0 rfl rfl 1 (by decide) hw0 (fun _ h9 => h9) rfl dX6_carry_27 ?_
        refine lv_bipush (v := 72) hx hb dX6_carry_30 (by decide) ?_
        refine lv_iload_n hx hb dX6_carry_32 rfl (lv_at hl 3 rfl) ?_
        refine lv_iadd hx hb dX6_carry_33 ?_
        refine lv_iload hx hb dX6_carry_34 (lv_at hl 0 rfl) ?_
        obtain ⟨hin, h⟩ := o_g h
        refine va_iast hx hb hK.1 hP hD hS 1 0 rfl rfl hin dX6_carry_36 (fun H locs hP hD hS => ?_)
        have hP : va_P G vwCl [(a0, .inr (9, [.int th, .ref a1, .ref a2, .ref a3, .int sm, .ref a4, .int ln, .int nx, .int cd, .int dg, .int pw, .long hs])), (a1, .inl (cI, 378, .inl (upd sa (((72 : Int32) + v2)).toNatClampNeg (sa (((72 : Int32) + v3)).toNatClampNeg)))), (a2, .inl (cI, 378, .inl asd)), (a3, .inl (cI, 1512, .inl sv)), (a4, .inl (cI, 120, .inl mt))] H := hP
        have hD : va_D A [(a0, .inr (9, [.int th, .ref a1, .ref a2, .ref a3, .int sm, .ref a4, .int ln, .int nx, .int cd, .int dg, .int pw, .long hs])), (a1, .inl (cI, 378, .inl (upd sa (((72 : Int32) + v2)).toNatClampNeg (sa (((72 : Int32) + v3)).toNatClampNeg)))), (a2, .inl (cI, 378, .inl asd)), (a3, .inl (cI, 1512, .inl sv)), (a4, .inl (cI, 120, .inl mt))] := hD
        refine lv_iload_n hx hb dX6_carry_37 rfl (lv_at hl 3 rfl) ?_
        refine lv_iload hx hb dX6_carry_38 (lv_at hl 0 rfl) ?_
        refine lv_iload_n hx hb dX6_carry_40 rfl (lv_at hl 2 rfl) ?_
        refine lv_icmp_ne (tgt := 48) hx hb dX6_carry_41 (by decide) (fun hc => ?_) (fun hc => ?_)
        · have h := o_f h hc
          refine lv_iconst (v := 1) hx hb dX6_carry_48 (by decide) ?_
          refine lv_iadd hx hb dX6_carry_49 ?_
          refine lv_istore_n (lv' := [(2, .int (v2 + (1 : Int32))), (4, .int (sa (((72 : Int32) + v3)).toNatClampNeg)), (0, .ref a0), (1, .int p1), (3, .int v3)]) hx hb dX6_carry_50 rfl hl (by decide) rfl (fun ls hl => ?_)
          refine lv_iinc (v := (v3 + 1)) (lv' := [(3, .int (v3 + 1)), (2, .int (v2 + (1 : Int32))), (4, .int (sa (((72 : Int32) + v3)).toNatClampNeg)), (0, .ref a0), (1, .int p1)]) hx hb dX6_carry_51 hl (k := 4) rfl rfl (by decide) rfl (fun ls hl => ?_)
          refine lv_goto (tgt := 4) hx hb dX6_carry_54 (by decide) ?_
          exact ih (upd sa (((72 : Int32) + v2)).toNatClampNeg (sa (((72 : Int32) + v3)).toNatClampNeg)) (v2 + (1 : Int32)) (v3 + 1) _ _ _ h hP hD hS (lv_sub hl [3, 4, 1, 0] rfl)
        · have h := o_t h hc
          refine lv_iconst (v := 0) hx hb dX6_carry_44 (by decide) ?_
          refine lv_goto (tgt := 49) hx hb dX6_carry_45 (by decide) ?_
          refine lv_iadd hx hb dX6_carry_49 ?_
          refine lv_istore_n (lv' := [(2, .int (v2 + (0 : Int32))), (4, .int (sa (((72 : Int32) + v3)).toNatClampNeg)), (0, .ref a0), (1, .int p1), (3, .int v3)]) hx hb dX6_carry_50 rfl hl (by decide) rfl (fun ls hl => ?_)
          refine lv_iinc (v := (v3 + 1)) (lv' := [(3, .int (v3 + 1)), (2, .int (v2 + (0 : Int32))), (4, .int (sa (((72 : Int32) + v3)).toNatClampNeg)), (0, .ref a0), (1, .int p1)]) hx hb dX6_carry_51 hl (k := 4) rfl rfl (by decide) rfl (fun ls hl => ?_)
          refine lv_goto (tgt := 4) hx hb dX6_carry_54 (by decide) ?_
          exact ih (upd sa (((72 : Int32) + v2)).toNatClampNeg (sa (((72 : Int32) + v3)).toNatClampNeg)) (v2 + (0 : Int32)) (v3 + 1) _ _ _ h hP hD hS (lv_sub hl [3, 4, 1, 0] rfl)
  have h := hf
  rw [fX6_carry] at h
  have hl := lv_entry ([.ref a0, .int p1]) (n := 5) (Nat.le_of_ble_eq_true rfl)
  rw [lg_entry_eq]
  generalize (lg_sl ([.ref a0, .int p1]) ++ List.replicate (5 - (lg_sl ([.ref a0, .int p1])).length) Slot.unset).toArray = ls at hl ⊢
  have hl : lv_has ls 5 [(0, .ref a0), (1, .int p1)] := hl
  refine lv_iconst (v := 0) hx hb dX6_carry_0 (by decide) ?_
  refine lv_istore_n (lv' := [(2, .int (0 : Int32)), (0, .ref a0), (1, .int p1)]) hx hb dX6_carry_1 rfl hl (by decide) rfl (fun ls hl => ?_)
  refine lv_iconst (v := 0) hx hb dX6_carry_2 (by decide) ?_
  refine lv_istore_n (lv' := [(3, .int (0 : Int32)), (2, .int (0 : Int32)), (0, .ref a0), (1, .int p1)]) hx hb dX6_carry_3 rfl hl (by decide) rfl (fun ls hl => ?_)
  exact L4 fu sa (0 : Int32) (0 : Int32) _ _ _ h hP hD hS (lv_sub hl [2, 3, 1, 0] rfl)
theorem hdX6_comesIn : yX6_comesIn.cls = RX6 ∧ yX6_comesIn.cls ≠ "java/lang/invoke/MethodHandle" ∧ yX6_comesIn.cls ≠ "java/lang/invoke/VarHandle" ∧ (parseMethodDescriptor yX6_comesIn.desc).map (fun d => d.parameters.length) = some 1 := by decide +kernel
set_option maxHeartbeats 4000000 in
set_option maxRecDepth 100000 in
theorem cX6_comesIn_ok (l : Launch) (G : va_G) (cI cG : ClassId) (a0 a1 a2 a3 a4 : Nat) (fu : Nat) (th : Int32) (sa : (Nat → Int32)) (asd : (Nat → Int32)) (sv : (Nat → Int32)) (sm : Int32) (mt : (Nat → Int32)) (ln : Int32) (nx : Int32) (cd : Int32) (dg : Int32) (pw : Int32) (hs : Int64) (p1 : Int32) (out : Int32 × (Nat → Int32)) (hf : fX6_comesIn fu sa p1 = some out) : CI l G (tyz cI cG) yX6_comesIn wsX6_comesIn ({ frames := 2, cells := 0, slots := 0, locals := 46 } : Room) [.ref a0, .int p1] [(a0, .inr (9, [.int th, .ref a1, .ref a2, .ref a3, .int sm, .ref a4, .int ln, .int nx, .int cd, .int dg, .int pw, .long hs])), (a1, .inl (cI, 378, .inl sa)), (a2, .inl (cI, 378, .inl asd)), (a3, .inl (cI, 1512, .inl sv)), (a4, .inl (cI, 120, .inl mt))] out.1 [(a0, .inr (9, [.int th, .ref a1, .ref a2, .ref a3, .int sm, .ref a4, .int ln, .int nx, .int cd, .int dg, .int pw, .long hs])), (a1, .inl (cI, 378, .inl out.2)), (a2, .inl (cI, 378, .inl asd)), (a3, .inl (cI, 1512, .inl sv)), (a4, .inl (cI, 120, .inl mt))] := by
  intro sz
  refine Met.ofW (cc := cX6_comesIn) (maxL := 2) (ret := (some .int)) (by decide) rfl ?_
  intro p e s m args below meth c s₁ B hml hv
  obtain ⟨rfl, hsz, hP, hK, hD0⟩ := hv
  have hx := B.exec
  have hb := B.bytes
  have hr := B.returns
  have hts := atoms_spec (ws := wsX6_comesIn) B.pre
  have hown : s.vm.findClass RX6 = some m.cls := findClass_of_methodNamed B.named
  have hlocks := B.notSynchronized
  subst hsz
  have hD := hD0.self (sz := s.heap.size)
  generalize hAe : va_A [(a0, .inr (9, [.int th, .ref a1, .ref a2, .ref a3, .int sm, .ref a4, .int ln, .int nx, .int cd, .int dg, .int pw, .long hs])), (a1, .inl (cI, 378, .inl sa)), (a2, .inl (cI, 378, .inl asd)), (a3, .inl (cI, 1512, .inl sv)), (a4, .inl (cI, 120, .inl mt))] s.heap.size = A at hD ⊢
  have hA : ∀ q : Nat, s.heap.size ≤ q → A q := fun q h => by rw [← hAe]; exact Or.inr h
  have hS : va_S A s.heap s.heap [] := va_S.rf
  have hw0 := hts (.fieldLink RX6 7 "SpeedTurnsModel" "s" "[I") (List.mem_of_getElem? (i := 1) rfl)
  have hin6 : ∀ w ∈ u_ws RX6 TX6 12, w ∈ wsX6_comesIn := by decide +kernel
  show W p l e ({ frames := 2, cells := 0, slots := 0, locals := 46 } : Room) s m _ below meth c s.heap [] 0 0 _ _
  refine W_genQ (fun Q hQ => ?_)
  have J16 : ∀ (sa : (Nat → Int32)) (H : Heap) (locs : List Loc) (ls : Array Slot), fX6_comesIn_J16 fu p1 sa = some out → va_P G vwCl [(a0, .inr (9, [.int th, .ref a1, .ref a2, .ref a3, .int sm, .ref a4, .int ln, .int nx, .int cd, .int dg, .int pw, .long hs])), (a1, .inl (cI, 378, .inl sa)), (a2, .inl (cI, 378, .inl asd)), (a3, .inl (cI, 1512, .inl sv)), (a4, .inl (cI, 120, .inl mt))] H → va_D A [(a0, .inr (9, [.int th, .ref a1, .ref a2, .ref a3, .int sm, .ref a4, .int ln, .int nx, .int cd, .int dg, .int pw, .long hs])), (a1, .inl (cI, 378, .inl sa)), (a2, .inl (cI, 378, .inl asd)), (a3, .inl (cI, 1512, .inl sv)), (a4, .inl (cI, 120, .inl mt))] → va_S A s.heap H locs → lv_has ls 2 [(0, .ref a0), (1, .int p1)] → W p l e ({ frames := 2, cells := 0, slots := 0, locals := 46 } : Room) s m ([.ref a0, .int p1] : List Value).toArray below meth c H locs 0 0 Q (F0 m 16 ls []) := by
    intro sa H locs ls h hP hD hS hl
    rw [fX6_comesIn_J16] at h
    refine lv_aload_n hx hb dX6_comesIn_16 rfl (lv_at hl 0 rfl) ?_
    refine va_get (D := G) (ci := 9) (v := .ref a1) (C := RX6) (T := TX6) (N := 12) hx hb hts hin6 hown hK.1 hP 0 rfl rfl 1 (by decide) hw0 (fun _ h9 => h9) rfl dX6_comesIn_17 ?_
    refine lv_bipush (v := 7) hx hb dX6_comesIn_20 (by decide) ?_
    refine lv_iload_n hx hb dX6_comesIn_22 rfl (lv_at hl 1 rfl) ?_
    obtain ⟨hin, h⟩ := o_g h
    refine va_iast hx hb hK.1 hP hD hS 1 0 rfl rfl hin dX6_comesIn_23 (fun H locs hP hD hS => ?_)
    have hP : va_P G vwCl [(a0, .inr (9, [.int th, .ref a1, .ref a2, .ref a3, .int sm, .ref a4, .int ln, .int nx, .int cd, .int dg, .int pw, .long hs])), (a1, .inl (cI, 378, .inl (upd sa ((7 : Int32)).toNatClampNeg p1))), (a2, .inl (cI, 378, .inl asd)), (a3, .inl (cI, 1512, .inl sv)), (a4, .inl (cI, 120, .inl mt))] H := hP
    have hD : va_D A [(a0, .inr (9, [.int th, .ref a1, .ref a2, .ref a3, .int sm, .ref a4, .int ln, .int nx, .int cd, .int dg, .int pw, .long hs])), (a1, .inl (cI, 378, .inl (upd sa ((7 : Int32)).toNatClampNeg p1))), (a2, .inl (cI, 378, .inl asd)), (a3, .inl (cI, 1512, .inl sv)), (a4, .inl (cI, 120, .inl mt))] := hD
    refine lv_aload_n hx hb dX6_comesIn_24 rfl (lv_at hl 0 rfl) ?_
    refine va_get (D := G) (ci := 9) (v := .ref a1) (C := RX6) (T := TX6) (N := 12) hx hb hts hin6 hown hK.1 hP 0 rfl rfl 1 (by decide) hw0 (fun _ h9 => h9) rfl dX6_comesIn_25 ?_
    refine lv_iconst (v := 4) hx hb dX6_comesIn_28 (by decide) ?_
    refine lv_iload_n hx hb dX6_comesIn_29 rfl (lv_at hl 1 rfl) ?_
    obtain ⟨hin, h⟩ := o_g h
    refine va_iast hx hb hK.1 hP hD hS 1 0 rfl rfl hin dX6_comesIn_30 (fun H locs hP hD hS => ?_)
    have hP : va_P G vwCl [(a0, .inr (9, [.int th, .ref a1, .ref a2, .ref a3, .int sm, .ref a4, .int ln, .int nx, .int cd, .int dg, .int pw, .long hs])), (a1, .inl (cI, 378, .inl (upd (upd sa ((7 : Int32)).toNatClampNeg p1) ((4 : Int32)).toNatClampNeg p1))), (a2, .inl (cI, 378, .inl asd)), (a3, .inl (cI, 1512, .inl sv)), (a4, .inl (cI, 120, .inl mt))] H := hP
    have hD : va_D A [(a0, .inr (9, [.int th, .ref a1, .ref a2, .ref a3, .int sm, .ref a4, .int ln, .int nx, .int cd, .int dg, .int pw, .long hs])), (a1, .inl (cI, 378, .inl (upd (upd sa ((7 : Int32)).toNatClampNeg p1) ((4 : Int32)).toNatClampNeg p1))), (a2, .inl (cI, 378, .inl asd)), (a3, .inl (cI, 1512, .inl sv)), (a4, .inl (cI, 120, .inl mt))] := hD
    refine lv_aload_n hx hb dX6_comesIn_31 rfl (lv_at hl 0 rfl) ?_
    refine va_get (D := G) (ci := 9) (v := .ref a1) (C := RX6) (T := TX6) (N := 12) hx hb hts hin6 hown hK.1 hP 0 rfl rfl 1 (by decide) hw0 (fun _ h9 => h9) rfl dX6_comesIn_32 ?_
    refine lv_iconst (v := 5) hx hb dX6_comesIn_35 (by decide) ?_
    refine lv_iconst (v := 0) hx hb dX6_comesIn_36 (by decide) ?_
    obtain ⟨hin, h⟩ := o_g h
    refine va_iast hx hb hK.1 hP hD hS 1 0 rfl rfl hin dX6_comesIn_37 (fun H locs hP hD hS => ?_)
    have hP : va_P G vwCl [(a0, .inr (9, [.int th, .ref a1, .ref a2, .ref a3, .int sm, .ref a4, .int ln, .int nx, .int cd, .int dg, .int pw, .long hs])), (a1, .inl (cI, 378, .inl (upd (upd (upd sa ((7 : Int32)).toNatClampNeg p1) ((4 : Int32)).toNatClampNeg p1) ((5 : Int32)).toNatClampNeg (0 : Int32)))), (a2, .inl (cI, 378, .inl asd)), (a3, .inl (cI, 1512, .inl sv)), (a4, .inl (cI, 120, .inl mt))] H := hP
    have hD : va_D A [(a0, .inr (9, [.int th, .ref a1, .ref a2, .ref a3, .int sm, .ref a4, .int ln, .int nx, .int cd, .int dg, .int pw, .long hs])), (a1, .inl (cI, 378, .inl (upd (upd (upd sa ((7 : Int32)).toNatClampNeg p1) ((4 : Int32)).toNatClampNeg p1) ((5 : Int32)).toNatClampNeg (0 : Int32)))), (a2, .inl (cI, 378, .inl asd)), (a3, .inl (cI, 1512, .inl sv)), (a4, .inl (cI, 120, .inl mt))] := hD
    refine lv_aload_n hx hb dX6_comesIn_38 rfl (lv_at hl 0 rfl) ?_
    refine lv_iload_n hx hb dX6_comesIn_39 rfl (lv_at hl 1 rfl) ?_
    refine lv_iconst (v := 4) hx hb dX6_comesIn_40 (by decide) ?_
    refine lv_iconst (v := 1) hx hb dX6_comesIn_41 (by decide) ?_
    obtain ⟨x1, ex1, h⟩ := o_b h
    refine call_vV (As := [.int p1, .int (4 : Int32), .int (1 : Int32)]) (rest := []) (ws2 := [(a0, .inr (9, [.int th, .ref a1, .ref a2, .ref a3, .int sm, .ref a4, .int ln, .int nx, .int cd, .int dg, .int pw, .long hs])), (a1, .inl (cI, 378, .inl x1)), (a2, .inl (cI, 378, .inl asd)), (a3, .inl (cI, 1512, .inl sv)), (a4, .inl (cI, 120, .inl mt))]) ⟨hx, hb, hml, hown, hts⟩ (cX6_set_ok l G cI cG a0 a1 a2 a3 a4 th (upd (upd (upd sa ((7 : Int32)).toNatClampNeg p1) ((4 : Int32)).toNatClampNeg p1) ((5 : Int32)).toNatClampNeg (0 : Int32)) asd sv sm mt ln nx cd dg pw hs p1 (4 : Int32) (1 : Int32) x1 ex1) (cwV 3 hts gX6_comesIn_X6_set rfl rfl rfl hdX6_set ⟨Nat.le_of_ble_eq_true rfl, Nat.le_of_ble_eq_true rfl⟩) hP hD hS hA hK 9 rfl rfl rfl [0, 1, 2, 3, 4] rfl rfl rfl rfl rfl rfl rfl rfl hl.1 (Nat.le_of_ble_eq_true rfl) dX6_comesIn_42 ⟨Nat.zero_le _, Nat.zero_le _⟩ (fun H locs hP hD hS => ?_)
    refine lv_aload_n hx hb dX6_comesIn_45 rfl (lv_at hl 0 rfl) ?_
    refine lv_iload_n hx hb dX6_comesIn_46 rfl (lv_at hl 1 rfl) ?_
    obtain ⟨x2, ex2, h⟩ := o_b h
    refine call_iV (As := [.int p1]) (rest := []) (ws2 := [(a0, .inr (9, [.int th, .ref a1, .ref a2, .ref a3, .int sm, .ref a4, .int ln, .int nx, .int cd, .int dg, .int pw, .long hs])), (a1, .inl (cI, 378, .inl x1)), (a2, .inl (cI, 378, .inl asd)), (a3, .inl (cI, 1512, .inl sv)), (a4, .inl (cI, 120, .inl mt))]) ⟨hx, hb, hml, hown, hts⟩ (cX6_placeOf_ok l G cI cG a0 a1 a2 a3 a4 fu th x1 asd sv sm mt ln nx cd dg pw hs p1 x2 ex2) (cwV 1 hts gX6_comesIn_X6_placeOf rfl rfl rfl hdX6_placeOf ⟨Nat.le_of_ble_eq_true rfl, Nat.le_of_ble_eq_true rfl⟩) hP hD hS hA hK 9 rfl rfl rfl [0, 1, 2, 3, 4] rfl rfl rfl rfl rfl rfl rfl rfl hl.1 (Nat.le_of_ble_eq_true rfl) dX6_comesIn_47 ⟨Nat.zero_le _, Nat.zero_le _⟩ (fun H locs hP hD hS => ?_)
    obtain rfl := o_s h
    rw [hQ]
    exact end_i hx hb hr rfl hP hD hS dX6_comesIn_50 hlocks
  have h := hf
  rw [fX6_comesIn] at h
  have hl := lv_entry ([.ref a0, .int p1]) (n := 2) (Nat.le_of_ble_eq_true rfl)
  rw [lg_entry_eq]
  generalize (lg_sl ([.ref a0, .int p1]) ++ List.replicate (2 - (lg_sl ([.ref a0, .int p1])).length) Slot.unset).toArray = ls at hl ⊢
  have hl : lv_has ls 2 [(0, .ref a0), (1, .int p1)] := hl
  refine lv_aload_n hx hb dX6_comesIn_0 rfl (lv_at hl 0 rfl) ?_
  refine va_get (D := G) (ci := 9) (v := .ref a1) (C := RX6) (T := TX6) (N := 12) hx hb hts hin6 hown hK.1 hP 0 rfl rfl 1 (by decide) hw0 (fun _ h9 => h9) rfl dX6_comesIn_1 ?_
  refine lv_bipush (v := 7) hx hb dX6_comesIn_4 (by decide) ?_
  obtain ⟨hin, h⟩ := o_g h
  refine va_iald hx hb hK.1 hP 1 0 rfl rfl hin dX6_comesIn_6 ?_
  refine lv_iload_n hx hb dX6_comesIn_7 rfl (lv_at hl 1 rfl) ?_
  refine lv_icmp_eq (tgt := 16) hx hb dX6_comesIn_8 (by decide) (fun hc => ?_) (fun hc => ?_)
  · have h := o_t h hc
    exact J16 sa _ _ _ h hP hD hS (lv_sub hl [0, 1] rfl)
  · have h := o_f h hc
    refine lv_aload_n hx hb dX6_comesIn_11 rfl (lv_at hl 0 rfl) ?_
    refine lv_iload_n hx hb dX6_comesIn_12 rfl (lv_at hl 1 rfl) ?_
    obtain ⟨x3, ex3, h⟩ := o_b h
    refine call_vV (As := [.int p1]) (rest := []) (ws2 := [(a0, .inr (9, [.int th, .ref a1, .ref a2, .ref a3, .int sm, .ref a4, .int ln, .int nx, .int cd, .int dg, .int pw, .long hs])), (a1, .inl (cI, 378, .inl x3)), (a2, .inl (cI, 378, .inl asd)), (a3, .inl (cI, 1512, .inl sv)), (a4, .inl (cI, 120, .inl mt))]) ⟨hx, hb, hml, hown, hts⟩ (cX6_carry_ok l G cI cG a0 a1 a2 a3 a4 fu th sa asd sv sm mt ln nx cd dg pw hs p1 x3 ex3) (cwV 1 hts gX6_comesIn_X6_carry rfl rfl rfl hdX6_carry ⟨Nat.le_of_ble_eq_true rfl, Nat.le_of_ble_eq_true rfl⟩) hP hD hS hA hK 9 rfl rfl rfl [0, 1, 2, 3, 4] rfl rfl rfl rfl rfl rfl rfl rfl hl.1 (Nat.le_of_ble_eq_true rfl) dX6_comesIn_13 ⟨Nat.zero_le _, Nat.zero_le _⟩ (fun H locs hP hD hS => ?_)
    exact J16 x3 _ _ _ h hP hD hS (lv_sub hl [0, 1] rfl)
theorem hdX6_ofAct : yX6_ofAct.cls = RX6 ∧ yX6_ofAct.cls ≠ "java/lang/invoke/MethodHandle" ∧ yX6_ofAct.cls ≠ "java/lang/invoke/VarHandle" ∧ (parseMethodDescriptor yX6_ofAct.desc).map (fun d => d.parameters.length) = some 2 := by decide +kernel
set_option maxHeartbeats 4000000 in
set_option maxRecDepth 100000 in
theorem cX6_ofAct_ok (l : Launch) (G : va_G) (cI cG : ClassId) (a0 a1 a2 a3 a4 : Nat) (th : Int32) (sa : (Nat → Int32)) (asd : (Nat → Int32)) (sv : (Nat → Int32)) (sm : Int32) (mt : (Nat → Int32)) (ln : Int32) (nx : Int32) (cd : Int32) (dg : Int32) (pw : Int32) (hs : Int64) (p1 : Int32) (p2 : Int32) (out : Int32) (hf : fX6_ofAct sa p1 p2 = some out) : CI l G (tyz cI cG) yX6_ofAct wsX6_ofAct ({ frames := 0, cells := 0, slots := 0, locals := 0 } : Room) [.ref a0, .int p1, .int p2] [(a0, .inr (9, [.int th, .ref a1, .ref a2, .ref a3, .int sm, .ref a4, .int ln, .int nx, .int cd, .int dg, .int pw, .long hs])), (a1, .inl (cI, 378, .inl sa)), (a2, .inl (cI, 378, .inl asd)), (a3, .inl (cI, 1512, .inl sv)), (a4, .inl (cI, 120, .inl mt))] out [(a0, .inr (9, [.int th, .ref a1, .ref a2, .ref a3, .int sm, .ref a4, .int ln, .int nx, .int cd, .int dg, .int pw, .long hs])), (a1, .inl (cI, 378, .inl sa)), (a2, .inl (cI, 378, .inl asd)), (a3, .inl (cI, 1512, .inl sv)), (a4, .inl (cI, 120, .inl mt))] := by
  intro sz
  refine Met.ofW (cc := cX6_ofAct) (maxL := 3) (ret := (some .int)) (by decide) rfl ?_
  intro p e s m args below meth c s₁ B hml hv
  obtain ⟨rfl, hsz, hP, hK, hD0⟩ := hv
  have hx := B.exec
  have hb := B.bytes
  have hr := B.returns
  have hts := atoms_spec (ws := wsX6_ofAct) B.pre
  have hown : s.vm.findClass RX6 = some m.cls := findClass_of_methodNamed B.named
  have hlocks := B.notSynchronized
  subst hsz
  have hD := hD0.self (sz := s.heap.size)
  generalize hAe : va_A [(a0, .inr (9, [.int th, .ref a1, .ref a2, .ref a3, .int sm, .ref a4, .int ln, .int nx, .int cd, .int dg, .int pw, .long hs])), (a1, .inl (cI, 378, .inl sa)), (a2, .inl (cI, 378, .inl asd)), (a3, .inl (cI, 1512, .inl sv)), (a4, .inl (cI, 120, .inl mt))] s.heap.size = A at hD ⊢
  have hA : ∀ q : Nat, s.heap.size ≤ q → A q := fun q h => by rw [← hAe]; exact Or.inr h
  have hS : va_S A s.heap s.heap [] := va_S.rf
  have hw0 := hts (.fieldLink RX6 7 "SpeedTurnsModel" "s" "[I") (List.mem_of_getElem? (i := 1) rfl)
  have hin6 : ∀ w ∈ u_ws RX6 TX6 12, w ∈ wsX6_ofAct := by decide +kernel
  show W p l e ({ frames := 0, cells := 0, slots := 0, locals := 0 } : Room) s m _ below meth c s.heap [] 0 0 _ _
  refine W_genQ (fun Q hQ => ?_)
  have h := hf
  rw [fX6_ofAct] at h
  have hl := lv_entry ([.ref a0, .int p1, .int p2]) (n := 3) (Nat.le_of_ble_eq_true rfl)
  rw [lg_entry_eq]
  generalize (lg_sl ([.ref a0, .int p1, .int p2]) ++ List.replicate (3 - (lg_sl ([.ref a0, .int p1, .int p2])).length) Slot.unset).toArray = ls at hl ⊢
  have hl : lv_has ls 3 [(0, .ref a0), (1, .int p1), (2, .int p2)] := hl
  refine lv_aload_n hx hb dX6_ofAct_0 rfl (lv_at hl 0 rfl) ?_
  refine va_get (D := G) (ci := 9) (v := .ref a1) (C := RX6) (T := TX6) (N := 12) hx hb hts hin6 hown hK.1 hP 0 rfl rfl 1 (by decide) hw0 (fun _ h9 => h9) rfl dX6_ofAct_1 ?_
  refine lv_sipush (v := 322) hx hb dX6_ofAct_4 (by decide) ?_
  refine lv_bipush (v := 7) hx hb dX6_ofAct_7 (by decide) ?_
  refine lv_iload_n hx hb dX6_ofAct_9 rfl (lv_at hl 1 rfl) ?_
  refine lv_imul hx hb dX6_ofAct_10 ?_
  refine lv_iadd hx hb dX6_ofAct_11 ?_
  refine lv_iload_n hx hb dX6_ofAct_12 rfl (lv_at hl 2 rfl) ?_
  refine lv_iadd hx hb dX6_ofAct_13 ?_
  obtain ⟨hin, h⟩ := o_g h
  refine va_iald hx hb hK.1 hP 1 0 rfl rfl hin dX6_ofAct_14 ?_
  obtain rfl := o_s h
  rw [hQ]
  exact end_i hx hb hr rfl hP hD hS dX6_ofAct_15 hlocks
theorem hdX6_canAnswer : yX6_canAnswer.cls = RX6 ∧ yX6_canAnswer.cls ≠ "java/lang/invoke/MethodHandle" ∧ yX6_canAnswer.cls ≠ "java/lang/invoke/VarHandle" ∧ (parseMethodDescriptor yX6_canAnswer.desc).map (fun d => d.parameters.length) = some 1 := by decide +kernel
set_option maxHeartbeats 4000000 in
set_option maxRecDepth 100000 in
theorem cX6_canAnswer_ok (l : Launch) (G : va_G) (cI cG : ClassId) (a0 a1 a2 a3 a4 : Nat) (th : Int32) (sa : (Nat → Int32)) (asd : (Nat → Int32)) (sv : (Nat → Int32)) (sm : Int32) (mt : (Nat → Int32)) (ln : Int32) (nx : Int32) (cd : Int32) (dg : Int32) (pw : Int32) (hs : Int64) (p1 : Int32) (out : Bool) (hf : fX6_canAnswer sa p1 = some out) : CI l G (tyz cI cG) yX6_canAnswer wsX6_canAnswer ({ frames := 2, cells := 0, slots := 0, locals := 43 } : Room) [.ref a0, .int p1] [(a0, .inr (9, [.int th, .ref a1, .ref a2, .ref a3, .int sm, .ref a4, .int ln, .int nx, .int cd, .int dg, .int pw, .long hs])), (a1, .inl (cI, 378, .inl sa)), (a2, .inl (cI, 378, .inl asd)), (a3, .inl (cI, 1512, .inl sv)), (a4, .inl (cI, 120, .inl mt))] (bI out) [(a0, .inr (9, [.int th, .ref a1, .ref a2, .ref a3, .int sm, .ref a4, .int ln, .int nx, .int cd, .int dg, .int pw, .long hs])), (a1, .inl (cI, 378, .inl sa)), (a2, .inl (cI, 378, .inl asd)), (a3, .inl (cI, 1512, .inl sv)), (a4, .inl (cI, 120, .inl mt))] := by
  intro sz
  refine Met.ofW (cc := cX6_canAnswer) (maxL := 2) (ret := (some .boolean)) (by decide) rfl ?_
  intro p e s m args below meth c s₁ B hml hv
  obtain ⟨rfl, hsz, hP, hK, hD0⟩ := hv
  have hx := B.exec
  have hb := B.bytes
  have hr := B.returns
  have hts := atoms_spec (ws := wsX6_canAnswer) B.pre
  have hown : s.vm.findClass RX6 = some m.cls := findClass_of_methodNamed B.named
  have hlocks := B.notSynchronized
  subst hsz
  have hD := hD0.self (sz := s.heap.size)
  generalize hAe : va_A [(a0, .inr (9, [.int th, .ref a1, .ref a2, .ref a3, .int sm, .ref a4, .int ln, .int nx, .int cd, .int dg, .int pw, .long hs])), (a1, .inl (cI, 378, .inl sa)), (a2, .inl (cI, 378, .inl asd)), (a3, .inl (cI, 1512, .inl sv)), (a4, .inl (cI, 120, .inl mt))] s.heap.size = A at hD ⊢
  have hA : ∀ q : Nat, s.heap.size ≤ q → A q := fun q h => by rw [← hAe]; exact Or.inr h
  have hS : va_S A s.heap s.heap [] := va_S.rf
  have hw0 := hts (.fieldLink RX6 7 "SpeedTurnsModel" "s" "[I") (List.mem_of_getElem? (i := 1) rfl)
  have hin6 : ∀ w ∈ u_ws RX6 TX6 12, w ∈ wsX6_canAnswer := by decide +kernel
  show W p l e ({ frames := 2, cells := 0, slots := 0, locals := 43 } : Room) s m _ below meth c s.heap [] 0 0 _ _
  refine W_genQ (fun Q hQ => ?_)
  have h := hf
  rw [fX6_canAnswer] at h
  have hl := lv_entry ([.ref a0, .int p1]) (n := 2) (Nat.le_of_ble_eq_true rfl)
  rw [lg_entry_eq]
  generalize (lg_sl ([.ref a0, .int p1]) ++ List.replicate (2 - (lg_sl ([.ref a0, .int p1])).length) Slot.unset).toArray = ls at hl ⊢
  have hl : lv_has ls 2 [(0, .ref a0), (1, .int p1)] := hl
  refine lv_aload_n hx hb dX6_canAnswer_0 rfl (lv_at hl 0 rfl) ?_
  refine va_get (D := G) (ci := 9) (v := .ref a1) (C := RX6) (T := TX6) (N := 12) hx hb hts hin6 hown hK.1 hP 0 rfl rfl 1 (by decide) hw0 (fun _ h9 => h9) rfl dX6_canAnswer_1 ?_
  refine lv_bipush (v := 8) hx hb dX6_canAnswer_4 (by decide) ?_
  obtain ⟨hin, h⟩ := o_g h
  refine va_iald hx hb hK.1 hP 1 0 rfl rfl hin dX6_canAnswer_6 ?_
  refine lv_iconst (v := 1) hx hb dX6_canAnswer_7 (by decide) ?_
  refine lv_bipush (v := 7) hx hb dX6_canAnswer_8 (by decide) ?_
  obtain ⟨x1, ex1, h⟩ := o_b h
  refine call_iS (As := [.int (sa ((8 : Int32)).toNatClampNeg), .int (1 : Int32), .int (7 : Int32)]) (rest := []) (ws2 := [(a0, .inr (9, [.int th, .ref a1, .ref a2, .ref a3, .int sm, .ref a4, .int ln, .int nx, .int cd, .int dg, .int pw, .long hs])), (a1, .inl (cI, 378, .inl sa)), (a2, .inl (cI, 378, .inl asd)), (a3, .inl (cI, 1512, .inl sv)), (a4, .inl (cI, 120, .inl mt))]) ⟨hx, hb, hml, hown, hts⟩ (cX6_in_ok l G cI cG (sa ((8 : Int32)).toNatClampNeg) (1 : Int32) (7 : Int32) x1 ex1) (va_cwS 3 hts gX6_canAnswer_X6_in rfl rfl rfl hdX6_in ⟨Nat.le_of_ble_eq_true rfl, Nat.le_of_ble_eq_true rfl⟩) hP hD hS hA hK [] rfl rfl rfl rfl rfl rfl rfl rfl hl.1 (Nat.le_of_ble_eq_true rfl) dX6_canAnswer_10 ⟨Nat.zero_le _, Nat.zero_le _⟩ (fun H locs hP hD hS => ?_)
  refine lv_if_eq (tgt := 56) hx hb dX6_canAnswer_13 (by decide) (fun hc => ?_) (fun hc => ?_)
  · have h := o_t h hc
    refine lv_iconst (v := 0) hx hb dX6_canAnswer_56 (by decide) ?_
    obtain rfl := o_s h
    rw [hQ]
    exact end_z hx hb hr rfl rfl hP hD hS dX6_canAnswer_57 hlocks
  · have h := o_f h hc
    refine lv_aload_n hx hb dX6_canAnswer_16 rfl (lv_at hl 0 rfl) ?_
    refine lv_iload_n hx hb dX6_canAnswer_17 rfl (lv_at hl 1 rfl) ?_
    obtain ⟨x2, ex2, h⟩ := o_b h
    refine call_iV (As := [.int p1]) (rest := []) (ws2 := [(a0, .inr (9, [.int th, .ref a1, .ref a2, .ref a3, .int sm, .ref a4, .int ln, .int nx, .int cd, .int dg, .int pw, .long hs])), (a1, .inl (cI, 378, .inl sa)), (a2, .inl (cI, 378, .inl asd)), (a3, .inl (cI, 1512, .inl sv)), (a4, .inl (cI, 120, .inl mt))]) ⟨hx, hb, hml, hown, hts⟩ (cX6_stands_ok l G cI cG a0 a1 a2 a3 a4 th sa asd sv sm mt ln nx cd dg pw hs p1 x2 ex2) (cwV 1 hts gX6_canAnswer_X6_stands rfl rfl rfl hdX6_stands ⟨Nat.le_of_ble_eq_true rfl, Nat.le_of_ble_eq_true rfl⟩) hP hD hS hA hK 9 rfl rfl rfl [0, 1, 2, 3, 4] rfl rfl rfl rfl rfl rfl rfl rfl hl.1 (Nat.le_of_ble_eq_true rfl) dX6_canAnswer_18 ⟨Nat.zero_le _, Nat.zero_le _⟩ (fun H locs hP hD hS => ?_)
    refine lv_if_eq (tgt := 56) hx hb dX6_canAnswer_21 (by decide) (fun hc => ?_) (fun hc => ?_)
    · have h := o_t h hc
      refine lv_iconst (v := 0) hx hb dX6_canAnswer_56 (by decide) ?_
      obtain rfl := o_s h
      rw [hQ]
      exact end_z hx hb hr rfl rfl hP hD hS dX6_canAnswer_57 hlocks
    · have h := o_f h hc
      refine lv_aload_n hx hb dX6_canAnswer_24 rfl (lv_at hl 0 rfl) ?_
      refine lv_iload_n hx hb dX6_canAnswer_25 rfl (lv_at hl 1 rfl) ?_
      refine lv_iconst (v := 3) hx hb dX6_canAnswer_26 (by decide) ?_
      obtain ⟨x3, ex3, h⟩ := o_b h
      refine call_iV (As := [.int p1, .int (3 : Int32)]) (rest := []) (ws2 := [(a0, .inr (9, [.int th, .ref a1, .ref a2, .ref a3, .int sm, .ref a4, .int ln, .int nx, .int cd, .int dg, .int pw, .long hs])), (a1, .inl (cI, 378, .inl sa)), (a2, .inl (cI, 378, .inl asd)), (a3, .inl (cI, 1512, .inl sv)), (a4, .inl (cI, 120, .inl mt))]) ⟨hx, hb, hml, hown, hts⟩ (cX6_of_ok l G cI cG a0 a1 a2 a3 a4 th sa asd sv sm mt ln nx cd dg pw hs p1 (3 : Int32) x3 ex3) (cwV 2 hts gX6_canAnswer_X6_of rfl rfl rfl hdX6_of ⟨Nat.le_of_ble_eq_true rfl, Nat.le_of_ble_eq_true rfl⟩) hP hD hS hA hK 9 rfl rfl rfl [0, 1, 2, 3, 4] rfl rfl rfl rfl rfl rfl rfl rfl hl.1 (Nat.le_of_ble_eq_true rfl) dX6_canAnswer_27 ⟨Nat.zero_le _, Nat.zero_le _⟩ (fun H locs hP hD hS => ?_)
      refine lv_iconst (v := 1) hx hb dX6_canAnswer_30 (by decide) ?_
      refine lv_icmp_ne (tgt := 56) hx hb dX6_canAnswer_31 (by decide) (fun hc => ?_) (fun hc => ?_)
      · have h := o_f h hc
        refine lv_iconst (v := 0) hx hb dX6_canAnswer_56 (by decide) ?_
        obtain rfl := o_s h
        rw [hQ]
        exact end_z hx hb hr rfl rfl hP hD hS dX6_canAnswer_57 hlocks
      · have h := o_t h hc
        refine lv_aload_n hx hb dX6_canAnswer_34 rfl (lv_at hl 0 rfl) ?_
        refine lv_aload_n hx hb dX6_canAnswer_35 rfl (lv_at hl 0 rfl) ?_
        refine va_get (D := G) (ci := 9) (v := .ref a1) (C := RX6) (T := TX6) (N := 12) hx hb hts hin6 hown hK.1 hP 0 rfl rfl 1 (by decide) hw0 (fun _ h9 => h9) rfl dX6_canAnswer_36 ?_
        refine lv_bipush (v := 8) hx hb dX6_canAnswer_39 (by decide) ?_
        obtain ⟨hin, h⟩ := o_g h
        refine va_iald hx hb hK.1 hP 1 0 rfl rfl hin dX6_canAnswer_41 ?_
        refine lv_iconst (v := 1) hx hb dX6_canAnswer_42 (by decide) ?_
        refine lv_isub hx hb dX6_canAnswer_43 ?_
        refine lv_iconst (v := 1) hx hb dX6_canAnswer_44 (by decide) ?_
        obtain ⟨x4, ex4, h⟩ := o_b h
        refine call_iV (As := [.int ((sa ((8 : Int32)).toNatClampNeg) - (1 : Int32)), .int (1 : Int32)]) (rest := []) (ws2 := [(a0, .inr (9, [.int th, .ref a1, .ref a2, .ref a3, .int sm, .ref a4, .int ln, .int nx, .int cd, .int dg, .int pw, .long hs])), (a1, .inl (cI, 378, .inl sa)), (a2, .inl (cI, 378, .inl asd)), (a3, .inl (cI, 1512, .inl sv)), (a4, .inl (cI, 120, .inl mt))]) ⟨hx, hb, hml, hown, hts⟩ (cX6_ofAct_ok l G cI cG a0 a1 a2 a3 a4 th sa asd sv sm mt ln nx cd dg pw hs ((sa ((8 : Int32)).toNatClampNeg) - (1 : Int32)) (1 : Int32) x4 ex4) (cwV 2 hts gX6_canAnswer_X6_ofAct rfl rfl rfl hdX6_ofAct ⟨Nat.le_of_ble_eq_true rfl, Nat.le_of_ble_eq_true rfl⟩) hP hD hS hA hK 9 rfl rfl rfl [0, 1, 2, 3, 4] rfl rfl rfl rfl rfl rfl rfl rfl hl.1 (Nat.le_of_ble_eq_true rfl) dX6_canAnswer_45 ⟨Nat.zero_le _, Nat.zero_le _⟩ (fun H locs hP hD hS => ?_)
        refine lv_iload_n hx hb dX6_canAnswer_48 rfl (lv_at hl 1 rfl) ?_
        refine lv_icmp_eq (tgt := 56) hx hb dX6_canAnswer_49 (by decide) (fun hc => ?_) (fun hc => ?_)
        · have h := o_t h hc
          refine lv_iconst (v := 0) hx hb dX6_canAnswer_56 (by decide) ?_
          obtain rfl := o_s h
          rw [hQ]
          exact end_z hx hb hr rfl rfl hP hD hS dX6_canAnswer_57 hlocks
        · have h := o_f h hc
          refine lv_iconst (v := 1) hx hb dX6_canAnswer_52 (by decide) ?_
          refine lv_goto (tgt := 57) hx hb dX6_canAnswer_53 (by decide) ?_
          obtain rfl := o_s h
          rw [hQ]
          exact end_z hx hb hr rfl rfl hP hD hS dX6_canAnswer_57 hlocks
theorem hdX6_canAct : yX6_canAct.cls = RX6 ∧ yX6_canAct.cls ≠ "java/lang/invoke/MethodHandle" ∧ yX6_canAct.cls ≠ "java/lang/invoke/VarHandle" ∧ (parseMethodDescriptor yX6_canAct.desc).map (fun d => d.parameters.length) = some 2 := by decide +kernel
set_option maxHeartbeats 4000000 in
set_option maxRecDepth 100000 in
theorem cX6_canAct_ok (l : Launch) (G : va_G) (cI cG : ClassId) (a0 a1 a2 a3 a4 : Nat) (th : Int32) (sa : (Nat → Int32)) (asd : (Nat → Int32)) (sv : (Nat → Int32)) (sm : Int32) (mt : (Nat → Int32)) (ln : Int32) (nx : Int32) (cd : Int32) (dg : Int32) (pw : Int32) (hs : Int64) (p1 : Int32) (p2 : Int32) (out : Bool) (hf : fX6_canAct sa p1 p2 = some out) : CI l G (tyz cI cG) yX6_canAct wsX6_canAct ({ frames := 3, cells := 0, slots := 0, locals := 64 } : Room) [.ref a0, .int p1, .int p2] [(a0, .inr (9, [.int th, .ref a1, .ref a2, .ref a3, .int sm, .ref a4, .int ln, .int nx, .int cd, .int dg, .int pw, .long hs])), (a1, .inl (cI, 378, .inl sa)), (a2, .inl (cI, 378, .inl asd)), (a3, .inl (cI, 1512, .inl sv)), (a4, .inl (cI, 120, .inl mt))] (bI out) [(a0, .inr (9, [.int th, .ref a1, .ref a2, .ref a3, .int sm, .ref a4, .int ln, .int nx, .int cd, .int dg, .int pw, .long hs])), (a1, .inl (cI, 378, .inl sa)), (a2, .inl (cI, 378, .inl asd)), (a3, .inl (cI, 1512, .inl sv)), (a4, .inl (cI, 120, .inl mt))] := by
  intro sz
  refine Met.ofW (cc := cX6_canAct) (maxL := 3) (ret := (some .boolean)) (by decide) rfl ?_
  intro p e s m args below meth c s₁ B hml hv
  obtain ⟨rfl, hsz, hP, hK, hD0⟩ := hv
  have hx := B.exec
  have hb := B.bytes
  have hr := B.returns
  have hts := atoms_spec (ws := wsX6_canAct) B.pre
  have hown : s.vm.findClass RX6 = some m.cls := findClass_of_methodNamed B.named
  have hlocks := B.notSynchronized
  subst hsz
  have hD := hD0.self (sz := s.heap.size)
  generalize hAe : va_A [(a0, .inr (9, [.int th, .ref a1, .ref a2, .ref a3, .int sm, .ref a4, .int ln, .int nx, .int cd, .int dg, .int pw, .long hs])), (a1, .inl (cI, 378, .inl sa)), (a2, .inl (cI, 378, .inl asd)), (a3, .inl (cI, 1512, .inl sv)), (a4, .inl (cI, 120, .inl mt))] s.heap.size = A at hD ⊢
  have hA : ∀ q : Nat, s.heap.size ≤ q → A q := fun q h => by rw [← hAe]; exact Or.inr h
  have hS : va_S A s.heap s.heap [] := va_S.rf
  have hw0 := hts (.fieldLink RX6 7 "SpeedTurnsModel" "s" "[I") (List.mem_of_getElem? (i := 1) rfl)
  have hin6 : ∀ w ∈ u_ws RX6 TX6 12, w ∈ wsX6_canAct := by decide +kernel
  show W p l e ({ frames := 3, cells := 0, slots := 0, locals := 64 } : Room) s m _ below meth c s.heap [] 0 0 _ _
  refine W_genQ (fun Q hQ => ?_)
  have h := hf
  rw [fX6_canAct] at h
  have hl := lv_entry ([.ref a0, .int p1, .int p2]) (n := 3) (Nat.le_of_ble_eq_true rfl)
  rw [lg_entry_eq]
  generalize (lg_sl ([.ref a0, .int p1, .int p2]) ++ List.replicate (3 - (lg_sl ([.ref a0, .int p1, .int p2])).length) Slot.unset).toArray = ls at hl ⊢
  have hl : lv_has ls 3 [(0, .ref a0), (1, .int p1), (2, .int p2)] := hl
  refine lv_aload_n hx hb dX6_canAct_0 rfl (lv_at hl 0 rfl) ?_
  refine va_get (D := G) (ci := 9) (v := .ref a1) (C := RX6) (T := TX6) (N := 12) hx hb hts hin6 hown hK.1 hP 0 rfl rfl 1 (by decide) hw0 (fun _ h9 => h9) rfl dX6_canAct_1 ?_
  refine lv_bipush (v := 8) hx hb dX6_canAct_4 (by decide) ?_
  obtain ⟨hin, h⟩ := o_g h
  refine va_iald hx hb hK.1 hP 1 0 rfl rfl hin dX6_canAct_6 ?_
  refine lv_if_ne (tgt := 33) hx hb dX6_canAct_7 (by decide) (fun hc => ?_) (fun hc => ?_)
  · have h := o_f h hc
    refine lv_aload_n hx hb dX6_canAct_33 rfl (lv_at hl 0 rfl) ?_
    refine lv_iload_n hx hb dX6_canAct_34 rfl (lv_at hl 1 rfl) ?_
    obtain ⟨x1, ex1, h⟩ := o_b h
    refine call_iV (As := [.int p1]) (rest := []) (ws2 := [(a0, .inr (9, [.int th, .ref a1, .ref a2, .ref a3, .int sm, .ref a4, .int ln, .int nx, .int cd, .int dg, .int pw, .long hs])), (a1, .inl (cI, 378, .inl sa)), (a2, .inl (cI, 378, .inl asd)), (a3, .inl (cI, 1512, .inl sv)), (a4, .inl (cI, 120, .inl mt))]) ⟨hx, hb, hml, hown, hts⟩ (cX6_canAnswer_ok l G cI cG a0 a1 a2 a3 a4 th sa asd sv sm mt ln nx cd dg pw hs p1 x1 ex1) (cwV 1 hts gX6_canAct_X6_canAnswer rfl rfl rfl hdX6_canAnswer ⟨Nat.le_of_ble_eq_true rfl, Nat.le_of_ble_eq_true rfl⟩) hP hD hS hA hK 9 rfl rfl rfl [0, 1, 2, 3, 4] rfl rfl rfl rfl rfl rfl rfl rfl hl.1 (Nat.le_of_ble_eq_true rfl) dX6_canAct_35 ⟨Nat.zero_le _, Nat.zero_le _⟩ (fun H locs hP hD hS => ?_)
    obtain rfl := o_s h
    rw [hQ]
    exact end_z hx hb hr rfl (bI_n _) hP hD hS dX6_canAct_38 hlocks
  · have h := o_t h hc
    refine lv_aload_n hx hb dX6_canAct_10 rfl (lv_at hl 0 rfl) ?_
    refine va_get (D := G) (ci := 9) (v := .ref a1) (C := RX6) (T := TX6) (N := 12) hx hb hts hin6 hown hK.1 hP 0 rfl rfl 1 (by decide) hw0 (fun _ h9 => h9) rfl dX6_canAct_11 ?_
    refine lv_iconst (v := 4) hx hb dX6_canAct_14 (by decide) ?_
    obtain ⟨hin, h⟩ := o_g h
    refine va_iald hx hb hK.1 hP 1 0 rfl rfl hin dX6_canAct_15 ?_
    refine lv_iload_n hx hb dX6_canAct_16 rfl (lv_at hl 1 rfl) ?_
    refine lv_icmp_ne (tgt := 29) hx hb dX6_canAct_17 (by decide) (fun hc => ?_) (fun hc => ?_)
    · have h := o_f h hc
      refine lv_iconst (v := 0) hx hb dX6_canAct_29 (by decide) ?_
      refine lv_goto (tgt := 38) hx hb dX6_canAct_30 (by decide) ?_
      obtain rfl := o_s h
      rw [hQ]
      exact end_z hx hb hr rfl rfl hP hD hS dX6_canAct_38 hlocks
    · have h := o_t h hc
      refine lv_iload_n hx hb dX6_canAct_20 rfl (lv_at hl 2 rfl) ?_
      refine lv_iconst (v := 3) hx hb dX6_canAct_21 (by decide) ?_
      refine lv_icmp_eq (tgt := 29) hx hb dX6_canAct_22 (by decide) (fun hc => ?_) (fun hc => ?_)
      · have h := o_t h hc
        refine lv_iconst (v := 0) hx hb dX6_canAct_29 (by decide) ?_
        refine lv_goto (tgt := 38) hx hb dX6_canAct_30 (by decide) ?_
        obtain rfl := o_s h
        rw [hQ]
        exact end_z hx hb hr rfl rfl hP hD hS dX6_canAct_38 hlocks
      · have h := o_f h hc
        refine lv_iconst (v := 1) hx hb dX6_canAct_25 (by decide) ?_
        refine lv_goto (tgt := 38) hx hb dX6_canAct_26 (by decide) ?_
        obtain rfl := o_s h
        rw [hQ]
        exact end_z hx hb hr rfl rfl hP hD hS dX6_canAct_38 hlocks
theorem hdX6_pushes : yX6_pushes.cls = RX6 ∧ yX6_pushes.cls ≠ "java/lang/invoke/MethodHandle" ∧ yX6_pushes.cls ≠ "java/lang/invoke/VarHandle" ∧ (parseMethodDescriptor yX6_pushes.desc).map (fun d => d.parameters.length) = some 7 := by decide +kernel
set_option maxHeartbeats 4000000 in
set_option maxRecDepth 100000 in
theorem cX6_pushes_ok (l : Launch) (G : va_G) (cI cG : ClassId) (a0 a1 a2 a3 a4 : Nat) (th : Int32) (sa : (Nat → Int32)) (asd : (Nat → Int32)) (sv : (Nat → Int32)) (sm : Int32) (mt : (Nat → Int32)) (ln : Int32) (nx : Int32) (cd : Int32) (dg : Int32) (pw : Int32) (hs : Int64) (p1 : Int32) (p2 : Int32) (p3 : Int32) (p4 : Int32) (p5 : Int32) (p6 : Int32) (p7 : Int32) (out : Int32 × (Nat → Int32)) (hf : fX6_pushes sa p1 p2 p3 p4 p5 p6 p7 = some out) : CI l G (tyz cI cG) yX6_pushes wsX6_pushes ({ frames := 1, cells := 0, slots := 0, locals := 23 } : Room) [.ref a0, .int p1, .int p2, .int p3, .int p4, .int p5, .int p6, .int p7] [(a0, .inr (9, [.int th, .ref a1, .ref a2, .ref a3, .int sm, .ref a4, .int ln, .int nx, .int cd, .int dg, .int pw, .long hs])), (a1, .inl (cI, 378, .inl sa)), (a2, .inl (cI, 378, .inl asd)), (a3, .inl (cI, 1512, .inl sv)), (a4, .inl (cI, 120, .inl mt))] out.1 [(a0, .inr (9, [.int th, .ref a1, .ref a2, .ref a3, .int sm, .ref a4, .int ln, .int nx, .int cd, .int dg, .int pw, .long hs])), (a1, .inl (cI, 378, .inl out.2)), (a2, .inl (cI, 378, .inl asd)), (a3, .inl (cI, 1512, .inl sv)), (a4, .inl (cI, 120, .inl mt))] := by
  intro sz
  refine Met.ofW (cc := cX6_pushes) (maxL := 9) (ret := (some .int)) (by decide) rfl ?_
  intro p e s m args below meth c s₁ B hml hv
  obtain ⟨rfl, hsz, hP, hK, hD0⟩ := hv
  have hx := B.exec
  have hb := B.bytes
  have hr := B.returns
  have hts := atoms_spec (ws := wsX6_pushes) B.pre
  have hown : s.vm.findClass RX6 = some m.cls := findClass_of_methodNamed B.named
  have hlocks := B.notSynchronized
  subst hsz
  have hD := hD0.self (sz := s.heap.size)
  generalize hAe : va_A [(a0, .inr (9, [.int th, .ref a1, .ref a2, .ref a3, .int sm, .ref a4, .int ln, .int nx, .int cd, .int dg, .int pw, .long hs])), (a1, .inl (cI, 378, .inl sa)), (a2, .inl (cI, 378, .inl asd)), (a3, .inl (cI, 1512, .inl sv)), (a4, .inl (cI, 120, .inl mt))] s.heap.size = A at hD ⊢
  have hA : ∀ q : Nat, s.heap.size ≤ q → A q := fun q h => by rw [← hAe]; exact Or.inr h
  have hS : va_S A s.heap s.heap [] := va_S.rf
  have hw0 := hts (.fieldLink RX6 7 "SpeedTurnsModel" "s" "[I") (List.mem_of_getElem? (i := 1) rfl)
  have hin6 : ∀ w ∈ u_ws RX6 TX6 12, w ∈ wsX6_pushes := by decide +kernel
  show W p l e ({ frames := 1, cells := 0, slots := 0, locals := 23 } : Room) s m _ below meth c s.heap [] 0 0 _ _
  refine W_genQ (fun Q hQ => ?_)
  have J27 : ∀ (sa : (Nat → Int32)) (H : Heap) (locs : List Loc) (ls : Array Slot), fX6_pushes_J27 p1 p2 p3 p4 p5 p6 p7 sa = some out → va_P G vwCl [(a0, .inr (9, [.int th, .ref a1, .ref a2, .ref a3, .int sm, .ref a4, .int ln, .int nx, .int cd, .int dg, .int pw, .long hs])), (a1, .inl (cI, 378, .inl sa)), (a2, .inl (cI, 378, .inl asd)), (a3, .inl (cI, 1512, .inl sv)), (a4, .inl (cI, 120, .inl mt))] H → va_D A [(a0, .inr (9, [.int th, .ref a1, .ref a2, .ref a3, .int sm, .ref a4, .int ln, .int nx, .int cd, .int dg, .int pw, .long hs])), (a1, .inl (cI, 378, .inl sa)), (a2, .inl (cI, 378, .inl asd)), (a3, .inl (cI, 1512, .inl sv)), (a4, .inl (cI, 120, .inl mt))] → va_S A s.heap H locs → lv_has ls 9 [(0, .ref a0), (1, .int p1), (2, .int p2), (3, .int p3), (4, .int p4), (5, .int p5), (6, .int p6), (7, .int p7)] → W p l e ({ frames := 1, cells := 0, slots := 0, locals := 23 } : Room) s m ([.ref a0, .int p1, .int p2, .int p3, .int p4, .int p5, .int p6, .int p7] : List Value).toArray below meth c H locs 0 0 Q (F0 m 27 ls []) := by
    intro sa H locs ls h hP hD hS hl
    rw [fX6_pushes_J27] at h
    refine lv_sipush (v := 322) hx hb dX6_pushes_27 (by decide) ?_
    refine lv_bipush (v := 7) hx hb dX6_pushes_30 (by decide) ?_
    refine lv_aload_n hx hb dX6_pushes_32 rfl (lv_at hl 0 rfl) ?_
    refine va_get (D := G) (ci := 9) (v := .ref a1) (C := RX6) (T := TX6) (N := 12) hx hb hts hin6 hown hK.1 hP 0 rfl rfl 1 (by decide) hw0 (fun _ h9 => h9) rfl dX6_pushes_33 ?_
    refine lv_bipush (v := 8) hx hb dX6_pushes_36 (by decide) ?_
    obtain ⟨hin, h⟩ := o_g h
    refine va_iald hx hb hK.1 hP 1 0 rfl rfl hin dX6_pushes_38 ?_
    refine lv_imul hx hb dX6_pushes_39 ?_
    refine lv_iadd hx hb dX6_pushes_40 ?_
    refine lv_istore (lv' := [(8, .int ((322 : Int32) + ((7 : Int32) * (sa ((8 : Int32)).toNatClampNeg)))), (0, .ref a0), (1, .int p1), (2, .int p2), (3, .int p3), (4, .int p4), (5, .int p5), (6, .int p6), (7, .int p7)]) hx hb dX6_pushes_41 hl (by decide) rfl (fun ls hl => ?_)
    refine lv_aload_n hx hb dX6_pushes_43 rfl (lv_at hl 1 rfl) ?_
    refine va_get (D := G) (ci := 9) (v := .ref a1) (C := RX6) (T := TX6) (N := 12) hx hb hts hin6 hown hK.1 hP 0 rfl rfl 1 (by decide) hw0 (fun _ h9 => h9) rfl dX6_pushes_44 ?_
    refine lv_iload hx hb dX6_pushes_47 (lv_at hl 0 rfl) ?_
    refine lv_iload_n hx hb dX6_pushes_49 rfl (lv_at hl 2 rfl) ?_
    obtain ⟨hin, h⟩ := o_g h
    refine va_iast hx hb hK.1 hP hD hS 1 0 rfl rfl hin dX6_pushes_50 (fun H locs hP hD hS => ?_)
    have hP : va_P G vwCl [(a0, .inr (9, [.int th, .ref a1, .ref a2, .ref a3, .int sm, .ref a4, .int ln, .int nx, .int cd, .int dg, .int pw, .long hs])), (a1, .inl (cI, 378, .inl (upd sa (((322 : Int32) + ((7 : Int32) * (sa ((8 : Int32)).toNatClampNeg)))).toNatClampNeg p1))), (a2, .inl (cI, 378, .inl asd)), (a3, .inl (cI, 1512, .inl sv)), (a4, .inl (cI, 120, .inl mt))] H := hP
    have hD : va_D A [(a0, .inr (9, [.int th, .ref a1, .ref a2, .ref a3, .int sm, .ref a4, .int ln, .int nx, .int cd, .int dg, .int pw, .long hs])), (a1, .inl (cI, 378, .inl (upd sa (((322 : Int32) + ((7 : Int32) * (sa ((8 : Int32)).toNatClampNeg)))).toNatClampNeg p1))), (a2, .inl (cI, 378, .inl asd)), (a3, .inl (cI, 1512, .inl sv)), (a4, .inl (cI, 120, .inl mt))] := hD
    refine lv_aload_n hx hb dX6_pushes_51 rfl (lv_at hl 1 rfl) ?_
    refine va_get (D := G) (ci := 9) (v := .ref a1) (C := RX6) (T := TX6) (N := 12) hx hb hts hin6 hown hK.1 hP 0 rfl rfl 1 (by decide) hw0 (fun _ h9 => h9) rfl dX6_pushes_52 ?_
    refine lv_iload hx hb dX6_pushes_55 (lv_at hl 0 rfl) ?_
    refine lv_iconst (v := 1) hx hb dX6_pushes_57 (by decide) ?_
    refine lv_iadd hx hb dX6_pushes_58 ?_
    refine lv_iload_n hx hb dX6_pushes_59 rfl (lv_at hl 3 rfl) ?_
    obtain ⟨hin, h⟩ := o_g h
    refine va_iast hx hb hK.1 hP hD hS 1 0 rfl rfl hin dX6_pushes_60 (fun H locs hP hD hS => ?_)
    have hP : va_P G vwCl [(a0, .inr (9, [.int th, .ref a1, .ref a2, .ref a3, .int sm, .ref a4, .int ln, .int nx, .int cd, .int dg, .int pw, .long hs])), (a1, .inl (cI, 378, .inl (upd (upd sa (((322 : Int32) + ((7 : Int32) * (sa ((8 : Int32)).toNatClampNeg)))).toNatClampNeg p1) ((((322 : Int32) + ((7 : Int32) * (sa ((8 : Int32)).toNatClampNeg))) + (1 : Int32))).toNatClampNeg p2))), (a2, .inl (cI, 378, .inl asd)), (a3, .inl (cI, 1512, .inl sv)), (a4, .inl (cI, 120, .inl mt))] H := hP
    have hD : va_D A [(a0, .inr (9, [.int th, .ref a1, .ref a2, .ref a3, .int sm, .ref a4, .int ln, .int nx, .int cd, .int dg, .int pw, .long hs])), (a1, .inl (cI, 378, .inl (upd (upd sa (((322 : Int32) + ((7 : Int32) * (sa ((8 : Int32)).toNatClampNeg)))).toNatClampNeg p1) ((((322 : Int32) + ((7 : Int32) * (sa ((8 : Int32)).toNatClampNeg))) + (1 : Int32))).toNatClampNeg p2))), (a2, .inl (cI, 378, .inl asd)), (a3, .inl (cI, 1512, .inl sv)), (a4, .inl (cI, 120, .inl mt))] := hD
    refine lv_aload_n hx hb dX6_pushes_61 rfl (lv_at hl 1 rfl) ?_
    refine va_get (D := G) (ci := 9) (v := .ref a1) (C := RX6) (T := TX6) (N := 12) hx hb hts hin6 hown hK.1 hP 0 rfl rfl 1 (by decide) hw0 (fun _ h9 => h9) rfl dX6_pushes_62 ?_
    refine lv_iload hx hb dX6_pushes_65 (lv_at hl 0 rfl) ?_
    refine lv_iconst (v := 2) hx hb dX6_pushes_67 (by decide) ?_
    refine lv_iadd hx hb dX6_pushes_68 ?_
    refine lv_iload_n hx hb dX6_pushes_69 rfl (lv_at hl 4 rfl) ?_
    obtain ⟨hin, h⟩ := o_g h
    refine va_iast hx hb hK.1 hP hD hS 1 0 rfl rfl hin dX6_pushes_70 (fun H locs hP hD hS => ?_)
    have hP : va_P G vwCl [(a0, .inr (9, [.int th, .ref a1, .ref a2, .ref a3, .int sm, .ref a4, .int ln, .int nx, .int cd, .int dg, .int pw, .long hs])), (a1, .inl (cI, 378, .inl (upd (upd (upd sa (((322 : Int32) + ((7 : Int32) * (sa ((8 : Int32)).toNatClampNeg)))).toNatClampNeg p1) ((((322 : Int32) + ((7 : Int32) * (sa ((8 : Int32)).toNatClampNeg))) + (1 : Int32))).toNatClampNeg p2) ((((322 : Int32) + ((7 : Int32) * (sa ((8 : Int32)).toNatClampNeg))) + (2 : Int32))).toNatClampNeg p3))), (a2, .inl (cI, 378, .inl asd)), (a3, .inl (cI, 1512, .inl sv)), (a4, .inl (cI, 120, .inl mt))] H := hP
    have hD : va_D A [(a0, .inr (9, [.int th, .ref a1, .ref a2, .ref a3, .int sm, .ref a4, .int ln, .int nx, .int cd, .int dg, .int pw, .long hs])), (a1, .inl (cI, 378, .inl (upd (upd (upd sa (((322 : Int32) + ((7 : Int32) * (sa ((8 : Int32)).toNatClampNeg)))).toNatClampNeg p1) ((((322 : Int32) + ((7 : Int32) * (sa ((8 : Int32)).toNatClampNeg))) + (1 : Int32))).toNatClampNeg p2) ((((322 : Int32) + ((7 : Int32) * (sa ((8 : Int32)).toNatClampNeg))) + (2 : Int32))).toNatClampNeg p3))), (a2, .inl (cI, 378, .inl asd)), (a3, .inl (cI, 1512, .inl sv)), (a4, .inl (cI, 120, .inl mt))] := hD
    refine lv_aload_n hx hb dX6_pushes_71 rfl (lv_at hl 1 rfl) ?_
    refine va_get (D := G) (ci := 9) (v := .ref a1) (C := RX6) (T := TX6) (N := 12) hx hb hts hin6 hown hK.1 hP 0 rfl rfl 1 (by decide) hw0 (fun _ h9 => h9) rfl dX6_pushes_72 ?_
    refine lv_iload hx hb dX6_pushes_75 (lv_at hl 0 rfl) ?_
    refine lv_iconst (v := 3) hx hb dX6_pushes_77 (by decide) ?_
    refine lv_iadd hx hb dX6_pushes_78 ?_
    refine lv_iload hx hb dX6_pushes_79 (lv_at hl 5 rfl) ?_
    obtain ⟨hin, h⟩ := o_g h
    refine va_iast hx hb hK.1 hP hD hS 1 0 rfl rfl hin dX6_pushes_81 (fun H locs hP hD hS => ?_)
    have hP : va_P G vwCl [(a0, .inr (9, [.int th, .ref a1, .ref a2, .ref a3, .int sm, .ref a4, .int ln, .int nx, .int cd, .int dg, .int pw, .long hs])), (a1, .inl (cI, 378, .inl (upd (upd (upd (upd sa (((322 : Int32) + ((7 : Int32) * (sa ((8 : Int32)).toNatClampNeg)))).toNatClampNeg p1) ((((322 : Int32) + ((7 : Int32) * (sa ((8 : Int32)).toNatClampNeg))) + (1 : Int32))).toNatClampNeg p2) ((((322 : Int32) + ((7 : Int32) * (sa ((8 : Int32)).toNatClampNeg))) + (2 : Int32))).toNatClampNeg p3) ((((322 : Int32) + ((7 : Int32) * (sa ((8 : Int32)).toNatClampNeg))) + (3 : Int32))).toNatClampNeg p4))), (a2, .inl (cI, 378, .inl asd)), (a3, .inl (cI, 1512, .inl sv)), (a4, .inl (cI, 120, .inl mt))] H := hP
    have hD : va_D A [(a0, .inr (9, [.int th, .ref a1, .ref a2, .ref a3, .int sm, .ref a4, .int ln, .int nx, .int cd, .int dg, .int pw, .long hs])), (a1, .inl (cI, 378, .inl (upd (upd (upd (upd sa (((322 : Int32) + ((7 : Int32) * (sa ((8 : Int32)).toNatClampNeg)))).toNatClampNeg p1) ((((322 : Int32) + ((7 : Int32) * (sa ((8 : Int32)).toNatClampNeg))) + (1 : Int32))).toNatClampNeg p2) ((((322 : Int32) + ((7 : Int32) * (sa ((8 : Int32)).toNatClampNeg))) + (2 : Int32))).toNatClampNeg p3) ((((322 : Int32) + ((7 : Int32) * (sa ((8 : Int32)).toNatClampNeg))) + (3 : Int32))).toNatClampNeg p4))), (a2, .inl (cI, 378, .inl asd)), (a3, .inl (cI, 1512, .inl sv)), (a4, .inl (cI, 120, .inl mt))] := hD
    refine lv_aload_n hx hb dX6_pushes_82 rfl (lv_at hl 1 rfl) ?_
    refine va_get (D := G) (ci := 9) (v := .ref a1) (C := RX6) (T := TX6) (N := 12) hx hb hts hin6 hown hK.1 hP 0 rfl rfl 1 (by decide) hw0 (fun _ h9 => h9) rfl dX6_pushes_83 ?_
    refine lv_iload hx hb dX6_pushes_86 (lv_at hl 0 rfl) ?_
    refine lv_iconst (v := 4) hx hb dX6_pushes_88 (by decide) ?_
    refine lv_iadd hx hb dX6_pushes_89 ?_
    refine lv_iload hx hb dX6_pushes_90 (lv_at hl 6 rfl) ?_
    obtain ⟨hin, h⟩ := o_g h
    refine va_iast hx hb hK.1 hP hD hS 1 0 rfl rfl hin dX6_pushes_92 (fun H locs hP hD hS => ?_)
    have hP : va_P G vwCl [(a0, .inr (9, [.int th, .ref a1, .ref a2, .ref a3, .int sm, .ref a4, .int ln, .int nx, .int cd, .int dg, .int pw, .long hs])), (a1, .inl (cI, 378, .inl (upd (upd (upd (upd (upd sa (((322 : Int32) + ((7 : Int32) * (sa ((8 : Int32)).toNatClampNeg)))).toNatClampNeg p1) ((((322 : Int32) + ((7 : Int32) * (sa ((8 : Int32)).toNatClampNeg))) + (1 : Int32))).toNatClampNeg p2) ((((322 : Int32) + ((7 : Int32) * (sa ((8 : Int32)).toNatClampNeg))) + (2 : Int32))).toNatClampNeg p3) ((((322 : Int32) + ((7 : Int32) * (sa ((8 : Int32)).toNatClampNeg))) + (3 : Int32))).toNatClampNeg p4) ((((322 : Int32) + ((7 : Int32) * (sa ((8 : Int32)).toNatClampNeg))) + (4 : Int32))).toNatClampNeg p5))), (a2, .inl (cI, 378, .inl asd)), (a3, .inl (cI, 1512, .inl sv)), (a4, .inl (cI, 120, .inl mt))] H := hP
    have hD : va_D A [(a0, .inr (9, [.int th, .ref a1, .ref a2, .ref a3, .int sm, .ref a4, .int ln, .int nx, .int cd, .int dg, .int pw, .long hs])), (a1, .inl (cI, 378, .inl (upd (upd (upd (upd (upd sa (((322 : Int32) + ((7 : Int32) * (sa ((8 : Int32)).toNatClampNeg)))).toNatClampNeg p1) ((((322 : Int32) + ((7 : Int32) * (sa ((8 : Int32)).toNatClampNeg))) + (1 : Int32))).toNatClampNeg p2) ((((322 : Int32) + ((7 : Int32) * (sa ((8 : Int32)).toNatClampNeg))) + (2 : Int32))).toNatClampNeg p3) ((((322 : Int32) + ((7 : Int32) * (sa ((8 : Int32)).toNatClampNeg))) + (3 : Int32))).toNatClampNeg p4) ((((322 : Int32) + ((7 : Int32) * (sa ((8 : Int32)).toNatClampNeg))) + (4 : Int32))).toNatClampNeg p5))), (a2, .inl (cI, 378, .inl asd)), (a3, .inl (cI, 1512, .inl sv)), (a4, .inl (cI, 120, .inl mt))] := hD
    refine lv_aload_n hx hb dX6_pushes_93 rfl (lv_at hl 1 rfl) ?_
    refine va_get (D := G) (ci := 9) (v := .ref a1) (C := RX6) (T := TX6) (N := 12) hx hb hts hin6 hown hK.1 hP 0 rfl rfl 1 (by decide) hw0 (fun _ h9 => h9) rfl dX6_pushes_94 ?_
    refine lv_iload hx hb dX6_pushes_97 (lv_at hl 0 rfl) ?_
    refine lv_iconst (v := 5) hx hb dX6_pushes_99 (by decide) ?_
    refine lv_iadd hx hb dX6_pushes_100 ?_
    refine lv_iload hx hb dX6_pushes_101 (lv_at hl 7 rfl) ?_
    obtain ⟨hin, h⟩ := o_g h
    refine va_iast hx hb hK.1 hP hD hS 1 0 rfl rfl hin dX6_pushes_103 (fun H locs hP hD hS => ?_)
    have hP : va_P G vwCl [(a0, .inr (9, [.int th, .ref a1, .ref a2, .ref a3, .int sm, .ref a4, .int ln, .int nx, .int cd, .int dg, .int pw, .long hs])), (a1, .inl (cI, 378, .inl (upd (upd (upd (upd (upd (upd sa (((322 : Int32) + ((7 : Int32) * (sa ((8 : Int32)).toNatClampNeg)))).toNatClampNeg p1) ((((322 : Int32) + ((7 : Int32) * (sa ((8 : Int32)).toNatClampNeg))) + (1 : Int32))).toNatClampNeg p2) ((((322 : Int32) + ((7 : Int32) * (sa ((8 : Int32)).toNatClampNeg))) + (2 : Int32))).toNatClampNeg p3) ((((322 : Int32) + ((7 : Int32) * (sa ((8 : Int32)).toNatClampNeg))) + (3 : Int32))).toNatClampNeg p4) ((((322 : Int32) + ((7 : Int32) * (sa ((8 : Int32)).toNatClampNeg))) + (4 : Int32))).toNatClampNeg p5) ((((322 : Int32) + ((7 : Int32) * (sa ((8 : Int32)).toNatClampNeg))) + (5 : Int32))).toNatClampNeg p6))), (a2, .inl (cI, 378, .inl asd)), (a3, .inl (cI, 1512, .inl sv)), (a4, .inl (cI, 120, .inl mt))] H := hP
    have hD : va_D A [(a0, .inr (9, [.int th, .ref a1, .ref a2, .ref a3, .int sm, .ref a4, .int ln, .int nx, .int cd, .int dg, .int pw, .long hs])), (a1, .inl (cI, 378, .inl (upd (upd (upd (upd (upd (upd sa (((322 : Int32) + ((7 : Int32) * (sa ((8 : Int32)).toNatClampNeg)))).toNatClampNeg p1) ((((322 : Int32) + ((7 : Int32) * (sa ((8 : Int32)).toNatClampNeg))) + (1 : Int32))).toNatClampNeg p2) ((((322 : Int32) + ((7 : Int32) * (sa ((8 : Int32)).toNatClampNeg))) + (2 : Int32))).toNatClampNeg p3) ((((322 : Int32) + ((7 : Int32) * (sa ((8 : Int32)).toNatClampNeg))) + (3 : Int32))).toNatClampNeg p4) ((((322 : Int32) + ((7 : Int32) * (sa ((8 : Int32)).toNatClampNeg))) + (4 : Int32))).toNatClampNeg p5) ((((322 : Int32) + ((7 : Int32) * (sa ((8 : Int32)).toNatClampNeg))) + (5 : Int32))).toNatClampNeg p6))), (a2, .inl (cI, 378, .inl asd)), (a3, .inl (cI, 1512, .inl sv)), (a4, .inl (cI, 120, .inl mt))] := hD
    refine lv_aload_n hx hb dX6_pushes_104 rfl (lv_at hl 1 rfl) ?_
    refine va_get (D := G) (ci := 9) (v := .ref a1) (C := RX6) (T := TX6) (N := 12) hx hb hts hin6 hown hK.1 hP 0 rfl rfl 1 (by decide) hw0 (fun _ h9 => h9) rfl dX6_pushes_105 ?_
    refine lv_iload hx hb dX6_pushes_108 (lv_at hl 0 rfl) ?_
    refine lv_bipush (v := 6) hx hb dX6_pushes_110 (by decide) ?_
    refine lv_iadd hx hb dX6_pushes_112 ?_
    refine lv_iload hx hb dX6_pushes_113 (lv_at hl 8 rfl) ?_
    obtain ⟨hin, h⟩ := o_g h
    refine va_iast hx hb hK.1 hP hD hS 1 0 rfl rfl hin dX6_pushes_115 (fun H locs hP hD hS => ?_)
    have hP : va_P G vwCl [(a0, .inr (9, [.int th, .ref a1, .ref a2, .ref a3, .int sm, .ref a4, .int ln, .int nx, .int cd, .int dg, .int pw, .long hs])), (a1, .inl (cI, 378, .inl (upd (upd (upd (upd (upd (upd (upd sa (((322 : Int32) + ((7 : Int32) * (sa ((8 : Int32)).toNatClampNeg)))).toNatClampNeg p1) ((((322 : Int32) + ((7 : Int32) * (sa ((8 : Int32)).toNatClampNeg))) + (1 : Int32))).toNatClampNeg p2) ((((322 : Int32) + ((7 : Int32) * (sa ((8 : Int32)).toNatClampNeg))) + (2 : Int32))).toNatClampNeg p3) ((((322 : Int32) + ((7 : Int32) * (sa ((8 : Int32)).toNatClampNeg))) + (3 : Int32))).toNatClampNeg p4) ((((322 : Int32) + ((7 : Int32) * (sa ((8 : Int32)).toNatClampNeg))) + (4 : Int32))).toNatClampNeg p5) ((((322 : Int32) + ((7 : Int32) * (sa ((8 : Int32)).toNatClampNeg))) + (5 : Int32))).toNatClampNeg p6) ((((322 : Int32) + ((7 : Int32) * (sa ((8 : Int32)).toNatClampNeg))) + (6 : Int32))).toNatClampNeg p7))), (a2, .inl (cI, 378, .inl asd)), (a3, .inl (cI, 1512, .inl sv)), (a4, .inl (cI, 120, .inl mt))] H := hP
    have hD : va_D A [(a0, .inr (9, [.int th, .ref a1, .ref a2, .ref a3, .int sm, .ref a4, .int ln, .int nx, .int cd, .int dg, .int pw, .long hs])), (a1, .inl (cI, 378, .inl (upd (upd (upd (upd (upd (upd (upd sa (((322 : Int32) + ((7 : Int32) * (sa ((8 : Int32)).toNatClampNeg)))).toNatClampNeg p1) ((((322 : Int32) + ((7 : Int32) * (sa ((8 : Int32)).toNatClampNeg))) + (1 : Int32))).toNatClampNeg p2) ((((322 : Int32) + ((7 : Int32) * (sa ((8 : Int32)).toNatClampNeg))) + (2 : Int32))).toNatClampNeg p3) ((((322 : Int32) + ((7 : Int32) * (sa ((8 : Int32)).toNatClampNeg))) + (3 : Int32))).toNatClampNeg p4) ((((322 : Int32) + ((7 : Int32) * (sa ((8 : Int32)).toNatClampNeg))) + (4 : Int32))).toNatClampNeg p5) ((((322 : Int32) + ((7 : Int32) * (sa ((8 : Int32)).toNatClampNeg))) + (5 : Int32))).toNatClampNeg p6) ((((322 : Int32) + ((7 : Int32) * (sa ((8 : Int32)).toNatClampNeg))) + (6 : Int32))).toNatClampNeg p7))), (a2, .inl (cI, 378, .inl asd)), (a3, .inl (cI, 1512, .inl sv)), (a4, .inl (cI, 120, .inl mt))] := hD
    refine lv_aload_n hx hb dX6_pushes_116 rfl (lv_at hl 1 rfl) ?_
    refine va_get (D := G) (ci := 9) (v := .ref a1) (C := RX6) (T := TX6) (N := 12) hx hb hts hin6 hown hK.1 hP 0 rfl rfl 1 (by decide) hw0 (fun _ h9 => h9) rfl dX6_pushes_117 ?_
    refine lv_bipush (v := 8) hx hb dX6_pushes_120 (by decide) ?_
    refine lv_dup2_11 hx hb dX6_pushes_122 rfl rfl ?_
    obtain ⟨hin, h⟩ := o_g h
    refine va_iald hx hb hK.1 hP 1 0 rfl rfl hin dX6_pushes_123 ?_
    refine lv_iconst (v := 1) hx hb dX6_pushes_124 (by decide) ?_
    refine lv_iadd hx hb dX6_pushes_125 ?_
    obtain ⟨hin, h⟩ := o_g h
    refine va_iast hx hb hK.1 hP hD hS 1 0 rfl rfl hin dX6_pushes_126 (fun H locs hP hD hS => ?_)
    have hP : va_P G vwCl [(a0, .inr (9, [.int th, .ref a1, .ref a2, .ref a3, .int sm, .ref a4, .int ln, .int nx, .int cd, .int dg, .int pw, .long hs])), (a1, .inl (cI, 378, .inl (upd (upd (upd (upd (upd (upd (upd (upd sa (((322 : Int32) + ((7 : Int32) * (sa ((8 : Int32)).toNatClampNeg)))).toNatClampNeg p1) ((((322 : Int32) + ((7 : Int32) * (sa ((8 : Int32)).toNatClampNeg))) + (1 : Int32))).toNatClampNeg p2) ((((322 : Int32) + ((7 : Int32) * (sa ((8 : Int32)).toNatClampNeg))) + (2 : Int32))).toNatClampNeg p3) ((((322 : Int32) + ((7 : Int32) * (sa ((8 : Int32)).toNatClampNeg))) + (3 : Int32))).toNatClampNeg p4) ((((322 : Int32) + ((7 : Int32) * (sa ((8 : Int32)).toNatClampNeg))) + (4 : Int32))).toNatClampNeg p5) ((((322 : Int32) + ((7 : Int32) * (sa ((8 : Int32)).toNatClampNeg))) + (5 : Int32))).toNatClampNeg p6) ((((322 : Int32) + ((7 : Int32) * (sa ((8 : Int32)).toNatClampNeg))) + (6 : Int32))).toNatClampNeg p7) ((8 : Int32)).toNatClampNeg (((upd (upd (upd (upd (upd (upd (upd sa (((322 : Int32) + ((7 : Int32) * (sa ((8 : Int32)).toNatClampNeg)))).toNatClampNeg p1) ((((322 : Int32) + ((7 : Int32) * (sa ((8 : Int32)).toNatClampNeg))) + (1 : Int32))).toNatClampNeg p2) ((((322 : Int32) + ((7 : Int32) * (sa ((8 : Int32)).toNatClampNeg))) + (2 : Int32))).toNatClampNeg p3) ((((322 : Int32) + ((7 : Int32) * (sa ((8 : Int32)).toNatClampNeg))) + (3 : Int32))).toNatClampNeg p4) ((((322 : Int32) + ((7 : Int32) * (sa ((8 : Int32)).toNatClampNeg))) + (4 : Int32))).toNatClampNeg p5) ((((322 : Int32) + ((7 : Int32) * (sa ((8 : Int32)).toNatClampNeg))) + (5 : Int32))).toNatClampNeg p6) ((((322 : Int32) + ((7 : Int32) * (sa ((8 : Int32)).toNatClampNeg))) + (6 : Int32))).toNatClampNeg p7) ((8 : Int32)).toNatClampNeg) + (1 : Int32))))), (a2, .inl (cI, 378, .inl asd)), (a3, .inl (cI, 1512, .inl sv)), (a4, .inl (cI, 120, .inl mt))] H := hP
    have hD : va_D A [(a0, .inr (9, [.int th, .ref a1, .ref a2, .ref a3, .int sm, .ref a4, .int ln, .int nx, .int cd, .int dg, .int pw, .long hs])), (a1, .inl (cI, 378, .inl (upd (upd (upd (upd (upd (upd (upd (upd sa (((322 : Int32) + ((7 : Int32) * (sa ((8 : Int32)).toNatClampNeg)))).toNatClampNeg p1) ((((322 : Int32) + ((7 : Int32) * (sa ((8 : Int32)).toNatClampNeg))) + (1 : Int32))).toNatClampNeg p2) ((((322 : Int32) + ((7 : Int32) * (sa ((8 : Int32)).toNatClampNeg))) + (2 : Int32))).toNatClampNeg p3) ((((322 : Int32) + ((7 : Int32) * (sa ((8 : Int32)).toNatClampNeg))) + (3 : Int32))).toNatClampNeg p4) ((((322 : Int32) + ((7 : Int32) * (sa ((8 : Int32)).toNatClampNeg))) + (4 : Int32))).toNatClampNeg p5) ((((322 : Int32) + ((7 : Int32) * (sa ((8 : Int32)).toNatClampNeg))) + (5 : Int32))).toNatClampNeg p6) ((((322 : Int32) + ((7 : Int32) * (sa ((8 : Int32)).toNatClampNeg))) + (6 : Int32))).toNatClampNeg p7) ((8 : Int32)).toNatClampNeg (((upd (upd (upd (upd (upd (upd (upd sa (((322 : Int32) + ((7 : Int32) * (sa ((8 : Int32)).toNatClampNeg)))).toNatClampNeg p1) ((((322 : Int32) + ((7 : Int32) * (sa ((8 : Int32)).toNatClampNeg))) + (1 : Int32))).toNatClampNeg p2) ((((322 : Int32) + ((7 : Int32) * (sa ((8 : Int32)).toNatClampNeg))) + (2 : Int32))).toNatClampNeg p3) ((((322 : Int32) + ((7 : Int32) * (sa ((8 : Int32)).toNatClampNeg))) + (3 : Int32))).toNatClampNeg p4) ((((322 : Int32) + ((7 : Int32) * (sa ((8 : Int32)).toNatClampNeg))) + (4 : Int32))).toNatClampNeg p5) ((((322 : Int32) + ((7 : Int32) * (sa ((8 : Int32)).toNatClampNeg))) + (5 : Int32))).toNatClampNeg p6) ((((322 : Int32) + ((7 : Int32) * (sa ((8 : Int32)).toNatClampNeg))) + (6 : Int32))).toNatClampNeg p7) ((8 : Int32)).toNatClampNeg) + (1 : Int32))))), (a2, .inl (cI, 378, .inl asd)), (a3, .inl (cI, 1512, .inl sv)), (a4, .inl (cI, 120, .inl mt))] := hD
    refine lv_aload_n hx hb dX6_pushes_127 rfl (lv_at hl 1 rfl) ?_
    refine va_get (D := G) (ci := 9) (v := .ref a1) (C := RX6) (T := TX6) (N := 12) hx hb hts hin6 hown hK.1 hP 0 rfl rfl 1 (by decide) hw0 (fun _ h9 => h9) rfl dX6_pushes_128 ?_
    refine lv_bipush (v := 8) hx hb dX6_pushes_131 (by decide) ?_
    obtain ⟨hin, h⟩ := o_g h
    refine va_iald hx hb hK.1 hP 1 0 rfl rfl hin dX6_pushes_133 ?_
    obtain rfl := o_s h
    rw [hQ]
    exact end_i hx hb hr rfl hP hD hS dX6_pushes_134 hlocks
  have h := hf
  rw [fX6_pushes] at h
  have hl := lv_entry ([.ref a0, .int p1, .int p2, .int p3, .int p4, .int p5, .int p6, .int p7]) (n := 9) (Nat.le_of_ble_eq_true rfl)
  rw [lg_entry_eq]
  generalize (lg_sl ([.ref a0, .int p1, .int p2, .int p3, .int p4, .int p5, .int p6, .int p7]) ++ List.replicate (9 - (lg_sl ([.ref a0, .int p1, .int p2, .int p3, .int p4, .int p5, .int p6, .int p7])).length) Slot.unset).toArray = ls at hl ⊢
  have hl : lv_has ls 9 [(0, .ref a0), (1, .int p1), (2, .int p2), (3, .int p3), (4, .int p4), (5, .int p5), (6, .int p6), (7, .int p7)] := hl
  refine lv_aload_n hx hb dX6_pushes_0 rfl (lv_at hl 0 rfl) ?_
  refine va_get (D := G) (ci := 9) (v := .ref a1) (C := RX6) (T := TX6) (N := 12) hx hb hts hin6 hown hK.1 hP 0 rfl rfl 1 (by decide) hw0 (fun _ h9 => h9) rfl dX6_pushes_1 ?_
  refine lv_bipush (v := 8) hx hb dX6_pushes_4 (by decide) ?_
  obtain ⟨hin, h⟩ := o_g h
  refine va_iald hx hb hK.1 hP 1 0 rfl rfl hin dX6_pushes_6 ?_
  refine lv_if_ne (tgt := 20) hx hb dX6_pushes_7 (by decide) (fun hc => ?_) (fun hc => ?_)
  · have h := o_f h hc
    refine lv_aload_n hx hb dX6_pushes_20 rfl (lv_at hl 0 rfl) ?_
    refine lv_iload_n hx hb dX6_pushes_21 rfl (lv_at hl 2 rfl) ?_
    refine lv_iconst (v := 3) hx hb dX6_pushes_22 (by decide) ?_
    refine lv_iconst (v := 0) hx hb dX6_pushes_23 (by decide) ?_
    obtain ⟨x1, ex1, h⟩ := o_b h
    refine call_vV (As := [.int p2, .int (3 : Int32), .int (0 : Int32)]) (rest := []) (ws2 := [(a0, .inr (9, [.int th, .ref a1, .ref a2, .ref a3, .int sm, .ref a4, .int ln, .int nx, .int cd, .int dg, .int pw, .long hs])), (a1, .inl (cI, 378, .inl x1)), (a2, .inl (cI, 378, .inl asd)), (a3, .inl (cI, 1512, .inl sv)), (a4, .inl (cI, 120, .inl mt))]) ⟨hx, hb, hml, hown, hts⟩ (cX6_set_ok l G cI cG a0 a1 a2 a3 a4 th sa asd sv sm mt ln nx cd dg pw hs p2 (3 : Int32) (0 : Int32) x1 ex1) (cwV 3 hts gX6_pushes_X6_set rfl rfl rfl hdX6_set ⟨Nat.le_of_ble_eq_true rfl, Nat.le_of_ble_eq_true rfl⟩) hP hD hS hA hK 9 rfl rfl rfl [0, 1, 2, 3, 4] rfl rfl rfl rfl rfl rfl rfl rfl hl.1 (Nat.le_of_ble_eq_true rfl) dX6_pushes_24 ⟨Nat.zero_le _, Nat.zero_le _⟩ (fun H locs hP hD hS => ?_)
    exact J27 x1 _ _ _ h hP hD hS (lv_sub hl [0, 1, 2, 3, 4, 5, 6, 7] rfl)
  · have h := o_t h hc
    refine lv_aload_n hx hb dX6_pushes_10 rfl (lv_at hl 0 rfl) ?_
    refine va_get (D := G) (ci := 9) (v := .ref a1) (C := RX6) (T := TX6) (N := 12) hx hb hts hin6 hown hK.1 hP 0 rfl rfl 1 (by decide) hw0 (fun _ h9 => h9) rfl dX6_pushes_11 ?_
    refine lv_iconst (v := 5) hx hb dX6_pushes_14 (by decide) ?_
    refine lv_iconst (v := 1) hx hb dX6_pushes_15 (by decide) ?_
    obtain ⟨hin, h⟩ := o_g h
    refine va_iast hx hb hK.1 hP hD hS 1 0 rfl rfl hin dX6_pushes_16 (fun H locs hP hD hS => ?_)
    have hP : va_P G vwCl [(a0, .inr (9, [.int th, .ref a1, .ref a2, .ref a3, .int sm, .ref a4, .int ln, .int nx, .int cd, .int dg, .int pw, .long hs])), (a1, .inl (cI, 378, .inl (upd sa ((5 : Int32)).toNatClampNeg (1 : Int32)))), (a2, .inl (cI, 378, .inl asd)), (a3, .inl (cI, 1512, .inl sv)), (a4, .inl (cI, 120, .inl mt))] H := hP
    have hD : va_D A [(a0, .inr (9, [.int th, .ref a1, .ref a2, .ref a3, .int sm, .ref a4, .int ln, .int nx, .int cd, .int dg, .int pw, .long hs])), (a1, .inl (cI, 378, .inl (upd sa ((5 : Int32)).toNatClampNeg (1 : Int32)))), (a2, .inl (cI, 378, .inl asd)), (a3, .inl (cI, 1512, .inl sv)), (a4, .inl (cI, 120, .inl mt))] := hD
    refine lv_goto (tgt := 27) hx hb dX6_pushes_17 (by decide) ?_
    exact J27 (upd sa ((5 : Int32)).toNatClampNeg (1 : Int32)) _ _ _ h hP hD hS (lv_sub hl [0, 1, 2, 3, 4, 5, 6, 7] rfl)
theorem hdX6_beginEffect : yX6_beginEffect.cls = RX6 ∧ yX6_beginEffect.cls ≠ "java/lang/invoke/MethodHandle" ∧ yX6_beginEffect.cls ≠ "java/lang/invoke/VarHandle" ∧ (parseMethodDescriptor yX6_beginEffect.desc).map (fun d => d.parameters.length) = some 1 := by decide +kernel
set_option maxHeartbeats 4000000 in
set_option maxRecDepth 100000 in
theorem cX6_beginEffect_ok (l : Launch) (G : va_G) (cI cG : ClassId) (a0 a1 a2 a3 a4 : Nat) (fu : Nat) (th : Int32) (sa : (Nat → Int32)) (asd : (Nat → Int32)) (sv : (Nat → Int32)) (sm : Int32) (mt : (Nat → Int32)) (ln : Int32) (nx : Int32) (cd : Int32) (dg : Int32) (pw : Int32) (hs : Int64) (p1 : Int32) (out : (Nat → Int32)) (hf : fX6_beginEffect fu sa p1 = some out) : CV l G (tyz cI cG) yX6_beginEffect wsX6_beginEffect ({ frames := 3, cells := 0, slots := 0, locals := 66 } : Room) [.ref a0, .int p1] [(a0, .inr (9, [.int th, .ref a1, .ref a2, .ref a3, .int sm, .ref a4, .int ln, .int nx, .int cd, .int dg, .int pw, .long hs])), (a1, .inl (cI, 378, .inl sa)), (a2, .inl (cI, 378, .inl asd)), (a3, .inl (cI, 1512, .inl sv)), (a4, .inl (cI, 120, .inl mt))] [(a0, .inr (9, [.int th, .ref a1, .ref a2, .ref a3, .int sm, .ref a4, .int ln, .int nx, .int cd, .int dg, .int pw, .long hs])), (a1, .inl (cI, 378, .inl out)), (a2, .inl (cI, 378, .inl asd)), (a3, .inl (cI, 1512, .inl sv)), (a4, .inl (cI, 120, .inl mt))] := by
  intro sz
  refine Met.ofW (cc := cX6_beginEffect) (maxL := 5) (ret := none) (by decide) rfl ?_
  intro p e s m args below meth c s₁ B hml hv
  obtain ⟨rfl, hsz, hP, hK, hD0⟩ := hv
  have hx := B.exec
  have hb := B.bytes
  have hr := B.returns
  have hts := atoms_spec (ws := wsX6_beginEffect) B.pre
  have hown : s.vm.findClass RX6 = some m.cls := findClass_of_methodNamed B.named
  have hlocks := B.notSynchronized
  subst hsz
  have hD := hD0.self (sz := s.heap.size)
  generalize hAe : va_A [(a0, .inr (9, [.int th, .ref a1, .ref a2, .ref a3, .int sm, .ref a4, .int ln, .int nx, .int cd, .int dg, .int pw, .long hs])), (a1, .inl (cI, 378, .inl sa)), (a2, .inl (cI, 378, .inl asd)), (a3, .inl (cI, 1512, .inl sv)), (a4, .inl (cI, 120, .inl mt))] s.heap.size = A at hD ⊢
  have hA : ∀ q : Nat, s.heap.size ≤ q → A q := fun q h => by rw [← hAe]; exact Or.inr h
  have hS : va_S A s.heap s.heap [] := va_S.rf
  have hw0 := hts (.fieldLink RX6 7 "SpeedTurnsModel" "s" "[I") (List.mem_of_getElem? (i := 1) rfl)
  have hin6 : ∀ w ∈ u_ws RX6 TX6 12, w ∈ wsX6_beginEffect := by decide +kernel
  show W p l e ({ frames := 3, cells := 0, slots := 0, locals := 66 } : Room) s m _ below meth c s.heap [] 0 0 _ _
  refine W_genQ (fun Q hQ => ?_)
  have J27 : ∀ (sa : (Nat → Int32)) (v2 : Int32) (v3 : Int32) (H : Heap) (locs : List Loc) (ls : Array Slot), fX6_beginEffect_J27 fu p1 sa v2 v3 = some out → va_P G vwCl [(a0, .inr (9, [.int th, .ref a1, .ref a2, .ref a3, .int sm, .ref a4, .int ln, .int nx, .int cd, .int dg, .int pw, .long hs])), (a1, .inl (cI, 378, .inl sa)), (a2, .inl (cI, 378, .inl asd)), (a3, .inl (cI, 1512, .inl sv)), (a4, .inl (cI, 120, .inl mt))] H → va_D A [(a0, .inr (9, [.int th, .ref a1, .ref a2, .ref a3, .int sm, .ref a4, .int ln, .int nx, .int cd, .int dg, .int pw, .long hs])), (a1, .inl (cI, 378, .inl sa)), (a2, .inl (cI, 378, .inl asd)), (a3, .inl (cI, 1512, .inl sv)), (a4, .inl (cI, 120, .inl mt))] → va_S A s.heap H locs → lv_has ls 5 [(0, .ref a0), (1, .int p1), (2, .int v2), (3, .int v3)] → W p l e ({ frames := 3, cells := 0, slots := 0, locals := 66 } : Room) s m ([.ref a0, .int p1] : List Value).toArray below meth c H locs 0 0 Q (F0 m 27 ls []) := by
    intro sa v2 v3 H locs ls h hP hD hS hl
    rw [fX6_beginEffect_J27] at h
    refine lv_aload_n hx hb dX6_beginEffect_27 rfl (lv_at hl 0 rfl) ?_
    refine va_get (D := G) (ci := 9) (v := .ref a1) (C := RX6) (T := TX6) (N := 12) hx hb hts hin6 hown hK.1 hP 0 rfl rfl 1 (by decide) hw0 (fun _ h9 => h9) rfl dX6_beginEffect_28 ?_
    refine lv_iconst (v := 1) hx hb dX6_beginEffect_31 (by decide) ?_
    obtain ⟨hin, h⟩ := o_g h
    refine va_iald hx hb hK.1 hP 1 0 rfl rfl hin dX6_beginEffect_32 ?_
    refine lv_bipush (v := 30) hx hb dX6_beginEffect_33 (by decide) ?_
    refine lv_icmp_ne (tgt := 39) hx hb dX6_beginEffect_35 (by decide) (fun hc => ?_) (fun hc => ?_)
    · have h := o_f h hc
      refine lv_bipush (v := 82) hx hb dX6_beginEffect_39 (by decide) ?_
      refine lv_bipush (v := 8) hx hb dX6_beginEffect_41 (by decide) ?_
      refine lv_aload_n hx hb dX6_beginEffect_43 rfl (lv_at hl 0 rfl) ?_
      refine va_get (D := G) (ci := 9) (v := .ref a1) (C := RX6) (T := TX6) (N := 12) hx hb hts hin6 hown hK.1 hP 0 rfl rfl 1 (by decide) hw0 (fun _ h9 => h9) rfl dX6_beginEffect_44 ?_
      refine lv_iconst (v := 1) hx hb dX6_beginEffect_47 (by decide) ?_
      obtain ⟨hin, h⟩ := o_g h
      refine va_iald hx hb hK.1 hP 1 0 rfl rfl hin dX6_beginEffect_48 ?_
      refine lv_imul hx hb dX6_beginEffect_49 ?_
      refine lv_iadd hx hb dX6_beginEffect_50 ?_
      refine lv_istore (lv' := [(4, .int ((82 : Int32) + ((8 : Int32) * (sa ((1 : Int32)).toNatClampNeg)))), (0, .ref a0), (1, .int p1), (2, .int v2), (3, .int v3)]) hx hb dX6_beginEffect_51 hl (by decide) rfl (fun ls hl => ?_)
      refine lv_aload_n hx hb dX6_beginEffect_53 rfl (lv_at hl 1 rfl) ?_
      refine va_get (D := G) (ci := 9) (v := .ref a1) (C := RX6) (T := TX6) (N := 12) hx hb hts hin6 hown hK.1 hP 0 rfl rfl 1 (by decide) hw0 (fun _ h9 => h9) rfl dX6_beginEffect_54 ?_
      refine lv_iload hx hb dX6_beginEffect_57 (lv_at hl 0 rfl) ?_
      refine lv_iconst (v := 0) hx hb dX6_beginEffect_59 (by decide) ?_
      refine lv_iadd hx hb dX6_beginEffect_60 ?_
      refine lv_aload_n hx hb dX6_beginEffect_61 rfl (lv_at hl 1 rfl) ?_
      refine lv_iload_n hx hb dX6_beginEffect_62 rfl (lv_at hl 2 rfl) ?_
      refine lv_iconst (v := 4) hx hb dX6_beginEffect_63 (by decide) ?_
      obtain ⟨x3, ex3, h⟩ := o_b h
      refine call_iV (As := [.int p1, .int (4 : Int32)]) (rest := [.int (((82 : Int32) + ((8 : Int32) * (sa ((1 : Int32)).toNatClampNeg))) + (0 : Int32)), .ref a1]) (ws2 := [(a0, .inr (9, [.int th, .ref a1, .ref a2, .ref a3, .int sm, .ref a4, .int ln, .int nx, .int cd, .int dg, .int pw, .long hs])), (a1, .inl (cI, 378, .inl sa)), (a2, .inl (cI, 378, .inl asd)), (a3, .inl (cI, 1512, .inl sv)), (a4, .inl (cI, 120, .inl mt))]) ⟨hx, hb, hml, hown, hts⟩ (cX6_ofAct_ok l G cI cG a0 a1 a2 a3 a4 th sa asd sv sm mt ln nx cd dg pw hs p1 (4 : Int32) x3 ex3) (cwV 2 hts gX6_beginEffect_X6_ofAct rfl rfl rfl hdX6_ofAct ⟨Nat.le_of_ble_eq_true rfl, Nat.le_of_ble_eq_true rfl⟩) hP hD hS hA hK 9 rfl rfl rfl [0, 1, 2, 3, 4] rfl rfl rfl rfl rfl rfl rfl rfl hl.1 (Nat.le_of_ble_eq_true rfl) dX6_beginEffect_64 ⟨Nat.zero_le _, Nat.zero_le _⟩ (fun H locs hP hD hS => ?_)
      obtain ⟨hin, h⟩ := o_g h
      refine va_iast hx hb hK.1 hP hD hS 1 0 rfl rfl hin dX6_beginEffect_67 (fun H locs hP hD hS => ?_)
      have hP : va_P G vwCl [(a0, .inr (9, [.int th, .ref a1, .ref a2, .ref a3, .int sm, .ref a4, .int ln, .int nx, .int cd, .int dg, .int pw, .long hs])), (a1, .inl (cI, 378, .inl (upd sa ((((82 : Int32) + ((8 : Int32) * (sa ((1 : Int32)).toNatClampNeg))) + (0 : Int32))).toNatClampNeg x3))), (a2, .inl (cI, 378, .inl asd)), (a3, .inl (cI, 1512, .inl sv)), (a4, .inl (cI, 120, .inl mt))] H := hP
      have hD : va_D A [(a0, .inr (9, [.int th, .ref a1, .ref a2, .ref a3, .int sm, .ref a4, .int ln, .int nx, .int cd, .int dg, .int pw, .long hs])), (a1, .inl (cI, 378, .inl (upd sa ((((82 : Int32) + ((8 : Int32) * (sa ((1 : Int32)).toNatClampNeg))) + (0 : Int32))).toNatClampNeg x3))), (a2, .inl (cI, 378, .inl asd)), (a3, .inl (cI, 1512, .inl sv)), (a4, .inl (cI, 120, .inl mt))] := hD
      refine lv_aload_n hx hb dX6_beginEffect_68 rfl (lv_at hl 1 rfl) ?_
      refine va_get (D := G) (ci := 9) (v := .ref a1) (C := RX6) (T := TX6) (N := 12) hx hb hts hin6 hown hK.1 hP 0 rfl rfl 1 (by decide) hw0 (fun _ h9 => h9) rfl dX6_beginEffect_69 ?_
      refine lv_iload hx hb dX6_beginEffect_72 (lv_at hl 0 rfl) ?_
      refine lv_iconst (v := 1) hx hb dX6_beginEffect_74 (by decide) ?_
      refine lv_iadd hx hb dX6_beginEffect_75 ?_
      refine lv_aload_n hx hb dX6_beginEffect_76 rfl (lv_at hl 1 rfl) ?_
      refine lv_iload_n hx hb dX6_beginEffect_77 rfl (lv_at hl 2 rfl) ?_
      refine lv_iconst (v := 3) hx hb dX6_beginEffect_78 (by decide) ?_
      obtain ⟨x4, ex4, h⟩ := o_b h
      refine call_iV (As := [.int p1, .int (3 : Int32)]) (rest := [.int (((82 : Int32) + ((8 : Int32) * (sa ((1 : Int32)).toNatClampNeg))) + (1 : Int32)), .ref a1]) (ws2 := [(a0, .inr (9, [.int th, .ref a1, .ref a2, .ref a3, .int sm, .ref a4, .int ln, .int nx, .int cd, .int dg, .int pw, .long hs])), (a1, .inl (cI, 378, .inl (upd sa ((((82 : Int32) + ((8 : Int32) * (sa ((1 : Int32)).toNatClampNeg))) + (0 : Int32))).toNatClampNeg x3))), (a2, .inl (cI, 378, .inl asd)), (a3, .inl (cI, 1512, .inl sv)), (a4, .inl (cI, 120, .inl mt))]) ⟨hx, hb, hml, hown, hts⟩ (cX6_ofAct_ok l G cI cG a0 a1 a2 a3 a4 th (upd sa ((((82 : Int32) + ((8 : Int32) * (sa ((1 : Int32)).toNatClampNeg))) + (0 : Int32))).toNatClampNeg x3) asd sv sm mt ln nx cd dg pw hs p1 (3 : Int32) x4 ex4) (cwV 2 hts gX6_beginEffect_X6_ofAct rfl rfl rfl hdX6_ofAct ⟨Nat.le_of_ble_eq_true rfl, Nat.le_of_ble_eq_true rfl⟩) hP hD hS hA hK 9 rfl rfl rfl [0, 1, 2, 3, 4] rfl rfl rfl rfl rfl rfl rfl rfl hl.1 (Nat.le_of_ble_eq_true rfl) dX6_beginEffect_79 ⟨Nat.zero_le _, Nat.zero_le _⟩ (fun H locs hP hD hS => ?_)
      obtain ⟨hin, h⟩ := o_g h
      refine va_iast hx hb hK.1 hP hD hS 1 0 rfl rfl hin dX6_beginEffect_82 (fun H locs hP hD hS => ?_)
      have hP : va_P G vwCl [(a0, .inr (9, [.int th, .ref a1, .ref a2, .ref a3, .int sm, .ref a4, .int ln, .int nx, .int cd, .int dg, .int pw, .long hs])), (a1, .inl (cI, 378, .inl (upd (upd sa ((((82 : Int32) + ((8 : Int32) * (sa ((1 : Int32)).toNatClampNeg))) + (0 : Int32))).toNatClampNeg x3) ((((82 : Int32) + ((8 : Int32) * (sa ((1 : Int32)).toNatClampNeg))) + (1 : Int32))).toNatClampNeg x4))), (a2, .inl (cI, 378, .inl asd)), (a3, .inl (cI, 1512, .inl sv)), (a4, .inl (cI, 120, .inl mt))] H := hP
      have hD : va_D A [(a0, .inr (9, [.int th, .ref a1, .ref a2, .ref a3, .int sm, .ref a4, .int ln, .int nx, .int cd, .int dg, .int pw, .long hs])), (a1, .inl (cI, 378, .inl (upd (upd sa ((((82 : Int32) + ((8 : Int32) * (sa ((1 : Int32)).toNatClampNeg))) + (0 : Int32))).toNatClampNeg x3) ((((82 : Int32) + ((8 : Int32) * (sa ((1 : Int32)).toNatClampNeg))) + (1 : Int32))).toNatClampNeg x4))), (a2, .inl (cI, 378, .inl asd)), (a3, .inl (cI, 1512, .inl sv)), (a4, .inl (cI, 120, .inl mt))] := hD
      refine lv_aload_n hx hb dX6_beginEffect_83 rfl (lv_at hl 1 rfl) ?_
      refine va_get (D := G) (ci := 9) (v := .ref a1) (C := RX6) (T := TX6) (N := 12) hx hb hts hin6 hown hK.1 hP 0 rfl rfl 1 (by decide) hw0 (fun _ h9 => h9) rfl dX6_beginEffect_84 ?_
      refine lv_iload hx hb dX6_beginEffect_87 (lv_at hl 0 rfl) ?_
      refine lv_iconst (v := 2) hx hb dX6_beginEffect_89 (by decide) ?_
      refine lv_iadd hx hb dX6_beginEffect_90 ?_
      refine lv_iload_n hx hb dX6_beginEffect_91 rfl (lv_at hl 3 rfl) ?_
      obtain ⟨hin, h⟩ := o_g h
      refine va_iast hx hb hK.1 hP hD hS 1 0 rfl rfl hin dX6_beginEffect_92 (fun H locs hP hD hS => ?_)
      have hP : va_P G vwCl [(a0, .inr (9, [.int th, .ref a1, .ref a2, .ref a3, .int sm, .ref a4, .int ln, .int nx, .int cd, .int dg, .int pw, .long hs])), (a1, .inl (cI, 378, .inl (upd (upd (upd sa ((((82 : Int32) + ((8 : Int32) * (sa ((1 : Int32)).toNatClampNeg))) + (0 : Int32))).toNatClampNeg x3) ((((82 : Int32) + ((8 : Int32) * (sa ((1 : Int32)).toNatClampNeg))) + (1 : Int32))).toNatClampNeg x4) ((((82 : Int32) + ((8 : Int32) * (sa ((1 : Int32)).toNatClampNeg))) + (2 : Int32))).toNatClampNeg v2))), (a2, .inl (cI, 378, .inl asd)), (a3, .inl (cI, 1512, .inl sv)), (a4, .inl (cI, 120, .inl mt))] H := hP
      have hD : va_D A [(a0, .inr (9, [.int th, .ref a1, .ref a2, .ref a3, .int sm, .ref a4, .int ln, .int nx, .int cd, .int dg, .int pw, .long hs])), (a1, .inl (cI, 378, .inl (upd (upd (upd sa ((((82 : Int32) + ((8 : Int32) * (sa ((1 : Int32)).toNatClampNeg))) + (0 : Int32))).toNatClampNeg x3) ((((82 : Int32) + ((8 : Int32) * (sa ((1 : Int32)).toNatClampNeg))) + (1 : Int32))).toNatClampNeg x4) ((((82 : Int32) + ((8 : Int32) * (sa ((1 : Int32)).toNatClampNeg))) + (2 : Int32))).toNatClampNeg v2))), (a2, .inl (cI, 378, .inl asd)), (a3, .inl (cI, 1512, .inl sv)), (a4, .inl (cI, 120, .inl mt))] := hD
      refine lv_aload_n hx hb dX6_beginEffect_93 rfl (lv_at hl 1 rfl) ?_
      refine va_get (D := G) (ci := 9) (v := .ref a1) (C := RX6) (T := TX6) (N := 12) hx hb hts hin6 hown hK.1 hP 0 rfl rfl 1 (by decide) hw0 (fun _ h9 => h9) rfl dX6_beginEffect_94 ?_
      refine lv_iload hx hb dX6_beginEffect_97 (lv_at hl 0 rfl) ?_
      refine lv_iconst (v := 3) hx hb dX6_beginEffect_99 (by decide) ?_
      refine lv_iadd hx hb dX6_beginEffect_100 ?_
      refine lv_aload_n hx hb dX6_beginEffect_101 rfl (lv_at hl 1 rfl) ?_
      refine lv_iload_n hx hb dX6_beginEffect_102 rfl (lv_at hl 2 rfl) ?_
      refine lv_iconst (v := 2) hx hb dX6_beginEffect_103 (by decide) ?_
      obtain ⟨x5, ex5, h⟩ := o_b h
      refine call_iV (As := [.int p1, .int (2 : Int32)]) (rest := [.int (((82 : Int32) + ((8 : Int32) * (sa ((1 : Int32)).toNatClampNeg))) + (3 : Int32)), .ref a1]) (ws2 := [(a0, .inr (9, [.int th, .ref a1, .ref a2, .ref a3, .int sm, .ref a4, .int ln, .int nx, .int cd, .int dg, .int pw, .long hs])), (a1, .inl (cI, 378, .inl (upd (upd (upd sa ((((82 : Int32) + ((8 : Int32) * (sa ((1 : Int32)).toNatClampNeg))) + (0 : Int32))).toNatClampNeg x3) ((((82 : Int32) + ((8 : Int32) * (sa ((1 : Int32)).toNatClampNeg))) + (1 : Int32))).toNatClampNeg x4) ((((82 : Int32) + ((8 : Int32) * (sa ((1 : Int32)).toNatClampNeg))) + (2 : Int32))).toNatClampNeg v2))), (a2, .inl (cI, 378, .inl asd)), (a3, .inl (cI, 1512, .inl sv)), (a4, .inl (cI, 120, .inl mt))]) ⟨hx, hb, hml, hown, hts⟩ (cX6_ofAct_ok l G cI cG a0 a1 a2 a3 a4 th (upd (upd (upd sa ((((82 : Int32) + ((8 : Int32) * (sa ((1 : Int32)).toNatClampNeg))) + (0 : Int32))).toNatClampNeg x3) ((((82 : Int32) + ((8 : Int32) * (sa ((1 : Int32)).toNatClampNeg))) + (1 : Int32))).toNatClampNeg x4) ((((82 : Int32) + ((8 : Int32) * (sa ((1 : Int32)).toNatClampNeg))) + (2 : Int32))).toNatClampNeg v2) asd sv sm mt ln nx cd dg pw hs p1 (2 : Int32) x5 ex5) (cwV 2 hts gX6_beginEffect_X6_ofAct rfl rfl rfl hdX6_ofAct ⟨Nat.le_of_ble_eq_true rfl, Nat.le_of_ble_eq_true rfl⟩) hP hD hS hA hK 9 rfl rfl rfl [0, 1, 2, 3, 4] rfl rfl rfl rfl rfl rfl rfl rfl hl.1 (Nat.le_of_ble_eq_true rfl) dX6_beginEffect_104 ⟨Nat.zero_le _, Nat.zero_le _⟩ (fun H locs hP hD hS => ?_)
      obtain ⟨hin, h⟩ := o_g h
      refine va_iast hx hb hK.1 hP hD hS 1 0 rfl rfl hin dX6_beginEffect_107 (fun H locs hP hD hS => ?_)
      have hP : va_P G vwCl [(a0, .inr (9, [.int th, .ref a1, .ref a2, .ref a3, .int sm, .ref a4, .int ln, .int nx, .int cd, .int dg, .int pw, .long hs])), (a1, .inl (cI, 378, .inl (upd (upd (upd (upd sa ((((82 : Int32) + ((8 : Int32) * (sa ((1 : Int32)).toNatClampNeg))) + (0 : Int32))).toNatClampNeg x3) ((((82 : Int32) + ((8 : Int32) * (sa ((1 : Int32)).toNatClampNeg))) + (1 : Int32))).toNatClampNeg x4) ((((82 : Int32) + ((8 : Int32) * (sa ((1 : Int32)).toNatClampNeg))) + (2 : Int32))).toNatClampNeg v2) ((((82 : Int32) + ((8 : Int32) * (sa ((1 : Int32)).toNatClampNeg))) + (3 : Int32))).toNatClampNeg x5))), (a2, .inl (cI, 378, .inl asd)), (a3, .inl (cI, 1512, .inl sv)), (a4, .inl (cI, 120, .inl mt))] H := hP
      have hD : va_D A [(a0, .inr (9, [.int th, .ref a1, .ref a2, .ref a3, .int sm, .ref a4, .int ln, .int nx, .int cd, .int dg, .int pw, .long hs])), (a1, .inl (cI, 378, .inl (upd (upd (upd (upd sa ((((82 : Int32) + ((8 : Int32) * (sa ((1 : Int32)).toNatClampNeg))) + (0 : Int32))).toNatClampNeg x3) ((((82 : Int32) + ((8 : Int32) * (sa ((1 : Int32)).toNatClampNeg))) + (1 : Int32))).toNatClampNeg x4) ((((82 : Int32) + ((8 : Int32) * (sa ((1 : Int32)).toNatClampNeg))) + (2 : Int32))).toNatClampNeg v2) ((((82 : Int32) + ((8 : Int32) * (sa ((1 : Int32)).toNatClampNeg))) + (3 : Int32))).toNatClampNeg x5))), (a2, .inl (cI, 378, .inl asd)), (a3, .inl (cI, 1512, .inl sv)), (a4, .inl (cI, 120, .inl mt))] := hD
      refine lv_aload_n hx hb dX6_beginEffect_108 rfl (lv_at hl 1 rfl) ?_
      refine va_get (D := G) (ci := 9) (v := .ref a1) (C := RX6) (T := TX6) (N := 12) hx hb hts hin6 hown hK.1 hP 0 rfl rfl 1 (by decide) hw0 (fun _ h9 => h9) rfl dX6_beginEffect_109 ?_
      refine lv_iload hx hb dX6_beginEffect_112 (lv_at hl 0 rfl) ?_
      refine lv_iconst (v := 4) hx hb dX6_beginEffect_114 (by decide) ?_
      refine lv_iadd hx hb dX6_beginEffect_115 ?_
      refine lv_aload_n hx hb dX6_beginEffect_116 rfl (lv_at hl 1 rfl) ?_
      refine lv_iload_n hx hb dX6_beginEffect_117 rfl (lv_at hl 2 rfl) ?_
      refine lv_iconst (v := 5) hx hb dX6_beginEffect_118 (by decide) ?_
      obtain ⟨x6, ex6, h⟩ := o_b h
      refine call_iV (As := [.int p1, .int (5 : Int32)]) (rest := [.int (((82 : Int32) + ((8 : Int32) * (sa ((1 : Int32)).toNatClampNeg))) + (4 : Int32)), .ref a1]) (ws2 := [(a0, .inr (9, [.int th, .ref a1, .ref a2, .ref a3, .int sm, .ref a4, .int ln, .int nx, .int cd, .int dg, .int pw, .long hs])), (a1, .inl (cI, 378, .inl (upd (upd (upd (upd sa ((((82 : Int32) + ((8 : Int32) * (sa ((1 : Int32)).toNatClampNeg))) + (0 : Int32))).toNatClampNeg x3) ((((82 : Int32) + ((8 : Int32) * (sa ((1 : Int32)).toNatClampNeg))) + (1 : Int32))).toNatClampNeg x4) ((((82 : Int32) + ((8 : Int32) * (sa ((1 : Int32)).toNatClampNeg))) + (2 : Int32))).toNatClampNeg v2) ((((82 : Int32) + ((8 : Int32) * (sa ((1 : Int32)).toNatClampNeg))) + (3 : Int32))).toNatClampNeg x5))), (a2, .inl (cI, 378, .inl asd)), (a3, .inl (cI, 1512, .inl sv)), (a4, .inl (cI, 120, .inl mt))]) ⟨hx, hb, hml, hown, hts⟩ (cX6_ofAct_ok l G cI cG a0 a1 a2 a3 a4 th (upd (upd (upd (upd sa ((((82 : Int32) + ((8 : Int32) * (sa ((1 : Int32)).toNatClampNeg))) + (0 : Int32))).toNatClampNeg x3) ((((82 : Int32) + ((8 : Int32) * (sa ((1 : Int32)).toNatClampNeg))) + (1 : Int32))).toNatClampNeg x4) ((((82 : Int32) + ((8 : Int32) * (sa ((1 : Int32)).toNatClampNeg))) + (2 : Int32))).toNatClampNeg v2) ((((82 : Int32) + ((8 : Int32) * (sa ((1 : Int32)).toNatClampNeg))) + (3 : Int32))).toNatClampNeg x5) asd sv sm mt ln nx cd dg pw hs p1 (5 : Int32) x6 ex6) (cwV 2 hts gX6_beginEffect_X6_ofAct rfl rfl rfl hdX6_ofAct ⟨Nat.le_of_ble_eq_true rfl, Nat.le_of_ble_eq_true rfl⟩) hP hD hS hA hK 9 rfl rfl rfl [0, 1, 2, 3, 4] rfl rfl rfl rfl rfl rfl rfl rfl hl.1 (Nat.le_of_ble_eq_true rfl) dX6_beginEffect_119 ⟨Nat.zero_le _, Nat.zero_le _⟩ (fun H locs hP hD hS => ?_)
      obtain ⟨hin, h⟩ := o_g h
      refine va_iast hx hb hK.1 hP hD hS 1 0 rfl rfl hin dX6_beginEffect_122 (fun H locs hP hD hS => ?_)
      have hP : va_P G vwCl [(a0, .inr (9, [.int th, .ref a1, .ref a2, .ref a3, .int sm, .ref a4, .int ln, .int nx, .int cd, .int dg, .int pw, .long hs])), (a1, .inl (cI, 378, .inl (upd (upd (upd (upd (upd sa ((((82 : Int32) + ((8 : Int32) * (sa ((1 : Int32)).toNatClampNeg))) + (0 : Int32))).toNatClampNeg x3) ((((82 : Int32) + ((8 : Int32) * (sa ((1 : Int32)).toNatClampNeg))) + (1 : Int32))).toNatClampNeg x4) ((((82 : Int32) + ((8 : Int32) * (sa ((1 : Int32)).toNatClampNeg))) + (2 : Int32))).toNatClampNeg v2) ((((82 : Int32) + ((8 : Int32) * (sa ((1 : Int32)).toNatClampNeg))) + (3 : Int32))).toNatClampNeg x5) ((((82 : Int32) + ((8 : Int32) * (sa ((1 : Int32)).toNatClampNeg))) + (4 : Int32))).toNatClampNeg x6))), (a2, .inl (cI, 378, .inl asd)), (a3, .inl (cI, 1512, .inl sv)), (a4, .inl (cI, 120, .inl mt))] H := hP
      have hD : va_D A [(a0, .inr (9, [.int th, .ref a1, .ref a2, .ref a3, .int sm, .ref a4, .int ln, .int nx, .int cd, .int dg, .int pw, .long hs])), (a1, .inl (cI, 378, .inl (upd (upd (upd (upd (upd sa ((((82 : Int32) + ((8 : Int32) * (sa ((1 : Int32)).toNatClampNeg))) + (0 : Int32))).toNatClampNeg x3) ((((82 : Int32) + ((8 : Int32) * (sa ((1 : Int32)).toNatClampNeg))) + (1 : Int32))).toNatClampNeg x4) ((((82 : Int32) + ((8 : Int32) * (sa ((1 : Int32)).toNatClampNeg))) + (2 : Int32))).toNatClampNeg v2) ((((82 : Int32) + ((8 : Int32) * (sa ((1 : Int32)).toNatClampNeg))) + (3 : Int32))).toNatClampNeg x5) ((((82 : Int32) + ((8 : Int32) * (sa ((1 : Int32)).toNatClampNeg))) + (4 : Int32))).toNatClampNeg x6))), (a2, .inl (cI, 378, .inl asd)), (a3, .inl (cI, 1512, .inl sv)), (a4, .inl (cI, 120, .inl mt))] := hD
      refine lv_aload_n hx hb dX6_beginEffect_123 rfl (lv_at hl 1 rfl) ?_
      refine va_get (D := G) (ci := 9) (v := .ref a1) (C := RX6) (T := TX6) (N := 12) hx hb hts hin6 hown hK.1 hP 0 rfl rfl 1 (by decide) hw0 (fun _ h9 => h9) rfl dX6_beginEffect_124 ?_
      refine lv_iload hx hb dX6_beginEffect_127 (lv_at hl 0 rfl) ?_
      refine lv_iconst (v := 5) hx hb dX6_beginEffect_129 (by decide) ?_
      refine lv_iadd hx hb dX6_beginEffect_130 ?_
      refine lv_iload_n hx hb dX6_beginEffect_131 rfl (lv_at hl 4 rfl) ?_
      refine lv_iconst (v := 2) hx hb dX6_beginEffect_132 (by decide) ?_
      refine lv_idiv hx hb dX6_beginEffect_133 (by decide) ?_
      obtain ⟨hin, h⟩ := o_g h
      refine va_iast hx hb hK.1 hP hD hS 1 0 rfl rfl hin dX6_beginEffect_134 (fun H locs hP hD hS => ?_)
      have hP : va_P G vwCl [(a0, .inr (9, [.int th, .ref a1, .ref a2, .ref a3, .int sm, .ref a4, .int ln, .int nx, .int cd, .int dg, .int pw, .long hs])), (a1, .inl (cI, 378, .inl (upd (upd (upd (upd (upd (upd sa ((((82 : Int32) + ((8 : Int32) * (sa ((1 : Int32)).toNatClampNeg))) + (0 : Int32))).toNatClampNeg x3) ((((82 : Int32) + ((8 : Int32) * (sa ((1 : Int32)).toNatClampNeg))) + (1 : Int32))).toNatClampNeg x4) ((((82 : Int32) + ((8 : Int32) * (sa ((1 : Int32)).toNatClampNeg))) + (2 : Int32))).toNatClampNeg v2) ((((82 : Int32) + ((8 : Int32) * (sa ((1 : Int32)).toNatClampNeg))) + (3 : Int32))).toNatClampNeg x5) ((((82 : Int32) + ((8 : Int32) * (sa ((1 : Int32)).toNatClampNeg))) + (4 : Int32))).toNatClampNeg x6) ((((82 : Int32) + ((8 : Int32) * (sa ((1 : Int32)).toNatClampNeg))) + (5 : Int32))).toNatClampNeg (v3 / (2 : Int32))))), (a2, .inl (cI, 378, .inl asd)), (a3, .inl (cI, 1512, .inl sv)), (a4, .inl (cI, 120, .inl mt))] H := hP
      have hD : va_D A [(a0, .inr (9, [.int th, .ref a1, .ref a2, .ref a3, .int sm, .ref a4, .int ln, .int nx, .int cd, .int dg, .int pw, .long hs])), (a1, .inl (cI, 378, .inl (upd (upd (upd (upd (upd (upd sa ((((82 : Int32) + ((8 : Int32) * (sa ((1 : Int32)).toNatClampNeg))) + (0 : Int32))).toNatClampNeg x3) ((((82 : Int32) + ((8 : Int32) * (sa ((1 : Int32)).toNatClampNeg))) + (1 : Int32))).toNatClampNeg x4) ((((82 : Int32) + ((8 : Int32) * (sa ((1 : Int32)).toNatClampNeg))) + (2 : Int32))).toNatClampNeg v2) ((((82 : Int32) + ((8 : Int32) * (sa ((1 : Int32)).toNatClampNeg))) + (3 : Int32))).toNatClampNeg x5) ((((82 : Int32) + ((8 : Int32) * (sa ((1 : Int32)).toNatClampNeg))) + (4 : Int32))).toNatClampNeg x6) ((((82 : Int32) + ((8 : Int32) * (sa ((1 : Int32)).toNatClampNeg))) + (5 : Int32))).toNatClampNeg (v3 / (2 : Int32))))), (a2, .inl (cI, 378, .inl asd)), (a3, .inl (cI, 1512, .inl sv)), (a4, .inl (cI, 120, .inl mt))] := hD
      refine lv_aload_n hx hb dX6_beginEffect_135 rfl (lv_at hl 1 rfl) ?_
      refine va_get (D := G) (ci := 9) (v := .ref a1) (C := RX6) (T := TX6) (N := 12) hx hb hts hin6 hown hK.1 hP 0 rfl rfl 1 (by decide) hw0 (fun _ h9 => h9) rfl dX6_beginEffect_136 ?_
      refine lv_iload hx hb dX6_beginEffect_139 (lv_at hl 0 rfl) ?_
      refine lv_bipush (v := 6) hx hb dX6_beginEffect_141 (by decide) ?_
      refine lv_iadd hx hb dX6_beginEffect_143 ?_
      refine lv_iload_n hx hb dX6_beginEffect_144 rfl (lv_at hl 4 rfl) ?_
      refine lv_iconst (v := 2) hx hb dX6_beginEffect_145 (by decide) ?_
      refine lv_irem hx hb dX6_beginEffect_146 (by decide) ?_
      obtain ⟨hin, h⟩ := o_g h
      refine va_iast hx hb hK.1 hP hD hS 1 0 rfl rfl hin dX6_beginEffect_147 (fun H locs hP hD hS => ?_)
      have hP : va_P G vwCl [(a0, .inr (9, [.int th, .ref a1, .ref a2, .ref a3, .int sm, .ref a4, .int ln, .int nx, .int cd, .int dg, .int pw, .long hs])), (a1, .inl (cI, 378, .inl (upd (upd (upd (upd (upd (upd (upd sa ((((82 : Int32) + ((8 : Int32) * (sa ((1 : Int32)).toNatClampNeg))) + (0 : Int32))).toNatClampNeg x3) ((((82 : Int32) + ((8 : Int32) * (sa ((1 : Int32)).toNatClampNeg))) + (1 : Int32))).toNatClampNeg x4) ((((82 : Int32) + ((8 : Int32) * (sa ((1 : Int32)).toNatClampNeg))) + (2 : Int32))).toNatClampNeg v2) ((((82 : Int32) + ((8 : Int32) * (sa ((1 : Int32)).toNatClampNeg))) + (3 : Int32))).toNatClampNeg x5) ((((82 : Int32) + ((8 : Int32) * (sa ((1 : Int32)).toNatClampNeg))) + (4 : Int32))).toNatClampNeg x6) ((((82 : Int32) + ((8 : Int32) * (sa ((1 : Int32)).toNatClampNeg))) + (5 : Int32))).toNatClampNeg (v3 / (2 : Int32))) ((((82 : Int32) + ((8 : Int32) * (sa ((1 : Int32)).toNatClampNeg))) + (6 : Int32))).toNatClampNeg (v3 - v3 / (2 : Int32) * (2 : Int32))))), (a2, .inl (cI, 378, .inl asd)), (a3, .inl (cI, 1512, .inl sv)), (a4, .inl (cI, 120, .inl mt))] H := hP
      have hD : va_D A [(a0, .inr (9, [.int th, .ref a1, .ref a2, .ref a3, .int sm, .ref a4, .int ln, .int nx, .int cd, .int dg, .int pw, .long hs])), (a1, .inl (cI, 378, .inl (upd (upd (upd (upd (upd (upd (upd sa ((((82 : Int32) + ((8 : Int32) * (sa ((1 : Int32)).toNatClampNeg))) + (0 : Int32))).toNatClampNeg x3) ((((82 : Int32) + ((8 : Int32) * (sa ((1 : Int32)).toNatClampNeg))) + (1 : Int32))).toNatClampNeg x4) ((((82 : Int32) + ((8 : Int32) * (sa ((1 : Int32)).toNatClampNeg))) + (2 : Int32))).toNatClampNeg v2) ((((82 : Int32) + ((8 : Int32) * (sa ((1 : Int32)).toNatClampNeg))) + (3 : Int32))).toNatClampNeg x5) ((((82 : Int32) + ((8 : Int32) * (sa ((1 : Int32)).toNatClampNeg))) + (4 : Int32))).toNatClampNeg x6) ((((82 : Int32) + ((8 : Int32) * (sa ((1 : Int32)).toNatClampNeg))) + (5 : Int32))).toNatClampNeg (v3 / (2 : Int32))) ((((82 : Int32) + ((8 : Int32) * (sa ((1 : Int32)).toNatClampNeg))) + (6 : Int32))).toNatClampNeg (v3 - v3 / (2 : Int32) * (2 : Int32))))), (a2, .inl (cI, 378, .inl asd)), (a3, .inl (cI, 1512, .inl sv)), (a4, .inl (cI, 120, .inl mt))] := hD
      refine lv_aload_n hx hb dX6_beginEffect_148 rfl (lv_at hl 1 rfl) ?_
      refine va_get (D := G) (ci := 9) (v := .ref a1) (C := RX6) (T := TX6) (N := 12) hx hb hts hin6 hown hK.1 hP 0 rfl rfl 1 (by decide) hw0 (fun _ h9 => h9) rfl dX6_beginEffect_149 ?_
      refine lv_iload hx hb dX6_beginEffect_152 (lv_at hl 0 rfl) ?_
      refine lv_bipush (v := 7) hx hb dX6_beginEffect_154 (by decide) ?_
      refine lv_iadd hx hb dX6_beginEffect_156 ?_
      refine lv_aload_n hx hb dX6_beginEffect_157 rfl (lv_at hl 1 rfl) ?_
      refine va_get (D := G) (ci := 9) (v := .ref a1) (C := RX6) (T := TX6) (N := 12) hx hb hts hin6 hown hK.1 hP 0 rfl rfl 1 (by decide) hw0 (fun _ h9 => h9) rfl dX6_beginEffect_158 ?_
      refine lv_bipush (v := 11) hx hb dX6_beginEffect_161 (by decide) ?_
      obtain ⟨hin, h⟩ := o_g h
      refine va_iald hx hb hK.1 hP 1 0 rfl rfl hin dX6_beginEffect_163 ?_
      obtain ⟨hin, h⟩ := o_g h
      refine va_iast hx hb hK.1 hP hD hS 1 0 rfl rfl hin dX6_beginEffect_164 (fun H locs hP hD hS => ?_)
      have hP : va_P G vwCl [(a0, .inr (9, [.int th, .ref a1, .ref a2, .ref a3, .int sm, .ref a4, .int ln, .int nx, .int cd, .int dg, .int pw, .long hs])), (a1, .inl (cI, 378, .inl (upd (upd (upd (upd (upd (upd (upd (upd sa ((((82 : Int32) + ((8 : Int32) * (sa ((1 : Int32)).toNatClampNeg))) + (0 : Int32))).toNatClampNeg x3) ((((82 : Int32) + ((8 : Int32) * (sa ((1 : Int32)).toNatClampNeg))) + (1 : Int32))).toNatClampNeg x4) ((((82 : Int32) + ((8 : Int32) * (sa ((1 : Int32)).toNatClampNeg))) + (2 : Int32))).toNatClampNeg v2) ((((82 : Int32) + ((8 : Int32) * (sa ((1 : Int32)).toNatClampNeg))) + (3 : Int32))).toNatClampNeg x5) ((((82 : Int32) + ((8 : Int32) * (sa ((1 : Int32)).toNatClampNeg))) + (4 : Int32))).toNatClampNeg x6) ((((82 : Int32) + ((8 : Int32) * (sa ((1 : Int32)).toNatClampNeg))) + (5 : Int32))).toNatClampNeg (v3 / (2 : Int32))) ((((82 : Int32) + ((8 : Int32) * (sa ((1 : Int32)).toNatClampNeg))) + (6 : Int32))).toNatClampNeg (v3 - v3 / (2 : Int32) * (2 : Int32))) ((((82 : Int32) + ((8 : Int32) * (sa ((1 : Int32)).toNatClampNeg))) + (7 : Int32))).toNatClampNeg ((upd (upd (upd (upd (upd (upd (upd sa ((((82 : Int32) + ((8 : Int32) * (sa ((1 : Int32)).toNatClampNeg))) + (0 : Int32))).toNatClampNeg x3) ((((82 : Int32) + ((8 : Int32) * (sa ((1 : Int32)).toNatClampNeg))) + (1 : Int32))).toNatClampNeg x4) ((((82 : Int32) + ((8 : Int32) * (sa ((1 : Int32)).toNatClampNeg))) + (2 : Int32))).toNatClampNeg v2) ((((82 : Int32) + ((8 : Int32) * (sa ((1 : Int32)).toNatClampNeg))) + (3 : Int32))).toNatClampNeg x5) ((((82 : Int32) + ((8 : Int32) * (sa ((1 : Int32)).toNatClampNeg))) + (4 : Int32))).toNatClampNeg x6) ((((82 : Int32) + ((8 : Int32) * (sa ((1 : Int32)).toNatClampNeg))) + (5 : Int32))).toNatClampNeg (v3 / (2 : Int32))) ((((82 : Int32) + ((8 : Int32) * (sa ((1 : Int32)).toNatClampNeg))) + (6 : Int32))).toNatClampNeg (v3 - v3 / (2 : Int32) * (2 : Int32))) ((11 : Int32)).toNatClampNeg)))), (a2, .inl (cI, 378, .inl asd)), (a3, .inl (cI, 1512, .inl sv)), (a4, .inl (cI, 120, .inl mt))] H := hP
      have hD : va_D A [(a0, .inr (9, [.int th, .ref a1, .ref a2, .ref a3, .int sm, .ref a4, .int ln, .int nx, .int cd, .int dg, .int pw, .long hs])), (a1, .inl (cI, 378, .inl (upd (upd (upd (upd (upd (upd (upd (upd sa ((((82 : Int32) + ((8 : Int32) * (sa ((1 : Int32)).toNatClampNeg))) + (0 : Int32))).toNatClampNeg x3) ((((82 : Int32) + ((8 : Int32) * (sa ((1 : Int32)).toNatClampNeg))) + (1 : Int32))).toNatClampNeg x4) ((((82 : Int32) + ((8 : Int32) * (sa ((1 : Int32)).toNatClampNeg))) + (2 : Int32))).toNatClampNeg v2) ((((82 : Int32) + ((8 : Int32) * (sa ((1 : Int32)).toNatClampNeg))) + (3 : Int32))).toNatClampNeg x5) ((((82 : Int32) + ((8 : Int32) * (sa ((1 : Int32)).toNatClampNeg))) + (4 : Int32))).toNatClampNeg x6) ((((82 : Int32) + ((8 : Int32) * (sa ((1 : Int32)).toNatClampNeg))) + (5 : Int32))).toNatClampNeg (v3 / (2 : Int32))) ((((82 : Int32) + ((8 : Int32) * (sa ((1 : Int32)).toNatClampNeg))) + (6 : Int32))).toNatClampNeg (v3 - v3 / (2 : Int32) * (2 : Int32))) ((((82 : Int32) + ((8 : Int32) * (sa ((1 : Int32)).toNatClampNeg))) + (7 : Int32))).toNatClampNeg ((upd (upd (upd (upd (upd (upd (upd sa ((((82 : Int32) + ((8 : Int32) * (sa ((1 : Int32)).toNatClampNeg))) + (0 : Int32))).toNatClampNeg x3) ((((82 : Int32) + ((8 : Int32) * (sa ((1 : Int32)).toNatClampNeg))) + (1 : Int32))).toNatClampNeg x4) ((((82 : Int32) + ((8 : Int32) * (sa ((1 : Int32)).toNatClampNeg))) + (2 : Int32))).toNatClampNeg v2) ((((82 : Int32) + ((8 : Int32) * (sa ((1 : Int32)).toNatClampNeg))) + (3 : Int32))).toNatClampNeg x5) ((((82 : Int32) + ((8 : Int32) * (sa ((1 : Int32)).toNatClampNeg))) + (4 : Int32))).toNatClampNeg x6) ((((82 : Int32) + ((8 : Int32) * (sa ((1 : Int32)).toNatClampNeg))) + (5 : Int32))).toNatClampNeg (v3 / (2 : Int32))) ((((82 : Int32) + ((8 : Int32) * (sa ((1 : Int32)).toNatClampNeg))) + (6 : Int32))).toNatClampNeg (v3 - v3 / (2 : Int32) * (2 : Int32))) ((11 : Int32)).toNatClampNeg)))), (a2, .inl (cI, 378, .inl asd)), (a3, .inl (cI, 1512, .inl sv)), (a4, .inl (cI, 120, .inl mt))] := hD
      refine lv_aload_n hx hb dX6_beginEffect_165 rfl (lv_at hl 1 rfl) ?_
      refine va_get (D := G) (ci := 9) (v := .ref a1) (C := RX6) (T := TX6) (N := 12) hx hb hts hin6 hown hK.1 hP 0 rfl rfl 1 (by decide) hw0 (fun _ h9 => h9) rfl dX6_beginEffect_166 ?_
      refine lv_bipush (v := 11) hx hb dX6_beginEffect_169 (by decide) ?_
      refine lv_dup2_11 hx hb dX6_beginEffect_171 rfl rfl ?_
      obtain ⟨hin, h⟩ := o_g h
      refine va_iald hx hb hK.1 hP 1 0 rfl rfl hin dX6_beginEffect_172 ?_
      refine lv_iconst (v := 1) hx hb dX6_beginEffect_173 (by decide) ?_
      refine lv_iadd hx hb dX6_beginEffect_174 ?_
      obtain ⟨hin, h⟩ := o_g h
      refine va_iast hx hb hK.1 hP hD hS 1 0 rfl rfl hin dX6_beginEffect_175 (fun H locs hP hD hS => ?_)
      have hP : va_P G vwCl [(a0, .inr (9, [.int th, .ref a1, .ref a2, .ref a3, .int sm, .ref a4, .int ln, .int nx, .int cd, .int dg, .int pw, .long hs])), (a1, .inl (cI, 378, .inl (upd (upd (upd (upd (upd (upd (upd (upd (upd sa ((((82 : Int32) + ((8 : Int32) * (sa ((1 : Int32)).toNatClampNeg))) + (0 : Int32))).toNatClampNeg x3) ((((82 : Int32) + ((8 : Int32) * (sa ((1 : Int32)).toNatClampNeg))) + (1 : Int32))).toNatClampNeg x4) ((((82 : Int32) + ((8 : Int32) * (sa ((1 : Int32)).toNatClampNeg))) + (2 : Int32))).toNatClampNeg v2) ((((82 : Int32) + ((8 : Int32) * (sa ((1 : Int32)).toNatClampNeg))) + (3 : Int32))).toNatClampNeg x5) ((((82 : Int32) + ((8 : Int32) * (sa ((1 : Int32)).toNatClampNeg))) + (4 : Int32))).toNatClampNeg x6) ((((82 : Int32) + ((8 : Int32) * (sa ((1 : Int32)).toNatClampNeg))) + (5 : Int32))).toNatClampNeg (v3 / (2 : Int32))) ((((82 : Int32) + ((8 : Int32) * (sa ((1 : Int32)).toNatClampNeg))) + (6 : Int32))).toNatClampNeg (v3 - v3 / (2 : Int32) * (2 : Int32))) ((((82 : Int32) + ((8 : Int32) * (sa ((1 : Int32)).toNatClampNeg))) + (7 : Int32))).toNatClampNeg ((upd (upd (upd (upd (upd (upd (upd sa ((((82 : Int32) + ((8 : Int32) * (sa ((1 : Int32)).toNatClampNeg))) + (0 : Int32))).toNatClampNeg x3) ((((82 : Int32) + ((8 : Int32) * (sa ((1 : Int32)).toNatClampNeg))) + (1 : Int32))).toNatClampNeg x4) ((((82 : Int32) + ((8 : Int32) * (sa ((1 : Int32)).toNatClampNeg))) + (2 : Int32))).toNatClampNeg v2) ((((82 : Int32) + ((8 : Int32) * (sa ((1 : Int32)).toNatClampNeg))) + (3 : Int32))).toNatClampNeg x5) ((((82 : Int32) + ((8 : Int32) * (sa ((1 : Int32)).toNatClampNeg))) + (4 : Int32))).toNatClampNeg x6) ((((82 : Int32) + ((8 : Int32) * (sa ((1 : Int32)).toNatClampNeg))) + (5 : Int32))).toNatClampNeg (v3 / (2 : Int32))) ((((82 : Int32) + ((8 : Int32) * (sa ((1 : Int32)).toNatClampNeg))) + (6 : Int32))).toNatClampNeg (v3 - v3 / (2 : Int32) * (2 : Int32))) ((11 : Int32)).toNatClampNeg)) ((11 : Int32)).toNatClampNeg (((upd (upd (upd (upd (upd (upd (upd (upd sa ((((82 : Int32) + ((8 : Int32) * (sa ((1 : Int32)).toNatClampNeg))) + (0 : Int32))).toNatClampNeg x3) ((((82 : Int32) + ((8 : Int32) * (sa ((1 : Int32)).toNatClampNeg))) + (1 : Int32))).toNatClampNeg x4) ((((82 : Int32) + ((8 : Int32) * (sa ((1 : Int32)).toNatClampNeg))) + (2 : Int32))).toNatClampNeg v2) ((((82 : Int32) + ((8 : Int32) * (sa ((1 : Int32)).toNatClampNeg))) + (3 : Int32))).toNatClampNeg x5) ((((82 : Int32) + ((8 : Int32) * (sa ((1 : Int32)).toNatClampNeg))) + (4 : Int32))).toNatClampNeg x6) ((((82 : Int32) + ((8 : Int32) * (sa ((1 : Int32)).toNatClampNeg))) + (5 : Int32))).toNatClampNeg (v3 / (2 : Int32))) ((((82 : Int32) + ((8 : Int32) * (sa ((1 : Int32)).toNatClampNeg))) + (6 : Int32))).toNatClampNeg (v3 - v3 / (2 : Int32) * (2 : Int32))) ((((82 : Int32) + ((8 : Int32) * (sa ((1 : Int32)).toNatClampNeg))) + (7 : Int32))).toNatClampNeg ((upd (upd (upd (upd (upd (upd (upd sa ((((82 : Int32) + ((8 : Int32) * (sa ((1 : Int32)).toNatClampNeg))) + (0 : Int32))).toNatClampNeg x3) ((((82 : Int32) + ((8 : Int32) * (sa ((1 : Int32)).toNatClampNeg))) + (1 : Int32))).toNatClampNeg x4) ((((82 : Int32) + ((8 : Int32) * (sa ((1 : Int32)).toNatClampNeg))) + (2 : Int32))).toNatClampNeg v2) ((((82 : Int32) + ((8 : Int32) * (sa ((1 : Int32)).toNatClampNeg))) + (3 : Int32))).toNatClampNeg x5) ((((82 : Int32) + ((8 : Int32) * (sa ((1 : Int32)).toNatClampNeg))) + (4 : Int32))).toNatClampNeg x6) ((((82 : Int32) + ((8 : Int32) * (sa ((1 : Int32)).toNatClampNeg))) + (5 : Int32))).toNatClampNeg (v3 / (2 : Int32))) ((((82 : Int32) + ((8 : Int32) * (sa ((1 : Int32)).toNatClampNeg))) + (6 : Int32))).toNatClampNeg (v3 - v3 / (2 : Int32) * (2 : Int32))) ((11 : Int32)).toNatClampNeg)) ((11 : Int32)).toNatClampNeg) + (1 : Int32))))), (a2, .inl (cI, 378, .inl asd)), (a3, .inl (cI, 1512, .inl sv)), (a4, .inl (cI, 120, .inl mt))] H := hP
      have hD : va_D A [(a0, .inr (9, [.int th, .ref a1, .ref a2, .ref a3, .int sm, .ref a4, .int ln, .int nx, .int cd, .int dg, .int pw, .long hs])), (a1, .inl (cI, 378, .inl (upd (upd (upd (upd (upd (upd (upd (upd (upd sa ((((82 : Int32) + ((8 : Int32) * (sa ((1 : Int32)).toNatClampNeg))) + (0 : Int32))).toNatClampNeg x3) ((((82 : Int32) + ((8 : Int32) * (sa ((1 : Int32)).toNatClampNeg))) + (1 : Int32))).toNatClampNeg x4) ((((82 : Int32) + ((8 : Int32) * (sa ((1 : Int32)).toNatClampNeg))) + (2 : Int32))).toNatClampNeg v2) ((((82 : Int32) + ((8 : Int32) * (sa ((1 : Int32)).toNatClampNeg))) + (3 : Int32))).toNatClampNeg x5) ((((82 : Int32) + ((8 : Int32) * (sa ((1 : Int32)).toNatClampNeg))) + (4 : Int32))).toNatClampNeg x6) ((((82 : Int32) + ((8 : Int32) * (sa ((1 : Int32)).toNatClampNeg))) + (5 : Int32))).toNatClampNeg (v3 / (2 : Int32))) ((((82 : Int32) + ((8 : Int32) * (sa ((1 : Int32)).toNatClampNeg))) + (6 : Int32))).toNatClampNeg (v3 - v3 / (2 : Int32) * (2 : Int32))) ((((82 : Int32) + ((8 : Int32) * (sa ((1 : Int32)).toNatClampNeg))) + (7 : Int32))).toNatClampNeg ((upd (upd (upd (upd (upd (upd (upd sa ((((82 : Int32) + ((8 : Int32) * (sa ((1 : Int32)).toNatClampNeg))) + (0 : Int32))).toNatClampNeg x3) ((((82 : Int32) + ((8 : Int32) * (sa ((1 : Int32)).toNatClampNeg))) + (1 : Int32))).toNatClampNeg x4) ((((82 : Int32) + ((8 : Int32) * (sa ((1 : Int32)).toNatClampNeg))) + (2 : Int32))).toNatClampNeg v2) ((((82 : Int32) + ((8 : Int32) * (sa ((1 : Int32)).toNatClampNeg))) + (3 : Int32))).toNatClampNeg x5) ((((82 : Int32) + ((8 : Int32) * (sa ((1 : Int32)).toNatClampNeg))) + (4 : Int32))).toNatClampNeg x6) ((((82 : Int32) + ((8 : Int32) * (sa ((1 : Int32)).toNatClampNeg))) + (5 : Int32))).toNatClampNeg (v3 / (2 : Int32))) ((((82 : Int32) + ((8 : Int32) * (sa ((1 : Int32)).toNatClampNeg))) + (6 : Int32))).toNatClampNeg (v3 - v3 / (2 : Int32) * (2 : Int32))) ((11 : Int32)).toNatClampNeg)) ((11 : Int32)).toNatClampNeg (((upd (upd (upd (upd (upd (upd (upd (upd sa ((((82 : Int32) + ((8 : Int32) * (sa ((1 : Int32)).toNatClampNeg))) + (0 : Int32))).toNatClampNeg x3) ((((82 : Int32) + ((8 : Int32) * (sa ((1 : Int32)).toNatClampNeg))) + (1 : Int32))).toNatClampNeg x4) ((((82 : Int32) + ((8 : Int32) * (sa ((1 : Int32)).toNatClampNeg))) + (2 : Int32))).toNatClampNeg v2) ((((82 : Int32) + ((8 : Int32) * (sa ((1 : Int32)).toNatClampNeg))) + (3 : Int32))).toNatClampNeg x5) ((((82 : Int32) + ((8 : Int32) * (sa ((1 : Int32)).toNatClampNeg))) + (4 : Int32))).toNatClampNeg x6) ((((82 : Int32) + ((8 : Int32) * (sa ((1 : Int32)).toNatClampNeg))) + (5 : Int32))).toNatClampNeg (v3 / (2 : Int32))) ((((82 : Int32) + ((8 : Int32) * (sa ((1 : Int32)).toNatClampNeg))) + (6 : Int32))).toNatClampNeg (v3 - v3 / (2 : Int32) * (2 : Int32))) ((((82 : Int32) + ((8 : Int32) * (sa ((1 : Int32)).toNatClampNeg))) + (7 : Int32))).toNatClampNeg ((upd (upd (upd (upd (upd (upd (upd sa ((((82 : Int32) + ((8 : Int32) * (sa ((1 : Int32)).toNatClampNeg))) + (0 : Int32))).toNatClampNeg x3) ((((82 : Int32) + ((8 : Int32) * (sa ((1 : Int32)).toNatClampNeg))) + (1 : Int32))).toNatClampNeg x4) ((((82 : Int32) + ((8 : Int32) * (sa ((1 : Int32)).toNatClampNeg))) + (2 : Int32))).toNatClampNeg v2) ((((82 : Int32) + ((8 : Int32) * (sa ((1 : Int32)).toNatClampNeg))) + (3 : Int32))).toNatClampNeg x5) ((((82 : Int32) + ((8 : Int32) * (sa ((1 : Int32)).toNatClampNeg))) + (4 : Int32))).toNatClampNeg x6) ((((82 : Int32) + ((8 : Int32) * (sa ((1 : Int32)).toNatClampNeg))) + (5 : Int32))).toNatClampNeg (v3 / (2 : Int32))) ((((82 : Int32) + ((8 : Int32) * (sa ((1 : Int32)).toNatClampNeg))) + (6 : Int32))).toNatClampNeg (v3 - v3 / (2 : Int32) * (2 : Int32))) ((11 : Int32)).toNatClampNeg)) ((11 : Int32)).toNatClampNeg) + (1 : Int32))))), (a2, .inl (cI, 378, .inl asd)), (a3, .inl (cI, 1512, .inl sv)), (a4, .inl (cI, 120, .inl mt))] := hD
      refine lv_aload_n hx hb dX6_beginEffect_176 rfl (lv_at hl 1 rfl) ?_
      refine va_get (D := G) (ci := 9) (v := .ref a1) (C := RX6) (T := TX6) (N := 12) hx hb hts hin6 hown hK.1 hP 0 rfl rfl 1 (by decide) hw0 (fun _ h9 => h9) rfl dX6_beginEffect_177 ?_
      refine lv_iconst (v := 1) hx hb dX6_beginEffect_180 (by decide) ?_
      refine lv_dup2_11 hx hb dX6_beginEffect_181 rfl rfl ?_
      obtain ⟨hin, h⟩ := o_g h
      refine va_iald hx hb hK.1 hP 1 0 rfl rfl hin dX6_beginEffect_182 ?_
      refine lv_iconst (v := 1) hx hb dX6_beginEffect_183 (by decide) ?_
      refine lv_iadd hx hb dX6_beginEffect_184 ?_
      obtain ⟨hin, h⟩ := o_g h
      refine va_iast hx hb hK.1 hP hD hS 1 0 rfl rfl hin dX6_beginEffect_185 (fun H locs hP hD hS => ?_)
      have hP : va_P G vwCl [(a0, .inr (9, [.int th, .ref a1, .ref a2, .ref a3, .int sm, .ref a4, .int ln, .int nx, .int cd, .int dg, .int pw, .long hs])), (a1, .inl (cI, 378, .inl (upd (upd (upd (upd (upd (upd (upd (upd (upd (upd sa ((((82 : Int32) + ((8 : Int32) * (sa ((1 : Int32)).toNatClampNeg))) + (0 : Int32))).toNatClampNeg x3) ((((82 : Int32) + ((8 : Int32) * (sa ((1 : Int32)).toNatClampNeg))) + (1 : Int32))).toNatClampNeg x4) ((((82 : Int32) + ((8 : Int32) * (sa ((1 : Int32)).toNatClampNeg))) + (2 : Int32))).toNatClampNeg v2) ((((82 : Int32) + ((8 : Int32) * (sa ((1 : Int32)).toNatClampNeg))) + (3 : Int32))).toNatClampNeg x5) ((((82 : Int32) + ((8 : Int32) * (sa ((1 : Int32)).toNatClampNeg))) + (4 : Int32))).toNatClampNeg x6) ((((82 : Int32) + ((8 : Int32) * (sa ((1 : Int32)).toNatClampNeg))) + (5 : Int32))).toNatClampNeg (v3 / (2 : Int32))) ((((82 : Int32) + ((8 : Int32) * (sa ((1 : Int32)).toNatClampNeg))) + (6 : Int32))).toNatClampNeg (v3 - v3 / (2 : Int32) * (2 : Int32))) ((((82 : Int32) + ((8 : Int32) * (sa ((1 : Int32)).toNatClampNeg))) + (7 : Int32))).toNatClampNeg ((upd (upd (upd (upd (upd (upd (upd sa ((((82 : Int32) + ((8 : Int32) * (sa ((1 : Int32)).toNatClampNeg))) + (0 : Int32))).toNatClampNeg x3) ((((82 : Int32) + ((8 : Int32) * (sa ((1 : Int32)).toNatClampNeg))) + (1 : Int32))).toNatClampNeg x4) ((((82 : Int32) + ((8 : Int32) * (sa ((1 : Int32)).toNatClampNeg))) + (2 : Int32))).toNatClampNeg v2) ((((82 : Int32) + ((8 : Int32) * (sa ((1 : Int32)).toNatClampNeg))) + (3 : Int32))).toNatClampNeg x5) ((((82 : Int32) + ((8 : Int32) * (sa ((1 : Int32)).toNatClampNeg))) + (4 : Int32))).toNatClampNeg x6) ((((82 : Int32) + ((8 : Int32) * (sa ((1 : Int32)).toNatClampNeg))) + (5 : Int32))).toNatClampNeg (v3 / (2 : Int32))) ((((82 : Int32) + ((8 : Int32) * (sa ((1 : Int32)).toNatClampNeg))) + (6 : Int32))).toNatClampNeg (v3 - v3 / (2 : Int32) * (2 : Int32))) ((11 : Int32)).toNatClampNeg)) ((11 : Int32)).toNatClampNeg (((upd (upd (upd (upd (upd (upd (upd (upd sa ((((82 : Int32) + ((8 : Int32) * (sa ((1 : Int32)).toNatClampNeg))) + (0 : Int32))).toNatClampNeg x3) ((((82 : Int32) + ((8 : Int32) * (sa ((1 : Int32)).toNatClampNeg))) + (1 : Int32))).toNatClampNeg x4) ((((82 : Int32) + ((8 : Int32) * (sa ((1 : Int32)).toNatClampNeg))) + (2 : Int32))).toNatClampNeg v2) ((((82 : Int32) + ((8 : Int32) * (sa ((1 : Int32)).toNatClampNeg))) + (3 : Int32))).toNatClampNeg x5) ((((82 : Int32) + ((8 : Int32) * (sa ((1 : Int32)).toNatClampNeg))) + (4 : Int32))).toNatClampNeg x6) ((((82 : Int32) + ((8 : Int32) * (sa ((1 : Int32)).toNatClampNeg))) + (5 : Int32))).toNatClampNeg (v3 / (2 : Int32))) ((((82 : Int32) + ((8 : Int32) * (sa ((1 : Int32)).toNatClampNeg))) + (6 : Int32))).toNatClampNeg (v3 - v3 / (2 : Int32) * (2 : Int32))) ((((82 : Int32) + ((8 : Int32) * (sa ((1 : Int32)).toNatClampNeg))) + (7 : Int32))).toNatClampNeg ((upd (upd (upd (upd (upd (upd (upd sa ((((82 : Int32) + ((8 : Int32) * (sa ((1 : Int32)).toNatClampNeg))) + (0 : Int32))).toNatClampNeg x3) ((((82 : Int32) + ((8 : Int32) * (sa ((1 : Int32)).toNatClampNeg))) + (1 : Int32))).toNatClampNeg x4) ((((82 : Int32) + ((8 : Int32) * (sa ((1 : Int32)).toNatClampNeg))) + (2 : Int32))).toNatClampNeg v2) ((((82 : Int32) + ((8 : Int32) * (sa ((1 : Int32)).toNatClampNeg))) + (3 : Int32))).toNatClampNeg x5) ((((82 : Int32) + ((8 : Int32) * (sa ((1 : Int32)).toNatClampNeg))) + (4 : Int32))).toNatClampNeg x6) ((((82 : Int32) + ((8 : Int32) * (sa ((1 : Int32)).toNatClampNeg))) + (5 : Int32))).toNatClampNeg (v3 / (2 : Int32))) ((((82 : Int32) + ((8 : Int32) * (sa ((1 : Int32)).toNatClampNeg))) + (6 : Int32))).toNatClampNeg (v3 - v3 / (2 : Int32) * (2 : Int32))) ((11 : Int32)).toNatClampNeg)) ((11 : Int32)).toNatClampNeg) + (1 : Int32))) ((1 : Int32)).toNatClampNeg (((upd (upd (upd (upd (upd (upd (upd (upd (upd sa ((((82 : Int32) + ((8 : Int32) * (sa ((1 : Int32)).toNatClampNeg))) + (0 : Int32))).toNatClampNeg x3) ((((82 : Int32) + ((8 : Int32) * (sa ((1 : Int32)).toNatClampNeg))) + (1 : Int32))).toNatClampNeg x4) ((((82 : Int32) + ((8 : Int32) * (sa ((1 : Int32)).toNatClampNeg))) + (2 : Int32))).toNatClampNeg v2) ((((82 : Int32) + ((8 : Int32) * (sa ((1 : Int32)).toNatClampNeg))) + (3 : Int32))).toNatClampNeg x5) ((((82 : Int32) + ((8 : Int32) * (sa ((1 : Int32)).toNatClampNeg))) + (4 : Int32))).toNatClampNeg x6) ((((82 : Int32) + ((8 : Int32) * (sa ((1 : Int32)).toNatClampNeg))) + (5 : Int32))).toNatClampNeg (v3 / (2 : Int32))) ((((82 : Int32) + ((8 : Int32) * (sa ((1 : Int32)).toNatClampNeg))) + (6 : Int32))).toNatClampNeg (v3 - v3 / (2 : Int32) * (2 : Int32))) ((((82 : Int32) + ((8 : Int32) * (sa ((1 : Int32)).toNatClampNeg))) + (7 : Int32))).toNatClampNeg ((upd (upd (upd (upd (upd (upd (upd sa ((((82 : Int32) + ((8 : Int32) * (sa ((1 : Int32)).toNatClampNeg))) + (0 : Int32))).toNatClampNeg x3) ((((82 : Int32) + ((8 : Int32) * (sa ((1 : Int32)).toNatClampNeg))) + (1 : Int32))).toNatClampNeg x4) ((((82 : Int32) + ((8 : Int32) * (sa ((1 : Int32)).toNatClampNeg))) + (2 : Int32))).toNatClampNeg v2) ((((82 : Int32) + ((8 : Int32) * (sa ((1 : Int32)).toNatClampNeg))) + (3 : Int32))).toNatClampNeg x5) ((((82 : Int32) + ((8 : Int32) * (sa ((1 : Int32)).toNatClampNeg))) + (4 : Int32))).toNatClampNeg x6) ((((82 : Int32) + ((8 : Int32) * (sa ((1 : Int32)).toNatClampNeg))) + (5 : Int32))).toNatClampNeg (v3 / (2 : Int32))) ((((82 : Int32) + ((8 : Int32) * (sa ((1 : Int32)).toNatClampNeg))) + (6 : Int32))).toNatClampNeg (v3 - v3 / (2 : Int32) * (2 : Int32))) ((11 : Int32)).toNatClampNeg)) ((11 : Int32)).toNatClampNeg (((upd (upd (upd (upd (upd (upd (upd (upd sa ((((82 : Int32) + ((8 : Int32) * (sa ((1 : Int32)).toNatClampNeg))) + (0 : Int32))).toNatClampNeg x3) ((((82 : Int32) + ((8 : Int32) * (sa ((1 : Int32)).toNatClampNeg))) + (1 : Int32))).toNatClampNeg x4) ((((82 : Int32) + ((8 : Int32) * (sa ((1 : Int32)).toNatClampNeg))) + (2 : Int32))).toNatClampNeg v2) ((((82 : Int32) + ((8 : Int32) * (sa ((1 : Int32)).toNatClampNeg))) + (3 : Int32))).toNatClampNeg x5) ((((82 : Int32) + ((8 : Int32) * (sa ((1 : Int32)).toNatClampNeg))) + (4 : Int32))).toNatClampNeg x6) ((((82 : Int32) + ((8 : Int32) * (sa ((1 : Int32)).toNatClampNeg))) + (5 : Int32))).toNatClampNeg (v3 / (2 : Int32))) ((((82 : Int32) + ((8 : Int32) * (sa ((1 : Int32)).toNatClampNeg))) + (6 : Int32))).toNatClampNeg (v3 - v3 / (2 : Int32) * (2 : Int32))) ((((82 : Int32) + ((8 : Int32) * (sa ((1 : Int32)).toNatClampNeg))) + (7 : Int32))).toNatClampNeg ((upd (upd (upd (upd (upd (upd (upd sa ((((82 : Int32) + ((8 : Int32) * (sa ((1 : Int32)).toNatClampNeg))) + (0 : Int32))).toNatClampNeg x3) ((((82 : Int32) + ((8 : Int32) * (sa ((1 : Int32)).toNatClampNeg))) + (1 : Int32))).toNatClampNeg x4) ((((82 : Int32) + ((8 : Int32) * (sa ((1 : Int32)).toNatClampNeg))) + (2 : Int32))).toNatClampNeg v2) ((((82 : Int32) + ((8 : Int32) * (sa ((1 : Int32)).toNatClampNeg))) + (3 : Int32))).toNatClampNeg x5) ((((82 : Int32) + ((8 : Int32) * (sa ((1 : Int32)).toNatClampNeg))) + (4 : Int32))).toNatClampNeg x6) ((((82 : Int32) + ((8 : Int32) * (sa ((1 : Int32)).toNatClampNeg))) + (5 : Int32))).toNatClampNeg (v3 / (2 : Int32))) ((((82 : Int32) + ((8 : Int32) * (sa ((1 : Int32)).toNatClampNeg))) + (6 : Int32))).toNatClampNeg (v3 - v3 / (2 : Int32) * (2 : Int32))) ((11 : Int32)).toNatClampNeg)) ((11 : Int32)).toNatClampNeg) + (1 : Int32))) ((1 : Int32)).toNatClampNeg) + (1 : Int32))))), (a2, .inl (cI, 378, .inl asd)), (a3, .inl (cI, 1512, .inl sv)), (a4, .inl (cI, 120, .inl mt))] H := hP
      have hD : va_D A [(a0, .inr (9, [.int th, .ref a1, .ref a2, .ref a3, .int sm, .ref a4, .int ln, .int nx, .int cd, .int dg, .int pw, .long hs])), (a1, .inl (cI, 378, .inl (upd (upd (upd (upd (upd (upd (upd (upd (upd (upd sa ((((82 : Int32) + ((8 : Int32) * (sa ((1 : Int32)).toNatClampNeg))) + (0 : Int32))).toNatClampNeg x3) ((((82 : Int32) + ((8 : Int32) * (sa ((1 : Int32)).toNatClampNeg))) + (1 : Int32))).toNatClampNeg x4) ((((82 : Int32) + ((8 : Int32) * (sa ((1 : Int32)).toNatClampNeg))) + (2 : Int32))).toNatClampNeg v2) ((((82 : Int32) + ((8 : Int32) * (sa ((1 : Int32)).toNatClampNeg))) + (3 : Int32))).toNatClampNeg x5) ((((82 : Int32) + ((8 : Int32) * (sa ((1 : Int32)).toNatClampNeg))) + (4 : Int32))).toNatClampNeg x6) ((((82 : Int32) + ((8 : Int32) * (sa ((1 : Int32)).toNatClampNeg))) + (5 : Int32))).toNatClampNeg (v3 / (2 : Int32))) ((((82 : Int32) + ((8 : Int32) * (sa ((1 : Int32)).toNatClampNeg))) + (6 : Int32))).toNatClampNeg (v3 - v3 / (2 : Int32) * (2 : Int32))) ((((82 : Int32) + ((8 : Int32) * (sa ((1 : Int32)).toNatClampNeg))) + (7 : Int32))).toNatClampNeg ((upd (upd (upd (upd (upd (upd (upd sa ((((82 : Int32) + ((8 : Int32) * (sa ((1 : Int32)).toNatClampNeg))) + (0 : Int32))).toNatClampNeg x3) ((((82 : Int32) + ((8 : Int32) * (sa ((1 : Int32)).toNatClampNeg))) + (1 : Int32))).toNatClampNeg x4) ((((82 : Int32) + ((8 : Int32) * (sa ((1 : Int32)).toNatClampNeg))) + (2 : Int32))).toNatClampNeg v2) ((((82 : Int32) + ((8 : Int32) * (sa ((1 : Int32)).toNatClampNeg))) + (3 : Int32))).toNatClampNeg x5) ((((82 : Int32) + ((8 : Int32) * (sa ((1 : Int32)).toNatClampNeg))) + (4 : Int32))).toNatClampNeg x6) ((((82 : Int32) + ((8 : Int32) * (sa ((1 : Int32)).toNatClampNeg))) + (5 : Int32))).toNatClampNeg (v3 / (2 : Int32))) ((((82 : Int32) + ((8 : Int32) * (sa ((1 : Int32)).toNatClampNeg))) + (6 : Int32))).toNatClampNeg (v3 - v3 / (2 : Int32) * (2 : Int32))) ((11 : Int32)).toNatClampNeg)) ((11 : Int32)).toNatClampNeg (((upd (upd (upd (upd (upd (upd (upd (upd sa ((((82 : Int32) + ((8 : Int32) * (sa ((1 : Int32)).toNatClampNeg))) + (0 : Int32))).toNatClampNeg x3) ((((82 : Int32) + ((8 : Int32) * (sa ((1 : Int32)).toNatClampNeg))) + (1 : Int32))).toNatClampNeg x4) ((((82 : Int32) + ((8 : Int32) * (sa ((1 : Int32)).toNatClampNeg))) + (2 : Int32))).toNatClampNeg v2) ((((82 : Int32) + ((8 : Int32) * (sa ((1 : Int32)).toNatClampNeg))) + (3 : Int32))).toNatClampNeg x5) ((((82 : Int32) + ((8 : Int32) * (sa ((1 : Int32)).toNatClampNeg))) + (4 : Int32))).toNatClampNeg x6) ((((82 : Int32) + ((8 : Int32) * (sa ((1 : Int32)).toNatClampNeg))) + (5 : Int32))).toNatClampNeg (v3 / (2 : Int32))) ((((82 : Int32) + ((8 : Int32) * (sa ((1 : Int32)).toNatClampNeg))) + (6 : Int32))).toNatClampNeg (v3 - v3 / (2 : Int32) * (2 : Int32))) ((((82 : Int32) + ((8 : Int32) * (sa ((1 : Int32)).toNatClampNeg))) + (7 : Int32))).toNatClampNeg ((upd (upd (upd (upd (upd (upd (upd sa ((((82 : Int32) + ((8 : Int32) * (sa ((1 : Int32)).toNatClampNeg))) + (0 : Int32))).toNatClampNeg x3) ((((82 : Int32) + ((8 : Int32) * (sa ((1 : Int32)).toNatClampNeg))) + (1 : Int32))).toNatClampNeg x4) ((((82 : Int32) + ((8 : Int32) * (sa ((1 : Int32)).toNatClampNeg))) + (2 : Int32))).toNatClampNeg v2) ((((82 : Int32) + ((8 : Int32) * (sa ((1 : Int32)).toNatClampNeg))) + (3 : Int32))).toNatClampNeg x5) ((((82 : Int32) + ((8 : Int32) * (sa ((1 : Int32)).toNatClampNeg))) + (4 : Int32))).toNatClampNeg x6) ((((82 : Int32) + ((8 : Int32) * (sa ((1 : Int32)).toNatClampNeg))) + (5 : Int32))).toNatClampNeg (v3 / (2 : Int32))) ((((82 : Int32) + ((8 : Int32) * (sa ((1 : Int32)).toNatClampNeg))) + (6 : Int32))).toNatClampNeg (v3 - v3 / (2 : Int32) * (2 : Int32))) ((11 : Int32)).toNatClampNeg)) ((11 : Int32)).toNatClampNeg) + (1 : Int32))) ((1 : Int32)).toNatClampNeg (((upd (upd (upd (upd (upd (upd (upd (upd (upd sa ((((82 : Int32) + ((8 : Int32) * (sa ((1 : Int32)).toNatClampNeg))) + (0 : Int32))).toNatClampNeg x3) ((((82 : Int32) + ((8 : Int32) * (sa ((1 : Int32)).toNatClampNeg))) + (1 : Int32))).toNatClampNeg x4) ((((82 : Int32) + ((8 : Int32) * (sa ((1 : Int32)).toNatClampNeg))) + (2 : Int32))).toNatClampNeg v2) ((((82 : Int32) + ((8 : Int32) * (sa ((1 : Int32)).toNatClampNeg))) + (3 : Int32))).toNatClampNeg x5) ((((82 : Int32) + ((8 : Int32) * (sa ((1 : Int32)).toNatClampNeg))) + (4 : Int32))).toNatClampNeg x6) ((((82 : Int32) + ((8 : Int32) * (sa ((1 : Int32)).toNatClampNeg))) + (5 : Int32))).toNatClampNeg (v3 / (2 : Int32))) ((((82 : Int32) + ((8 : Int32) * (sa ((1 : Int32)).toNatClampNeg))) + (6 : Int32))).toNatClampNeg (v3 - v3 / (2 : Int32) * (2 : Int32))) ((((82 : Int32) + ((8 : Int32) * (sa ((1 : Int32)).toNatClampNeg))) + (7 : Int32))).toNatClampNeg ((upd (upd (upd (upd (upd (upd (upd sa ((((82 : Int32) + ((8 : Int32) * (sa ((1 : Int32)).toNatClampNeg))) + (0 : Int32))).toNatClampNeg x3) ((((82 : Int32) + ((8 : Int32) * (sa ((1 : Int32)).toNatClampNeg))) + (1 : Int32))).toNatClampNeg x4) ((((82 : Int32) + ((8 : Int32) * (sa ((1 : Int32)).toNatClampNeg))) + (2 : Int32))).toNatClampNeg v2) ((((82 : Int32) + ((8 : Int32) * (sa ((1 : Int32)).toNatClampNeg))) + (3 : Int32))).toNatClampNeg x5) ((((82 : Int32) + ((8 : Int32) * (sa ((1 : Int32)).toNatClampNeg))) + (4 : Int32))).toNatClampNeg x6) ((((82 : Int32) + ((8 : Int32) * (sa ((1 : Int32)).toNatClampNeg))) + (5 : Int32))).toNatClampNeg (v3 / (2 : Int32))) ((((82 : Int32) + ((8 : Int32) * (sa ((1 : Int32)).toNatClampNeg))) + (6 : Int32))).toNatClampNeg (v3 - v3 / (2 : Int32) * (2 : Int32))) ((11 : Int32)).toNatClampNeg)) ((11 : Int32)).toNatClampNeg (((upd (upd (upd (upd (upd (upd (upd (upd sa ((((82 : Int32) + ((8 : Int32) * (sa ((1 : Int32)).toNatClampNeg))) + (0 : Int32))).toNatClampNeg x3) ((((82 : Int32) + ((8 : Int32) * (sa ((1 : Int32)).toNatClampNeg))) + (1 : Int32))).toNatClampNeg x4) ((((82 : Int32) + ((8 : Int32) * (sa ((1 : Int32)).toNatClampNeg))) + (2 : Int32))).toNatClampNeg v2) ((((82 : Int32) + ((8 : Int32) * (sa ((1 : Int32)).toNatClampNeg))) + (3 : Int32))).toNatClampNeg x5) ((((82 : Int32) + ((8 : Int32) * (sa ((1 : Int32)).toNatClampNeg))) + (4 : Int32))).toNatClampNeg x6) ((((82 : Int32) + ((8 : Int32) * (sa ((1 : Int32)).toNatClampNeg))) + (5 : Int32))).toNatClampNeg (v3 / (2 : Int32))) ((((82 : Int32) + ((8 : Int32) * (sa ((1 : Int32)).toNatClampNeg))) + (6 : Int32))).toNatClampNeg (v3 - v3 / (2 : Int32) * (2 : Int32))) ((((82 : Int32) + ((8 : Int32) * (sa ((1 : Int32)).toNatClampNeg))) + (7 : Int32))).toNatClampNeg ((upd (upd (upd (upd (upd (upd (upd sa ((((82 : Int32) + ((8 : Int32) * (sa ((1 : Int32)).toNatClampNeg))) + (0 : Int32))).toNatClampNeg x3) ((((82 : Int32) + ((8 : Int32) * (sa ((1 : Int32)).toNatClampNeg))) + (1 : Int32))).toNatClampNeg x4) ((((82 : Int32) + ((8 : Int32) * (sa ((1 : Int32)).toNatClampNeg))) + (2 : Int32))).toNatClampNeg v2) ((((82 : Int32) + ((8 : Int32) * (sa ((1 : Int32)).toNatClampNeg))) + (3 : Int32))).toNatClampNeg x5) ((((82 : Int32) + ((8 : Int32) * (sa ((1 : Int32)).toNatClampNeg))) + (4 : Int32))).toNatClampNeg x6) ((((82 : Int32) + ((8 : Int32) * (sa ((1 : Int32)).toNatClampNeg))) + (5 : Int32))).toNatClampNeg (v3 / (2 : Int32))) ((((82 : Int32) + ((8 : Int32) * (sa ((1 : Int32)).toNatClampNeg))) + (6 : Int32))).toNatClampNeg (v3 - v3 / (2 : Int32) * (2 : Int32))) ((11 : Int32)).toNatClampNeg)) ((11 : Int32)).toNatClampNeg) + (1 : Int32))) ((1 : Int32)).toNatClampNeg) + (1 : Int32))))), (a2, .inl (cI, 378, .inl asd)), (a3, .inl (cI, 1512, .inl sv)), (a4, .inl (cI, 120, .inl mt))] := hD
      obtain rfl := o_s h
      rw [hQ]
      exact end_v hx hb hr hP hD hS dX6_beginEffect_186 hlocks
    · have h := o_t h hc
      obtain rfl := o_s h
      rw [hQ]
      exact end_v hx hb hr hP hD hS dX6_beginEffect_38 hlocks
  have h := hf
  rw [fX6_beginEffect] at h
  have hl := lv_entry ([.ref a0, .int p1]) (n := 5) (Nat.le_of_ble_eq_true rfl)
  rw [lg_entry_eq]
  generalize (lg_sl ([.ref a0, .int p1]) ++ List.replicate (5 - (lg_sl ([.ref a0, .int p1])).length) Slot.unset).toArray = ls at hl ⊢
  have hl : lv_has ls 5 [(0, .ref a0), (1, .int p1)] := hl
  refine lv_aload_n hx hb dX6_beginEffect_0 rfl (lv_at hl 0 rfl) ?_
  refine lv_iload_n hx hb dX6_beginEffect_1 rfl (lv_at hl 1 rfl) ?_
  refine lv_iconst (v := 1) hx hb dX6_beginEffect_2 (by decide) ?_
  obtain ⟨x1, ex1, h⟩ := o_b h
  refine call_iV (As := [.int p1, .int (1 : Int32)]) (rest := []) (ws2 := [(a0, .inr (9, [.int th, .ref a1, .ref a2, .ref a3, .int sm, .ref a4, .int ln, .int nx, .int cd, .int dg, .int pw, .long hs])), (a1, .inl (cI, 378, .inl sa)), (a2, .inl (cI, 378, .inl asd)), (a3, .inl (cI, 1512, .inl sv)), (a4, .inl (cI, 120, .inl mt))]) ⟨hx, hb, hml, hown, hts⟩ (cX6_ofAct_ok l G cI cG a0 a1 a2 a3 a4 th sa asd sv sm mt ln nx cd dg pw hs p1 (1 : Int32) x1 ex1) (cwV 2 hts gX6_beginEffect_X6_ofAct rfl rfl rfl hdX6_ofAct ⟨Nat.le_of_ble_eq_true rfl, Nat.le_of_ble_eq_true rfl⟩) hP hD hS hA hK 9 rfl rfl rfl [0, 1, 2, 3, 4] rfl rfl rfl rfl rfl rfl rfl rfl hl.1 (Nat.le_of_ble_eq_true rfl) dX6_beginEffect_3 ⟨Nat.zero_le _, Nat.zero_le _⟩ (fun H locs hP hD hS => ?_)
  refine lv_istore_n (lv' := [(2, .int x1), (0, .ref a0), (1, .int p1)]) hx hb dX6_beginEffect_6 rfl hl (by decide) rfl (fun ls hl => ?_)
  refine lv_aload_n hx hb dX6_beginEffect_7 rfl (lv_at hl 1 rfl) ?_
  refine lv_iload_n hx hb dX6_beginEffect_8 rfl (lv_at hl 2 rfl) ?_
  refine lv_bipush (v := 6) hx hb dX6_beginEffect_9 (by decide) ?_
  obtain ⟨x2, ex2, h⟩ := o_b h
  refine call_iV (As := [.int p1, .int (6 : Int32)]) (rest := []) (ws2 := [(a0, .inr (9, [.int th, .ref a1, .ref a2, .ref a3, .int sm, .ref a4, .int ln, .int nx, .int cd, .int dg, .int pw, .long hs])), (a1, .inl (cI, 378, .inl sa)), (a2, .inl (cI, 378, .inl asd)), (a3, .inl (cI, 1512, .inl sv)), (a4, .inl (cI, 120, .inl mt))]) ⟨hx, hb, hml, hown, hts⟩ (cX6_ofAct_ok l G cI cG a0 a1 a2 a3 a4 th sa asd sv sm mt ln nx cd dg pw hs p1 (6 : Int32) x2 ex2) (cwV 2 hts gX6_beginEffect_X6_ofAct rfl rfl rfl hdX6_ofAct ⟨Nat.le_of_ble_eq_true rfl, Nat.le_of_ble_eq_true rfl⟩) hP hD hS hA hK 9 rfl rfl rfl [0, 1, 2, 3, 4] rfl rfl rfl rfl rfl rfl rfl rfl hl.1 (Nat.le_of_ble_eq_true rfl) dX6_beginEffect_11 ⟨Nat.zero_le _, Nat.zero_le _⟩ (fun H locs hP hD hS => ?_)
  refine lv_istore_n (lv' := [(3, .int x2), (2, .int x1), (0, .ref a0), (1, .int p1)]) hx hb dX6_beginEffect_14 rfl hl (by decide) rfl (fun ls hl => ?_)
  refine lv_iload_n hx hb dX6_beginEffect_15 rfl (lv_at hl 0 rfl) ?_
  refine lv_iconst (v := 2) hx hb dX6_beginEffect_16 (by decide) ?_
  refine lv_irem hx hb dX6_beginEffect_17 (by decide) ?_
  refine lv_iconst (v := 1) hx hb dX6_beginEffect_18 (by decide) ?_
  refine lv_icmp_ne (tgt := 27) hx hb dX6_beginEffect_19 (by decide) (fun hc => ?_) (fun hc => ?_)
  · have h := o_f h hc
    exact J27 sa x1 x2 _ _ _ h hP hD hS (lv_sub hl [2, 3, 1, 0] rfl)
  · have h := o_t h hc
    refine lv_aload_n hx hb dX6_beginEffect_22 rfl (lv_at hl 2 rfl) ?_
    refine lv_iload_n hx hb dX6_beginEffect_23 rfl (lv_at hl 1 rfl) ?_
    obtain ⟨x7, ex7, h⟩ := o_b h
    refine call_vV (As := [.int x1]) (rest := []) (ws2 := [(a0, .inr (9, [.int th, .ref a1, .ref a2, .ref a3, .int sm, .ref a4, .int ln, .int nx, .int cd, .int dg, .int pw, .long hs])), (a1, .inl (cI, 378, .inl x7)), (a2, .inl (cI, 378, .inl asd)), (a3, .inl (cI, 1512, .inl sv)), (a4, .inl (cI, 120, .inl mt))]) ⟨hx, hb, hml, hown, hts⟩ (cX6_stopHolding_ok l G cI cG a0 a1 a2 a3 a4 fu th sa asd sv sm mt ln nx cd dg pw hs x1 x7 ex7) (cwV 1 hts gX6_beginEffect_X6_stopHolding rfl rfl rfl hdX6_stopHolding ⟨Nat.le_of_ble_eq_true rfl, Nat.le_of_ble_eq_true rfl⟩) hP hD hS hA hK 9 rfl rfl rfl [0, 1, 2, 3, 4] rfl rfl rfl rfl rfl rfl rfl rfl hl.1 (Nat.le_of_ble_eq_true rfl) dX6_beginEffect_24 ⟨Nat.zero_le _, Nat.zero_le _⟩ (fun H locs hP hD hS => ?_)
    exact J27 x7 x1 x2 _ _ _ h hP hD hS (lv_sub hl [2, 3, 1, 0] rfl)
theorem hdX6_happen : yX6_happen.cls = RX6 ∧ yX6_happen.cls ≠ "java/lang/invoke/MethodHandle" ∧ yX6_happen.cls ≠ "java/lang/invoke/VarHandle" ∧ (parseMethodDescriptor yX6_happen.desc).map (fun d => d.parameters.length) = some 1 := by decide +kernel
set_option maxHeartbeats 4000000 in
set_option maxRecDepth 100000 in
theorem cX6_happen_ok (l : Launch) (G : va_G) (cI cG : ClassId) (a0 a1 a2 a3 a4 : Nat) (fu : Nat) (th : Int32) (sa : (Nat → Int32)) (asd : (Nat → Int32)) (sv : (Nat → Int32)) (sm : Int32) (mt : (Nat → Int32)) (ln : Int32) (nx : Int32) (cd : Int32) (dg : Int32) (pw : Int32) (hs : Int64) (p1 : Int32) (out : (Nat → Int32)) (hf : fX6_happen fu sa p1 = some out) : CV l G (tyz cI cG) yX6_happen wsX6_happen ({ frames := 4, cells := 0, slots := 0, locals := 91 } : Room) [.ref a0, .int p1] [(a0, .inr (9, [.int th, .ref a1, .ref a2, .ref a3, .int sm, .ref a4, .int ln, .int nx, .int cd, .int dg, .int pw, .long hs])), (a1, .inl (cI, 378, .inl sa)), (a2, .inl (cI, 378, .inl asd)), (a3, .inl (cI, 1512, .inl sv)), (a4, .inl (cI, 120, .inl mt))] [(a0, .inr (9, [.int th, .ref a1, .ref a2, .ref a3, .int sm, .ref a4, .int ln, .int nx, .int cd, .int dg, .int pw, .long hs])), (a1, .inl (cI, 378, .inl out)), (a2, .inl (cI, 378, .inl asd)), (a3, .inl (cI, 1512, .inl sv)), (a4, .inl (cI, 120, .inl mt))] := by
  intro sz
  refine Met.ofW (cc := cX6_happen) (maxL := 5) (ret := none) (by decide) rfl ?_
  intro p e s m args below meth c s₁ B hml hv
  obtain ⟨rfl, hsz, hP, hK, hD0⟩ := hv
  have hx := B.exec
  have hb := B.bytes
  have hr := B.returns
  have hts := atoms_spec (ws := wsX6_happen) B.pre
  have hown : s.vm.findClass RX6 = some m.cls := findClass_of_methodNamed B.named
  have hlocks := B.notSynchronized
  subst hsz
  have hD := hD0.self (sz := s.heap.size)
  generalize hAe : va_A [(a0, .inr (9, [.int th, .ref a1, .ref a2, .ref a3, .int sm, .ref a4, .int ln, .int nx, .int cd, .int dg, .int pw, .long hs])), (a1, .inl (cI, 378, .inl sa)), (a2, .inl (cI, 378, .inl asd)), (a3, .inl (cI, 1512, .inl sv)), (a4, .inl (cI, 120, .inl mt))] s.heap.size = A at hD ⊢
  have hA : ∀ q : Nat, s.heap.size ≤ q → A q := fun q h => by rw [← hAe]; exact Or.inr h
  have hS : va_S A s.heap s.heap [] := va_S.rf
  have hw0 := hts (.fieldLink RX6 7 "SpeedTurnsModel" "s" "[I") (List.mem_of_getElem? (i := 1) rfl)
  have hin6 : ∀ w ∈ u_ws RX6 TX6 12, w ∈ wsX6_happen := by decide +kernel
  show W p l e ({ frames := 4, cells := 0, slots := 0, locals := 91 } : Room) s m _ below meth c s.heap [] 0 0 _ _
  refine W_genQ (fun Q hQ => ?_)
  have h := hf
  rw [fX6_happen] at h
  have hl := lv_entry ([.ref a0, .int p1]) (n := 5) (Nat.le_of_ble_eq_true rfl)
  rw [lg_entry_eq]
  generalize (lg_sl ([.ref a0, .int p1]) ++ List.replicate (5 - (lg_sl ([.ref a0, .int p1])).length) Slot.unset).toArray = ls at hl ⊢
  have hl : lv_has ls 5 [(0, .ref a0), (1, .int p1)] := hl
  refine lv_aload_n hx hb dX6_happen_0 rfl (lv_at hl 0 rfl) ?_
  refine lv_iload_n hx hb dX6_happen_1 rfl (lv_at hl 1 rfl) ?_
  refine lv_iconst (v := 2) hx hb dX6_happen_2 (by decide) ?_
  obtain ⟨x1, ex1, h⟩ := o_b h
  refine call_iV (As := [.int p1, .int (2 : Int32)]) (rest := []) (ws2 := [(a0, .inr (9, [.int th, .ref a1, .ref a2, .ref a3, .int sm, .ref a4, .int ln, .int nx, .int cd, .int dg, .int pw, .long hs])), (a1, .inl (cI, 378, .inl sa)), (a2, .inl (cI, 378, .inl asd)), (a3, .inl (cI, 1512, .inl sv)), (a4, .inl (cI, 120, .inl mt))]) ⟨hx, hb, hml, hown, hts⟩ (cX6_ofAct_ok l G cI cG a0 a1 a2 a3 a4 th sa asd sv sm mt ln nx cd dg pw hs p1 (2 : Int32) x1 ex1) (cwV 2 hts gX6_happen_X6_ofAct rfl rfl rfl hdX6_ofAct ⟨Nat.le_of_ble_eq_true rfl, Nat.le_of_ble_eq_true rfl⟩) hP hD hS hA hK 9 rfl rfl rfl [0, 1, 2, 3, 4] rfl rfl rfl rfl rfl rfl rfl rfl hl.1 (Nat.le_of_ble_eq_true rfl) dX6_happen_3 ⟨Nat.zero_le _, Nat.zero_le _⟩ (fun H locs hP hD hS => ?_)
  refine lv_istore_n (lv' := [(2, .int x1), (0, .ref a0), (1, .int p1)]) hx hb dX6_happen_6 rfl hl (by decide) rfl (fun ls hl => ?_)
  refine lv_aload_n hx hb dX6_happen_7 rfl (lv_at hl 1 rfl) ?_
  refine lv_iload_n hx hb dX6_happen_8 rfl (lv_at hl 2 rfl) ?_
  refine lv_iconst (v := 3) hx hb dX6_happen_9 (by decide) ?_
  obtain ⟨x2, ex2, h⟩ := o_b h
  refine call_iV (As := [.int p1, .int (3 : Int32)]) (rest := []) (ws2 := [(a0, .inr (9, [.int th, .ref a1, .ref a2, .ref a3, .int sm, .ref a4, .int ln, .int nx, .int cd, .int dg, .int pw, .long hs])), (a1, .inl (cI, 378, .inl sa)), (a2, .inl (cI, 378, .inl asd)), (a3, .inl (cI, 1512, .inl sv)), (a4, .inl (cI, 120, .inl mt))]) ⟨hx, hb, hml, hown, hts⟩ (cX6_ofAct_ok l G cI cG a0 a1 a2 a3 a4 th sa asd sv sm mt ln nx cd dg pw hs p1 (3 : Int32) x2 ex2) (cwV 2 hts gX6_happen_X6_ofAct rfl rfl rfl hdX6_ofAct ⟨Nat.le_of_ble_eq_true rfl, Nat.le_of_ble_eq_true rfl⟩) hP hD hS hA hK 9 rfl rfl rfl [0, 1, 2, 3, 4] rfl rfl rfl rfl rfl rfl rfl rfl hl.1 (Nat.le_of_ble_eq_true rfl) dX6_happen_10 ⟨Nat.zero_le _, Nat.zero_le _⟩ (fun H locs hP hD hS => ?_)
  refine lv_istore_n (lv' := [(3, .int x2), (2, .int x1), (0, .ref a0), (1, .int p1)]) hx hb dX6_happen_13 rfl hl (by decide) rfl (fun ls hl => ?_)
  refine lv_aload_n hx hb dX6_happen_14 rfl (lv_at hl 2 rfl) ?_
  refine lv_iload_n hx hb dX6_happen_15 rfl (lv_at hl 3 rfl) ?_
  refine lv_iconst (v := 0) hx hb dX6_happen_16 (by decide) ?_
  obtain ⟨x3, ex3, h⟩ := o_b h
  refine call_iV (As := [.int p1, .int (0 : Int32)]) (rest := []) (ws2 := [(a0, .inr (9, [.int th, .ref a1, .ref a2, .ref a3, .int sm, .ref a4, .int ln, .int nx, .int cd, .int dg, .int pw, .long hs])), (a1, .inl (cI, 378, .inl sa)), (a2, .inl (cI, 378, .inl asd)), (a3, .inl (cI, 1512, .inl sv)), (a4, .inl (cI, 120, .inl mt))]) ⟨hx, hb, hml, hown, hts⟩ (cX6_ofAct_ok l G cI cG a0 a1 a2 a3 a4 th sa asd sv sm mt ln nx cd dg pw hs p1 (0 : Int32) x3 ex3) (cwV 2 hts gX6_happen_X6_ofAct rfl rfl rfl hdX6_ofAct ⟨Nat.le_of_ble_eq_true rfl, Nat.le_of_ble_eq_true rfl⟩) hP hD hS hA hK 9 rfl rfl rfl [0, 1, 2, 3, 4] rfl rfl rfl rfl rfl rfl rfl rfl hl.1 (Nat.le_of_ble_eq_true rfl) dX6_happen_17 ⟨Nat.zero_le _, Nat.zero_le _⟩ (fun H locs hP hD hS => ?_)
  by_cases c4 : x3 = 0
  · have h := o_t h c4
    refine lv_tableIn (off := 28) (tgt := 48) hx hb dX6_happen_20 (by rw [c4]; decide) (by rw [c4]; decide) (by rw [c4]; rfl) (by decide) ?_
    refine lv_aload_n hx hb dX6_happen_48 rfl (lv_at hl 2 rfl) ?_
    refine lv_iload_n hx hb dX6_happen_49 rfl (lv_at hl 1 rfl) ?_
    refine lv_iload_n hx hb dX6_happen_50 rfl (lv_at hl 0 rfl) ?_
    refine lv_iconst (v := 0) hx hb dX6_happen_51 (by decide) ?_
    obtain ⟨x5, ex5, h⟩ := o_b h
    refine call_vV (As := [.int x1, .int x2, .int (0 : Int32)]) (rest := []) (ws2 := [(a0, .inr (9, [.int th, .ref a1, .ref a2, .ref a3, .int sm, .ref a4, .int ln, .int nx, .int cd, .int dg, .int pw, .long hs])), (a1, .inl (cI, 378, .inl x5)), (a2, .inl (cI, 378, .inl asd)), (a3, .inl (cI, 1512, .inl sv)), (a4, .inl (cI, 120, .inl mt))]) ⟨hx, hb, hml, hown, hts⟩ (cX6_harm_ok l G cI cG a0 a1 a2 a3 a4 fu th sa asd sv sm mt ln nx cd dg pw hs x1 x2 false x5 ex5) (cwV 3 hts gX6_happen_X6_harm rfl rfl rfl hdX6_harm ⟨Nat.le_of_ble_eq_true rfl, Nat.le_of_ble_eq_true rfl⟩) hP hD hS hA hK 9 rfl rfl rfl [0, 1, 2, 3, 4] rfl rfl rfl rfl rfl rfl rfl rfl hl.1 (Nat.le_of_ble_eq_true rfl) dX6_happen_52 ⟨Nat.zero_le _, Nat.zero_le _⟩ (fun H locs hP hD hS => ?_)
    refine lv_goto (tgt := 132) hx hb dX6_happen_55 (by decide) ?_
    obtain rfl := o_s h
    rw [hQ]
    exact end_v hx hb hr hP hD hS dX6_happen_132 hlocks
  have h := o_f h c4
  by_cases c6 : x3 = 1
  · have h := o_t h c6
    refine lv_tableIn (off := 38) (tgt := 58) hx hb dX6_happen_20 (by rw [c6]; decide) (by rw [c6]; decide) (by rw [c6]; rfl) (by decide) ?_
    refine lv_aload_n hx hb dX6_happen_58 rfl (lv_at hl 2 rfl) ?_
    refine lv_iload_n hx hb dX6_happen_59 rfl (lv_at hl 1 rfl) ?_
    refine lv_iconst (v := 2) hx hb dX6_happen_60 (by decide) ?_
    obtain ⟨x7, ex7, h⟩ := o_b h
    refine call_iV (As := [.int x1, .int (2 : Int32)]) (rest := []) (ws2 := [(a0, .inr (9, [.int th, .ref a1, .ref a2, .ref a3, .int sm, .ref a4, .int ln, .int nx, .int cd, .int dg, .int pw, .long hs])), (a1, .inl (cI, 378, .inl sa)), (a2, .inl (cI, 378, .inl asd)), (a3, .inl (cI, 1512, .inl sv)), (a4, .inl (cI, 120, .inl mt))]) ⟨hx, hb, hml, hown, hts⟩ (cX6_of_ok l G cI cG a0 a1 a2 a3 a4 th sa asd sv sm mt ln nx cd dg pw hs x1 (2 : Int32) x7 ex7) (cwV 2 hts gX6_happen_X6_of rfl rfl rfl hdX6_of ⟨Nat.le_of_ble_eq_true rfl, Nat.le_of_ble_eq_true rfl⟩) hP hD hS hA hK 9 rfl rfl rfl [0, 1, 2, 3, 4] rfl rfl rfl rfl rfl rfl rfl rfl hl.1 (Nat.le_of_ble_eq_true rfl) dX6_happen_61 ⟨Nat.zero_le _, Nat.zero_le _⟩ (fun H locs hP hD hS => ?_)
    refine lv_iload_n hx hb dX6_happen_64 rfl (lv_at hl 0 rfl) ?_
    refine lv_iadd hx hb dX6_happen_65 ?_
    refine lv_istore (lv' := [(4, .int (x7 + x2)), (3, .int x2), (2, .int x1), (0, .ref a0), (1, .int p1)]) hx hb dX6_happen_66 hl (by decide) rfl (fun ls hl => ?_)
    refine lv_aload_n hx hb dX6_happen_68 rfl (lv_at hl 3 rfl) ?_
    refine lv_iload_n hx hb dX6_happen_69 rfl (lv_at hl 2 rfl) ?_
    refine lv_iconst (v := 2) hx hb dX6_happen_70 (by decide) ?_
    refine lv_iload hx hb dX6_happen_71 (lv_at hl 0 rfl) ?_
    refine lv_aload_n hx hb dX6_happen_73 rfl (lv_at hl 3 rfl) ?_
    refine lv_iload_n hx hb dX6_happen_74 rfl (lv_at hl 2 rfl) ?_
    refine lv_iconst (v := 1) hx hb dX6_happen_75 (by decide) ?_
    obtain ⟨x8, ex8, h⟩ := o_b h
    refine call_iV (As := [.int x1, .int (1 : Int32)]) (rest := [.int (x7 + x2), .int (2 : Int32), .int x1, .ref a0]) (ws2 := [(a0, .inr (9, [.int th, .ref a1, .ref a2, .ref a3, .int sm, .ref a4, .int ln, .int nx, .int cd, .int dg, .int pw, .long hs])), (a1, .inl (cI, 378, .inl sa)), (a2, .inl (cI, 378, .inl asd)), (a3, .inl (cI, 1512, .inl sv)), (a4, .inl (cI, 120, .inl mt))]) ⟨hx, hb, hml, hown, hts⟩ (cX6_of_ok l G cI cG a0 a1 a2 a3 a4 th sa asd sv sm mt ln nx cd dg pw hs x1 (1 : Int32) x8 ex8) (cwV 2 hts gX6_happen_X6_of rfl rfl rfl hdX6_of ⟨Nat.le_of_ble_eq_true rfl, Nat.le_of_ble_eq_true rfl⟩) hP hD hS hA hK 9 rfl rfl rfl [0, 1, 2, 3, 4] rfl rfl rfl rfl rfl rfl rfl rfl hl.1 (Nat.le_of_ble_eq_true rfl) dX6_happen_76 ⟨Nat.zero_le _, Nat.zero_le _⟩ (fun H locs hP hD hS => ?_)
    refine lv_icmp_le (tgt := 91) hx hb dX6_happen_79 (by decide) (fun hc => ?_) (fun hc => ?_)
    · have h := o_t h hc
      refine lv_iload hx hb dX6_happen_91 (lv_at hl 0 rfl) ?_
      obtain ⟨x9, ex9, h⟩ := o_b h
      refine call_vV (As := [.int x1, .int (2 : Int32), .int (x7 + x2)]) (rest := []) (ws2 := [(a0, .inr (9, [.int th, .ref a1, .ref a2, .ref a3, .int sm, .ref a4, .int ln, .int nx, .int cd, .int dg, .int pw, .long hs])), (a1, .inl (cI, 378, .inl x9)), (a2, .inl (cI, 378, .inl asd)), (a3, .inl (cI, 1512, .inl sv)), (a4, .inl (cI, 120, .inl mt))]) ⟨hx, hb, hml, hown, hts⟩ (cX6_set_ok l G cI cG a0 a1 a2 a3 a4 th sa asd sv sm mt ln nx cd dg pw hs x1 (2 : Int32) (x7 + x2) x9 ex9) (cwV 3 hts gX6_happen_X6_set rfl rfl rfl hdX6_set ⟨Nat.le_of_ble_eq_true rfl, Nat.le_of_ble_eq_true rfl⟩) hP hD hS hA hK 9 rfl rfl rfl [0, 1, 2, 3, 4] rfl rfl rfl rfl rfl rfl rfl rfl hl.1 (Nat.le_of_ble_eq_true rfl) dX6_happen_93 ⟨Nat.zero_le _, Nat.zero_le _⟩ (fun H locs hP hD hS => ?_)
      refine lv_goto (tgt := 132) hx hb dX6_happen_96 (by decide) ?_
      obtain rfl := o_s h
      rw [hQ]
      exact end_v hx hb hr hP hD hS dX6_happen_132 hlocks
    · have h := o_f h hc
      refine lv_aload_n hx hb dX6_happen_82 rfl (lv_at hl 3 rfl) ?_
      refine lv_iload_n hx hb dX6_happen_83 rfl (lv_at hl 2 rfl) ?_
      refine lv_iconst (v := 1) hx hb dX6_happen_84 (by decide) ?_
      obtain ⟨x10, ex10, h⟩ := o_b h
      refine call_iV (As := [.int x1, .int (1 : Int32)]) (rest := [.int (2 : Int32), .int x1, .ref a0]) (ws2 := [(a0, .inr (9, [.int th, .ref a1, .ref a2, .ref a3, .int sm, .ref a4, .int ln, .int nx, .int cd, .int dg, .int pw, .long hs])), (a1, .inl (cI, 378, .inl sa)), (a2, .inl (cI, 378, .inl asd)), (a3, .inl (cI, 1512, .inl sv)), (a4, .inl (cI, 120, .inl mt))]) ⟨hx, hb, hml, hown, hts⟩ (cX6_of_ok l G cI cG a0 a1 a2 a3 a4 th sa asd sv sm mt ln nx cd dg pw hs x1 (1 : Int32) x10 ex10) (cwV 2 hts gX6_happen_X6_of rfl rfl rfl hdX6_of ⟨Nat.le_of_ble_eq_true rfl, Nat.le_of_ble_eq_true rfl⟩) hP hD hS hA hK 9 rfl rfl rfl [0, 1, 2, 3, 4] rfl rfl rfl rfl rfl rfl rfl rfl hl.1 (Nat.le_of_ble_eq_true rfl) dX6_happen_85 ⟨Nat.zero_le _, Nat.zero_le _⟩ (fun H locs hP hD hS => ?_)
      refine lv_goto (tgt := 93) hx hb dX6_happen_88 (by decide) ?_
      obtain ⟨x11, ex11, h⟩ := o_b h
      refine call_vV (As := [.int x1, .int (2 : Int32), .int x10]) (rest := []) (ws2 := [(a0, .inr (9, [.int th, .ref a1, .ref a2, .ref a3, .int sm, .ref a4, .int ln, .int nx, .int cd, .int dg, .int pw, .long hs])), (a1, .inl (cI, 378, .inl x11)), (a2, .inl (cI, 378, .inl asd)), (a3, .inl (cI, 1512, .inl sv)), (a4, .inl (cI, 120, .inl mt))]) ⟨hx, hb, hml, hown, hts⟩ (cX6_set_ok l G cI cG a0 a1 a2 a3 a4 th sa asd sv sm mt ln nx cd dg pw hs x1 (2 : Int32) x10 x11 ex11) (cwV 3 hts gX6_happen_X6_set rfl rfl rfl hdX6_set ⟨Nat.le_of_ble_eq_true rfl, Nat.le_of_ble_eq_true rfl⟩) hP hD hS hA hK 9 rfl rfl rfl [0, 1, 2, 3, 4] rfl rfl rfl rfl rfl rfl rfl rfl hl.1 (Nat.le_of_ble_eq_true rfl) dX6_happen_93 ⟨Nat.zero_le _, Nat.zero_le _⟩ (fun H locs hP hD hS => ?_)
      refine lv_goto (tgt := 132) hx hb dX6_happen_96 (by decide) ?_
      obtain rfl := o_s h
      rw [hQ]
      exact end_v hx hb hr hP hD hS dX6_happen_132 hlocks
  have h := o_f h c6
  by_cases c12 : x3 = 2
  · have h := o_t h c12
    refine lv_tableIn (off := 79) (tgt := 99) hx hb dX6_happen_20 (by rw [c12]; decide) (by rw [c12]; decide) (by rw [c12]; rfl) (by decide) ?_
    refine lv_aload_n hx hb dX6_happen_99 rfl (lv_at hl 2 rfl) ?_
    refine lv_iload_n hx hb dX6_happen_100 rfl (lv_at hl 3 rfl) ?_
    obtain ⟨x13, ex13, h⟩ := o_b h
    refine call_vV (As := [.int p1]) (rest := []) (ws2 := [(a0, .inr (9, [.int th, .ref a1, .ref a2, .ref a3, .int sm, .ref a4, .int ln, .int nx, .int cd, .int dg, .int pw, .long hs])), (a1, .inl (cI, 378, .inl x13)), (a2, .inl (cI, 378, .inl asd)), (a3, .inl (cI, 1512, .inl sv)), (a4, .inl (cI, 120, .inl mt))]) ⟨hx, hb, hml, hown, hts⟩ (cX6_beginEffect_ok l G cI cG a0 a1 a2 a3 a4 fu th sa asd sv sm mt ln nx cd dg pw hs p1 x13 ex13) (cwV 1 hts gX6_happen_X6_beginEffect rfl rfl rfl hdX6_beginEffect ⟨Nat.le_of_ble_eq_true rfl, Nat.le_of_ble_eq_true rfl⟩) hP hD hS hA hK 9 rfl rfl rfl [0, 1, 2, 3, 4] rfl rfl rfl rfl rfl rfl rfl rfl hl.1 (Nat.le_of_ble_eq_true rfl) dX6_happen_101 ⟨Nat.zero_le _, Nat.zero_le _⟩ (fun H locs hP hD hS => ?_)
    refine lv_goto (tgt := 132) hx hb dX6_happen_104 (by decide) ?_
    obtain rfl := o_s h
    rw [hQ]
    exact end_v hx hb hr hP hD hS dX6_happen_132 hlocks
  have h := o_f h c12
  have kc4 := ne_ti c4 (z := 0) (by decide)
  have kc6 := ne_ti c6 (z := 1) (by decide)
  have kc12 := ne_ti c12 (z := 2) (by decide)
  refine lv_tableOut (tgt := 107) hx hb dX6_happen_20 (by omega) (by decide) ?_
  refine lv_aload_n hx hb dX6_happen_107 rfl (lv_at hl 2 rfl) ?_
  refine va_get (D := G) (ci := 9) (v := .ref a1) (C := RX6) (T := TX6) (N := 12) hx hb hts hin6 hown hK.1 hP 0 rfl rfl 1 (by decide) hw0 (fun _ h9 => h9) rfl dX6_happen_108 ?_
  refine lv_bipush (v := 8) hx hb dX6_happen_111 (by decide) ?_
  refine lv_dup2_11 hx hb dX6_happen_113 rfl rfl ?_
  obtain ⟨hin, h⟩ := o_g h
  refine va_iald hx hb hK.1 hP 1 0 rfl rfl hin dX6_happen_114 ?_
  refine lv_aload_n hx hb dX6_happen_115 rfl (lv_at hl 2 rfl) ?_
  refine va_get (D := G) (ci := 9) (v := .ref a1) (C := RX6) (T := TX6) (N := 12) hx hb hts hin6 hown hK.1 hP 0 rfl rfl 1 (by decide) hw0 (fun _ h9 => h9) rfl dX6_happen_116 ?_
  refine lv_bipush (v := 8) hx hb dX6_happen_119 (by decide) ?_
  obtain ⟨hin, h⟩ := o_g h
  refine va_iald hx hb hK.1 hP 1 0 rfl rfl hin dX6_happen_121 ?_
  refine lv_if_le (tgt := 129) hx hb dX6_happen_122 (by decide) (fun hc => ?_) (fun hc => ?_)
  · have h := o_t h hc
    refine lv_iconst (v := 0) hx hb dX6_happen_129 (by decide) ?_
    refine lv_isub hx hb dX6_happen_130 ?_
    obtain ⟨hin, h⟩ := o_g h
    refine va_iast hx hb hK.1 hP hD hS 1 0 rfl rfl hin dX6_happen_131 (fun H locs hP hD hS => ?_)
    have hP : va_P G vwCl [(a0, .inr (9, [.int th, .ref a1, .ref a2, .ref a3, .int sm, .ref a4, .int ln, .int nx, .int cd, .int dg, .int pw, .long hs])), (a1, .inl (cI, 378, .inl (upd sa ((8 : Int32)).toNatClampNeg ((sa ((8 : Int32)).toNatClampNeg) - (0 : Int32))))), (a2, .inl (cI, 378, .inl asd)), (a3, .inl (cI, 1512, .inl sv)), (a4, .inl (cI, 120, .inl mt))] H := hP
    have hD : va_D A [(a0, .inr (9, [.int th, .ref a1, .ref a2, .ref a3, .int sm, .ref a4, .int ln, .int nx, .int cd, .int dg, .int pw, .long hs])), (a1, .inl (cI, 378, .inl (upd sa ((8 : Int32)).toNatClampNeg ((sa ((8 : Int32)).toNatClampNeg) - (0 : Int32))))), (a2, .inl (cI, 378, .inl asd)), (a3, .inl (cI, 1512, .inl sv)), (a4, .inl (cI, 120, .inl mt))] := hD
    obtain rfl := o_s h
    rw [hQ]
    exact end_v hx hb hr hP hD hS dX6_happen_132 hlocks
  · have h := o_f h hc
    refine lv_iconst (v := 1) hx hb dX6_happen_125 (by decide) ?_
    refine lv_goto (tgt := 130) hx hb dX6_happen_126 (by decide) ?_
    refine lv_isub hx hb dX6_happen_130 ?_
    obtain ⟨hin, h⟩ := o_g h
    refine va_iast hx hb hK.1 hP hD hS 1 0 rfl rfl hin dX6_happen_131 (fun H locs hP hD hS => ?_)
    have hP : va_P G vwCl [(a0, .inr (9, [.int th, .ref a1, .ref a2, .ref a3, .int sm, .ref a4, .int ln, .int nx, .int cd, .int dg, .int pw, .long hs])), (a1, .inl (cI, 378, .inl (upd sa ((8 : Int32)).toNatClampNeg ((sa ((8 : Int32)).toNatClampNeg) - (1 : Int32))))), (a2, .inl (cI, 378, .inl asd)), (a3, .inl (cI, 1512, .inl sv)), (a4, .inl (cI, 120, .inl mt))] H := hP
    have hD : va_D A [(a0, .inr (9, [.int th, .ref a1, .ref a2, .ref a3, .int sm, .ref a4, .int ln, .int nx, .int cd, .int dg, .int pw, .long hs])), (a1, .inl (cI, 378, .inl (upd sa ((8 : Int32)).toNatClampNeg ((sa ((8 : Int32)).toNatClampNeg) - (1 : Int32))))), (a2, .inl (cI, 378, .inl asd)), (a3, .inl (cI, 1512, .inl sv)), (a4, .inl (cI, 120, .inl mt))] := hD
    obtain rfl := o_s h
    rw [hQ]
    exact end_v hx hb hr hP hD hS dX6_happen_132 hlocks
theorem hdX6_settles : yX6_settles.cls = RX6 ∧ yX6_settles.cls ≠ "java/lang/invoke/MethodHandle" ∧ yX6_settles.cls ≠ "java/lang/invoke/VarHandle" ∧ (parseMethodDescriptor yX6_settles.desc).map (fun d => d.parameters.length) = some 0 := by decide +kernel
set_option maxHeartbeats 4000000 in
set_option maxRecDepth 100000 in
theorem cX6_settles_ok (l : Launch) (G : va_G) (cI cG : ClassId) (a0 a1 a2 a3 a4 : Nat) (fu : Nat) (th : Int32) (sa : (Nat → Int32)) (asd : (Nat → Int32)) (sv : (Nat → Int32)) (sm : Int32) (mt : (Nat → Int32)) (ln : Int32) (nx : Int32) (cd : Int32) (dg : Int32) (pw : Int32) (hs : Int64) (out : Int32 × (Nat → Int32)) (hf : fX6_settles fu sa = some out) : CI l G (tyz cI cG) yX6_settles wsX6_settles ({ frames := 5, cells := 0, slots := 0, locals := 115 } : Room) [.ref a0] [(a0, .inr (9, [.int th, .ref a1, .ref a2, .ref a3, .int sm, .ref a4, .int ln, .int nx, .int cd, .int dg, .int pw, .long hs])), (a1, .inl (cI, 378, .inl sa)), (a2, .inl (cI, 378, .inl asd)), (a3, .inl (cI, 1512, .inl sv)), (a4, .inl (cI, 120, .inl mt))] out.1 [(a0, .inr (9, [.int th, .ref a1, .ref a2, .ref a3, .int sm, .ref a4, .int ln, .int nx, .int cd, .int dg, .int pw, .long hs])), (a1, .inl (cI, 378, .inl out.2)), (a2, .inl (cI, 378, .inl asd)), (a3, .inl (cI, 1512, .inl sv)), (a4, .inl (cI, 120, .inl mt))] := by
  intro sz
  refine Met.ofW (cc := cX6_settles) (maxL := 3) (ret := (some .int)) (by decide) rfl ?_
  intro p e s m args below meth c s₁ B hml hv
  obtain ⟨rfl, hsz, hP, hK, hD0⟩ := hv
  have hx := B.exec
  have hb := B.bytes
  have hr := B.returns
  have hts := atoms_spec (ws := wsX6_settles) B.pre
  have hown : s.vm.findClass RX6 = some m.cls := findClass_of_methodNamed B.named
  have hlocks := B.notSynchronized
  subst hsz
  have hD := hD0.self (sz := s.heap.size)
  generalize hAe : va_A [(a0, .inr (9, [.int th, .ref a1, .ref a2, .ref a3, .int sm, .ref a4, .int ln, .int nx, .int cd, .int dg, .int pw, .long hs])), (a1, .inl (cI, 378, .inl sa)), (a2, .inl (cI, 378, .inl asd)), (a3, .inl (cI, 1512, .inl sv)), (a4, .inl (cI, 120, .inl mt))] s.heap.size = A at hD ⊢
  have hA : ∀ q : Nat, s.heap.size ≤ q → A q := fun q h => by rw [← hAe]; exact Or.inr h
  have hS : va_S A s.heap s.heap [] := va_S.rf
  have hw0 := hts (.fieldLink RX6 7 "SpeedTurnsModel" "s" "[I") (List.mem_of_getElem? (i := 1) rfl)
  have hin6 : ∀ w ∈ u_ws RX6 TX6 12, w ∈ wsX6_settles := by decide +kernel
  show W p l e ({ frames := 5, cells := 0, slots := 0, locals := 115 } : Room) s m _ below meth c s.heap [] 0 0 _ _
  refine W_genQ (fun Q hQ => ?_)
  have L2 : ∀ (k : Nat) (sa : (Nat → Int32)) (v1 : Int32) (H : Heap) (locs : List Loc) (ls : Array Slot), fX6_settles_L2 fu  k sa v1 = some out → va_P G vwCl [(a0, .inr (9, [.int th, .ref a1, .ref a2, .ref a3, .int sm, .ref a4, .int ln, .int nx, .int cd, .int dg, .int pw, .long hs])), (a1, .inl (cI, 378, .inl sa)), (a2, .inl (cI, 378, .inl asd)), (a3, .inl (cI, 1512, .inl sv)), (a4, .inl (cI, 120, .inl mt))] H → va_D A [(a0, .inr (9, [.int th, .ref a1, .ref a2, .ref a3, .int sm, .ref a4, .int ln, .int nx, .int cd, .int dg, .int pw, .long hs])), (a1, .inl (cI, 378, .inl sa)), (a2, .inl (cI, 378, .inl asd)), (a3, .inl (cI, 1512, .inl sv)), (a4, .inl (cI, 120, .inl mt))] → va_S A s.heap H locs → lv_has ls 3 [(0, .ref a0), (1, .int v1)] → W p l e ({ frames := 5, cells := 0, slots := 0, locals := 115 } : Room) s m ([.ref a0] : List Value).toArray below meth c H locs 0 0 Q (F0 m 2 ls []) := by
    intro k
    induction k with
    | zero => intro sa v1 H locs ls h hP hD hS hl; rw [fX6_settles_L2] at h; exact o_n h
    | succ k ih =>
      intro sa v1 H locs ls h hP hD hS hl
      rw [fX6_settles_L2] at h
      refine lv_aload_n hx hb dX6_settles_2 rfl (lv_at hl 0 rfl) ?_
      refine va_get (D := G) (ci := 9) (v := .ref a1) (C := RX6) (T := TX6) (N := 12) hx hb hts hin6 hown hK.1 hP 0 rfl rfl 1 (by decide) hw0 (fun _ h9 => h9) rfl dX6_settles_3 ?_
      refine lv_bipush (v := 8) hx hb dX6_settles_6 (by decide) ?_
      obtain ⟨hin, h⟩ := o_g h
      refine va_iald hx hb hK.1 hP 1 0 rfl rfl hin dX6_settles_8 ?_
      refine lv_if_le (tgt := 78) hx hb dX6_settles_9 (by decide) (fun hc => ?_) (fun hc => ?_)
      · have h := o_t h hc
        refine lv_aload_n hx hb dX6_settles_78 rfl (lv_at hl 0 rfl) ?_
        refine va_get (D := G) (ci := 9) (v := .ref a1) (C := RX6) (T := TX6) (N := 12) hx hb hts hin6 hown hK.1 hP 0 rfl rfl 1 (by decide) hw0 (fun _ h9 => h9) rfl dX6_settles_79 ?_
        refine lv_iconst (v := 4) hx hb dX6_settles_82 (by decide) ?_
        obtain ⟨hin, h⟩ := o_g h
        refine va_iald hx hb hK.1 hP 1 0 rfl rfl hin dX6_settles_83 ?_
        refine lv_iconst (v := (-1)) hx hb dX6_settles_84 (by decide) ?_
        refine lv_icmp_eq (tgt := 108) hx hb dX6_settles_85 (by decide) (fun hc => ?_) (fun hc => ?_)
        · have h := o_t h hc
          refine lv_iload_n hx hb dX6_settles_108 rfl (lv_at hl 1 rfl) ?_
          obtain rfl := o_s h
          rw [hQ]
          exact end_i hx hb hr rfl hP hD hS dX6_settles_109 hlocks
        · have h := o_f h hc
          refine lv_aload_n hx hb dX6_settles_88 rfl (lv_at hl 0 rfl) ?_
          refine lv_aload_n hx hb dX6_settles_89 rfl (lv_at hl 0 rfl) ?_
          refine va_get (D := G) (ci := 9) (v := .ref a1) (C := RX6) (T := TX6) (N := 12) hx hb hts hin6 hown hK.1 hP 0 rfl rfl 1 (by decide) hw0 (fun _ h9 => h9) rfl dX6_settles_90 ?_
          refine lv_iconst (v := 4) hx hb dX6_settles_93 (by decide) ?_
          obtain ⟨hin, h⟩ := o_g h
          refine va_iald hx hb hK.1 hP 1 0 rfl rfl hin dX6_settles_94 ?_
          obtain ⟨x1, ex1, h⟩ := o_b h
          refine call_iV (As := [.int (sa ((4 : Int32)).toNatClampNeg)]) (rest := []) (ws2 := [(a0, .inr (9, [.int th, .ref a1, .ref a2, .ref a3, .int sm, .ref a4, .int ln, .int nx, .int cd, .int dg, .int pw, .long hs])), (a1, .inl (cI, 378, .inl sa)), (a2, .inl (cI, 378, .inl asd)), (a3, .inl (cI, 1512, .inl sv)), (a4, .inl (cI, 120, .inl mt))]) ⟨hx, hb, hml, hown, hts⟩ (cX6_stands_ok l G cI cG a0 a1 a2 a3 a4 th sa asd sv sm mt ln nx cd dg pw hs (sa ((4 : Int32)).toNatClampNeg) x1 ex1) (cwV 1 hts gX6_settles_X6_stands rfl rfl rfl hdX6_stands ⟨Nat.le_of_ble_eq_true rfl, Nat.le_of_ble_eq_true rfl⟩) hP hD hS hA hK 9 rfl rfl rfl [0, 1, 2, 3, 4] rfl rfl rfl rfl rfl rfl rfl rfl hl.1 (Nat.le_of_ble_eq_true rfl) dX6_settles_95 ⟨Nat.zero_le _, Nat.zero_le _⟩ (fun H locs hP hD hS => ?_)
          refine lv_if_ne (tgt := 108) hx hb dX6_settles_98 (by decide) (fun hc => ?_) (fun hc => ?_)
          · have h := o_f h hc
            refine lv_iload_n hx hb dX6_settles_108 rfl (lv_at hl 1 rfl) ?_
            obtain rfl := o_s h
            rw [hQ]
            exact end_i hx hb hr rfl hP hD hS dX6_settles_109 hlocks
          · have h := o_t h hc
            refine lv_aload_n hx hb dX6_settles_101 rfl (lv_at hl 0 rfl) ?_
            refine va_get (D := G) (ci := 9) (v := .ref a1) (C := RX6) (T := TX6) (N := 12) hx hb hts hin6 hown hK.1 hP 0 rfl rfl 1 (by decide) hw0 (fun _ h9 => h9) rfl dX6_settles_102 ?_
            refine lv_iconst (v := 4) hx hb dX6_settles_105 (by decide) ?_
            refine lv_iconst (v := (-1)) hx hb dX6_settles_106 (by decide) ?_
            obtain ⟨hin, h⟩ := o_g h
            refine va_iast hx hb hK.1 hP hD hS 1 0 rfl rfl hin dX6_settles_107 (fun H locs hP hD hS => ?_)
            have hP : va_P G vwCl [(a0, .inr (9, [.int th, .ref a1, .ref a2, .ref a3, .int sm, .ref a4, .int ln, .int nx, .int cd, .int dg, .int pw, .long hs])), (a1, .inl (cI, 378, .inl (upd sa ((4 : Int32)).toNatClampNeg (-1 : Int32)))), (a2, .inl (cI, 378, .inl asd)), (a3, .inl (cI, 1512, .inl sv)), (a4, .inl (cI, 120, .inl mt))] H := hP
            have hD : va_D A [(a0, .inr (9, [.int th, .ref a1, .ref a2, .ref a3, .int sm, .ref a4, .int ln, .int nx, .int cd, .int dg, .int pw, .long hs])), (a1, .inl (cI, 378, .inl (upd sa ((4 : Int32)).toNatClampNeg (-1 : Int32)))), (a2, .inl (cI, 378, .inl asd)), (a3, .inl (cI, 1512, .inl sv)), (a4, .inl (cI, 120, .inl mt))] := hD
            refine lv_iload_n hx hb dX6_settles_108 rfl (lv_at hl 1 rfl) ?_
            obtain rfl := o_s h
            rw [hQ]
            exact end_i hx hb hr rfl hP hD hS dX6_settles_109 hlocks
      · have h := o_f h hc
        refine lv_aload_n hx hb dX6_settles_12 rfl (lv_at hl 0 rfl) ?_
        refine va_get (D := G) (ci := 9) (v := .ref a1) (C := RX6) (T := TX6) (N := 12) hx hb hts hin6 hown hK.1 hP 0 rfl rfl 1 (by decide) hw0 (fun _ h9 => h9) rfl dX6_settles_13 ?_
        refine lv_bipush (v := 8) hx hb dX6_settles_16 (by decide) ?_
        refine lv_dup2_11 hx hb dX6_settles_18 rfl rfl ?_
        obtain ⟨hin, h⟩ := o_g h
        refine va_iald hx hb hK.1 hP 1 0 rfl rfl hin dX6_settles_19 ?_
        refine lv_iconst (v := 1) hx hb dX6_settles_20 (by decide) ?_
        refine lv_isub hx hb dX6_settles_21 ?_
        obtain ⟨hin, h⟩ := o_g h
        refine va_iast hx hb hK.1 hP hD hS 1 0 rfl rfl hin dX6_settles_22 (fun H locs hP hD hS => ?_)
        have hP : va_P G vwCl [(a0, .inr (9, [.int th, .ref a1, .ref a2, .ref a3, .int sm, .ref a4, .int ln, .int nx, .int cd, .int dg, .int pw, .long hs])), (a1, .inl (cI, 378, .inl (upd sa ((8 : Int32)).toNatClampNeg ((sa ((8 : Int32)).toNatClampNeg) - (1 : Int32))))), (a2, .inl (cI, 378, .inl asd)), (a3, .inl (cI, 1512, .inl sv)), (a4, .inl (cI, 120, .inl mt))] H := hP
        have hD : va_D A [(a0, .inr (9, [.int th, .ref a1, .ref a2, .ref a3, .int sm, .ref a4, .int ln, .int nx, .int cd, .int dg, .int pw, .long hs])), (a1, .inl (cI, 378, .inl (upd sa ((8 : Int32)).toNatClampNeg ((sa ((8 : Int32)).toNatClampNeg) - (1 : Int32))))), (a2, .inl (cI, 378, .inl asd)), (a3, .inl (cI, 1512, .inl sv)), (a4, .inl (cI, 120, .inl mt))] := hD
        refine lv_aload_n hx hb dX6_settles_23 rfl (lv_at hl 0 rfl) ?_
        refine va_get (D := G) (ci := 9) (v := .ref a1) (C := RX6) (T := TX6) (N := 12) hx hb hts hin6 hown hK.1 hP 0 rfl rfl 1 (by decide) hw0 (fun _ h9 => h9) rfl dX6_settles_24 ?_
        refine lv_bipush (v := 8) hx hb dX6_settles_27 (by decide) ?_
        obtain ⟨hin, h⟩ := o_g h
        refine va_iald hx hb hK.1 hP 1 0 rfl rfl hin dX6_settles_29 ?_
        refine lv_istore_n (lv' := [(2, .int ((upd sa ((8 : Int32)).toNatClampNeg ((sa ((8 : Int32)).toNatClampNeg) - (1 : Int32))) ((8 : Int32)).toNatClampNeg)), (0, .ref a0), (1, .int v1)]) hx hb dX6_settles_30 rfl hl (by decide) rfl (fun ls hl => ?_)
        refine lv_aload_n hx hb dX6_settles_31 rfl (lv_at hl 1 rfl) ?_
        refine lv_aload_n hx hb dX6_settles_32 rfl (lv_at hl 1 rfl) ?_
        refine lv_iload_n hx hb dX6_settles_33 rfl (lv_at hl 0 rfl) ?_
        refine lv_iconst (v := 1) hx hb dX6_settles_34 (by decide) ?_
        obtain ⟨x2, ex2, h⟩ := o_b h
        refine call_iV (As := [.int ((upd sa ((8 : Int32)).toNatClampNeg ((sa ((8 : Int32)).toNatClampNeg) - (1 : Int32))) ((8 : Int32)).toNatClampNeg), .int (1 : Int32)]) (rest := [.ref a0]) (ws2 := [(a0, .inr (9, [.int th, .ref a1, .ref a2, .ref a3, .int sm, .ref a4, .int ln, .int nx, .int cd, .int dg, .int pw, .long hs])), (a1, .inl (cI, 378, .inl (upd sa ((8 : Int32)).toNatClampNeg ((sa ((8 : Int32)).toNatClampNeg) - (1 : Int32))))), (a2, .inl (cI, 378, .inl asd)), (a3, .inl (cI, 1512, .inl sv)), (a4, .inl (cI, 120, .inl mt))]) ⟨hx, hb, hml, hown, hts⟩ (cX6_ofAct_ok l G cI cG a0 a1 a2 a3 a4 th (upd sa ((8 : Int32)).toNatClampNeg ((sa ((8 : Int32)).toNatClampNeg) - (1 : Int32))) asd sv sm mt ln nx cd dg pw hs ((upd sa ((8 : Int32)).toNatClampNeg ((sa ((8 : Int32)).toNatClampNeg) - (1 : Int32))) ((8 : Int32)).toNatClampNeg) (1 : Int32) x2 ex2) (cwV 2 hts gX6_settles_X6_ofAct rfl rfl rfl hdX6_ofAct ⟨Nat.le_of_ble_eq_true rfl, Nat.le_of_ble_eq_true rfl⟩) hP hD hS hA hK 9 rfl rfl rfl [0, 1, 2, 3, 4] rfl rfl rfl rfl rfl rfl rfl rfl hl.1 (Nat.le_of_ble_eq_true rfl) dX6_settles_35 ⟨Nat.zero_le _, Nat.zero_le _⟩ (fun H locs hP hD hS => ?_)
        obtain ⟨x3, ex3, h⟩ := o_b h
        refine call_iV (As := [.int x2]) (rest := []) (ws2 := [(a0, .inr (9, [.int th, .ref a1, .ref a2, .ref a3, .int sm, .ref a4, .int ln, .int nx, .int cd, .int dg, .int pw, .long hs])), (a1, .inl (cI, 378, .inl (upd sa ((8 : Int32)).toNatClampNeg ((sa ((8 : Int32)).toNatClampNeg) - (1 : Int32))))), (a2, .inl (cI, 378, .inl asd)), (a3, .inl (cI, 1512, .inl sv)), (a4, .inl (cI, 120, .inl mt))]) ⟨hx, hb, hml, hown, hts⟩ (cX6_stands_ok l G cI cG a0 a1 a2 a3 a4 th (upd sa ((8 : Int32)).toNatClampNeg ((sa ((8 : Int32)).toNatClampNeg) - (1 : Int32))) asd sv sm mt ln nx cd dg pw hs x2 x3 ex3) (cwV 1 hts gX6_settles_X6_stands rfl rfl rfl hdX6_stands ⟨Nat.le_of_ble_eq_true rfl, Nat.le_of_ble_eq_true rfl⟩) hP hD hS hA hK 9 rfl rfl rfl [0, 1, 2, 3, 4] rfl rfl rfl rfl rfl rfl rfl rfl hl.1 (Nat.le_of_ble_eq_true rfl) dX6_settles_38 ⟨Nat.zero_le _, Nat.zero_le _⟩ (fun H locs hP hD hS => ?_)
        refine lv_if_eq (tgt := 75) hx hb dX6_settles_41 (by decide) (fun hc => ?_) (fun hc => ?_)
        · have h := o_t h hc
          refine lv_goto (tgt := 2) hx hb dX6_settles_75 (by decide) ?_
          exact ih (upd sa ((8 : Int32)).toNatClampNeg ((sa ((8 : Int32)).toNatClampNeg) - (1 : Int32))) v1 _ _ _ h hP hD hS (lv_sub hl [1, 2] rfl)
        · have h := o_f h hc
          refine lv_aload_n hx hb dX6_settles_44 rfl (lv_at hl 1 rfl) ?_
          refine lv_iload_n hx hb dX6_settles_45 rfl (lv_at hl 0 rfl) ?_
          refine lv_iconst (v := 0) hx hb dX6_settles_46 (by decide) ?_
          obtain ⟨x4, ex4, h⟩ := o_b h
          refine call_iV (As := [.int ((upd sa ((8 : Int32)).toNatClampNeg ((sa ((8 : Int32)).toNatClampNeg) - (1 : Int32))) ((8 : Int32)).toNatClampNeg), .int (0 : Int32)]) (rest := []) (ws2 := [(a0, .inr (9, [.int th, .ref a1, .ref a2, .ref a3, .int sm, .ref a4, .int ln, .int nx, .int cd, .int dg, .int pw, .long hs])), (a1, .inl (cI, 378, .inl (upd sa ((8 : Int32)).toNatClampNeg ((sa ((8 : Int32)).toNatClampNeg) - (1 : Int32))))), (a2, .inl (cI, 378, .inl asd)), (a3, .inl (cI, 1512, .inl sv)), (a4, .inl (cI, 120, .inl mt))]) ⟨hx, hb, hml, hown, hts⟩ (cX6_ofAct_ok l G cI cG a0 a1 a2 a3 a4 th (upd sa ((8 : Int32)).toNatClampNeg ((sa ((8 : Int32)).toNatClampNeg) - (1 : Int32))) asd sv sm mt ln nx cd dg pw hs ((upd sa ((8 : Int32)).toNatClampNeg ((sa ((8 : Int32)).toNatClampNeg) - (1 : Int32))) ((8 : Int32)).toNatClampNeg) (0 : Int32) x4 ex4) (cwV 2 hts gX6_settles_X6_ofAct rfl rfl rfl hdX6_ofAct ⟨Nat.le_of_ble_eq_true rfl, Nat.le_of_ble_eq_true rfl⟩) hP hD hS hA hK 9 rfl rfl rfl [0, 1, 2, 3, 4] rfl rfl rfl rfl rfl rfl rfl rfl hl.1 (Nat.le_of_ble_eq_true rfl) dX6_settles_47 ⟨Nat.zero_le _, Nat.zero_le _⟩ (fun H locs hP hD hS => ?_)
          refine lv_iconst (v := 3) hx hb dX6_settles_50 (by decide) ?_
          refine lv_icmp_eq (tgt := 67) hx hb dX6_settles_51 (by decide) (fun hc => ?_) (fun hc => ?_)
          · have h := o_t h hc
            refine lv_aload_n hx hb dX6_settles_67 rfl (lv_at hl 1 rfl) ?_
            refine lv_iload_n hx hb dX6_settles_68 rfl (lv_at hl 0 rfl) ?_
            obtain ⟨x5, ex5, h⟩ := o_b h
            refine call_vV (As := [.int ((upd sa ((8 : Int32)).toNatClampNeg ((sa ((8 : Int32)).toNatClampNeg) - (1 : Int32))) ((8 : Int32)).toNatClampNeg)]) (rest := []) (ws2 := [(a0, .inr (9, [.int th, .ref a1, .ref a2, .ref a3, .int sm, .ref a4, .int ln, .int nx, .int cd, .int dg, .int pw, .long hs])), (a1, .inl (cI, 378, .inl x5)), (a2, .inl (cI, 378, .inl asd)), (a3, .inl (cI, 1512, .inl sv)), (a4, .inl (cI, 120, .inl mt))]) ⟨hx, hb, hml, hown, hts⟩ (cX6_happen_ok l G cI cG a0 a1 a2 a3 a4 fu th (upd sa ((8 : Int32)).toNatClampNeg ((sa ((8 : Int32)).toNatClampNeg) - (1 : Int32))) asd sv sm mt ln nx cd dg pw hs ((upd sa ((8 : Int32)).toNatClampNeg ((sa ((8 : Int32)).toNatClampNeg) - (1 : Int32))) ((8 : Int32)).toNatClampNeg) x5 ex5) (cwV 1 hts gX6_settles_X6_happen rfl rfl rfl hdX6_happen ⟨Nat.le_of_ble_eq_true rfl, Nat.le_of_ble_eq_true rfl⟩) hP hD hS hA hK 9 rfl rfl rfl [0, 1, 2, 3, 4] rfl rfl rfl rfl rfl rfl rfl rfl hl.1 (Nat.le_of_ble_eq_true rfl) dX6_settles_69 ⟨Nat.zero_le _, Nat.zero_le _⟩ (fun H locs hP hD hS => ?_)
            refine lv_iinc (v := (v1 + 1)) (lv' := [(1, .int (v1 + 1)), (2, .int ((upd sa ((8 : Int32)).toNatClampNeg ((sa ((8 : Int32)).toNatClampNeg) - (1 : Int32))) ((8 : Int32)).toNatClampNeg)), (0, .ref a0)]) hx hb dX6_settles_72 hl (k := 2) rfl rfl (by decide) rfl (fun ls hl => ?_)
            refine lv_goto (tgt := 2) hx hb dX6_settles_75 (by decide) ?_
            exact ih x5 (v1 + 1) _ _ _ h hP hD hS (lv_sub hl [2, 0] rfl)
          · have h := o_f h hc
            refine lv_aload_n hx hb dX6_settles_54 rfl (lv_at hl 1 rfl) ?_
            refine lv_aload_n hx hb dX6_settles_55 rfl (lv_at hl 1 rfl) ?_
            refine lv_iload_n hx hb dX6_settles_56 rfl (lv_at hl 0 rfl) ?_
            refine lv_iconst (v := 2) hx hb dX6_settles_57 (by decide) ?_
            obtain ⟨x6, ex6, h⟩ := o_b h
            refine call_iV (As := [.int ((upd sa ((8 : Int32)).toNatClampNeg ((sa ((8 : Int32)).toNatClampNeg) - (1 : Int32))) ((8 : Int32)).toNatClampNeg), .int (2 : Int32)]) (rest := [.ref a0]) (ws2 := [(a0, .inr (9, [.int th, .ref a1, .ref a2, .ref a3, .int sm, .ref a4, .int ln, .int nx, .int cd, .int dg, .int pw, .long hs])), (a1, .inl (cI, 378, .inl (upd sa ((8 : Int32)).toNatClampNeg ((sa ((8 : Int32)).toNatClampNeg) - (1 : Int32))))), (a2, .inl (cI, 378, .inl asd)), (a3, .inl (cI, 1512, .inl sv)), (a4, .inl (cI, 120, .inl mt))]) ⟨hx, hb, hml, hown, hts⟩ (cX6_ofAct_ok l G cI cG a0 a1 a2 a3 a4 th (upd sa ((8 : Int32)).toNatClampNeg ((sa ((8 : Int32)).toNatClampNeg) - (1 : Int32))) asd sv sm mt ln nx cd dg pw hs ((upd sa ((8 : Int32)).toNatClampNeg ((sa ((8 : Int32)).toNatClampNeg) - (1 : Int32))) ((8 : Int32)).toNatClampNeg) (2 : Int32) x6 ex6) (cwV 2 hts gX6_settles_X6_ofAct rfl rfl rfl hdX6_ofAct ⟨Nat.le_of_ble_eq_true rfl, Nat.le_of_ble_eq_true rfl⟩) hP hD hS hA hK 9 rfl rfl rfl [0, 1, 2, 3, 4] rfl rfl rfl rfl rfl rfl rfl rfl hl.1 (Nat.le_of_ble_eq_true rfl) dX6_settles_58 ⟨Nat.zero_le _, Nat.zero_le _⟩ (fun H locs hP hD hS => ?_)
            obtain ⟨x7, ex7, h⟩ := o_b h
            refine call_iV (As := [.int x6]) (rest := []) (ws2 := [(a0, .inr (9, [.int th, .ref a1, .ref a2, .ref a3, .int sm, .ref a4, .int ln, .int nx, .int cd, .int dg, .int pw, .long hs])), (a1, .inl (cI, 378, .inl (upd sa ((8 : Int32)).toNatClampNeg ((sa ((8 : Int32)).toNatClampNeg) - (1 : Int32))))), (a2, .inl (cI, 378, .inl asd)), (a3, .inl (cI, 1512, .inl sv)), (a4, .inl (cI, 120, .inl mt))]) ⟨hx, hb, hml, hown, hts⟩ (cX6_stands_ok l G cI cG a0 a1 a2 a3 a4 th (upd sa ((8 : Int32)).toNatClampNeg ((sa ((8 : Int32)).toNatClampNeg) - (1 : Int32))) asd sv sm mt ln nx cd dg pw hs x6 x7 ex7) (cwV 1 hts gX6_settles_X6_stands rfl rfl rfl hdX6_stands ⟨Nat.le_of_ble_eq_true rfl, Nat.le_of_ble_eq_true rfl⟩) hP hD hS hA hK 9 rfl rfl rfl [0, 1, 2, 3, 4] rfl rfl rfl rfl rfl rfl rfl rfl hl.1 (Nat.le_of_ble_eq_true rfl) dX6_settles_61 ⟨Nat.zero_le _, Nat.zero_le _⟩ (fun H locs hP hD hS => ?_)
            refine lv_if_eq (tgt := 75) hx hb dX6_settles_64 (by decide) (fun hc => ?_) (fun hc => ?_)
            · have h := o_t h hc
              refine lv_goto (tgt := 2) hx hb dX6_settles_75 (by decide) ?_
              exact ih (upd sa ((8 : Int32)).toNatClampNeg ((sa ((8 : Int32)).toNatClampNeg) - (1 : Int32))) v1 _ _ _ h hP hD hS (lv_sub hl [1, 2] rfl)
            · have h := o_f h hc
              refine lv_aload_n hx hb dX6_settles_67 rfl (lv_at hl 1 rfl) ?_
              refine lv_iload_n hx hb dX6_settles_68 rfl (lv_at hl 0 rfl) ?_
              obtain ⟨x8, ex8, h⟩ := o_b h
              refine call_vV (As := [.int ((upd sa ((8 : Int32)).toNatClampNeg ((sa ((8 : Int32)).toNatClampNeg) - (1 : Int32))) ((8 : Int32)).toNatClampNeg)]) (rest := []) (ws2 := [(a0, .inr (9, [.int th, .ref a1, .ref a2, .ref a3, .int sm, .ref a4, .int ln, .int nx, .int cd, .int dg, .int pw, .long hs])), (a1, .inl (cI, 378, .inl x8)), (a2, .inl (cI, 378, .inl asd)), (a3, .inl (cI, 1512, .inl sv)), (a4, .inl (cI, 120, .inl mt))]) ⟨hx, hb, hml, hown, hts⟩ (cX6_happen_ok l G cI cG a0 a1 a2 a3 a4 fu th (upd sa ((8 : Int32)).toNatClampNeg ((sa ((8 : Int32)).toNatClampNeg) - (1 : Int32))) asd sv sm mt ln nx cd dg pw hs ((upd sa ((8 : Int32)).toNatClampNeg ((sa ((8 : Int32)).toNatClampNeg) - (1 : Int32))) ((8 : Int32)).toNatClampNeg) x8 ex8) (cwV 1 hts gX6_settles_X6_happen rfl rfl rfl hdX6_happen ⟨Nat.le_of_ble_eq_true rfl, Nat.le_of_ble_eq_true rfl⟩) hP hD hS hA hK 9 rfl rfl rfl [0, 1, 2, 3, 4] rfl rfl rfl rfl rfl rfl rfl rfl hl.1 (Nat.le_of_ble_eq_true rfl) dX6_settles_69 ⟨Nat.zero_le _, Nat.zero_le _⟩ (fun H locs hP hD hS => ?_)
              refine lv_iinc (v := (v1 + 1)) (lv' := [(1, .int (v1 + 1)), (2, .int ((upd sa ((8 : Int32)).toNatClampNeg ((sa ((8 : Int32)).toNatClampNeg) - (1 : Int32))) ((8 : Int32)).toNatClampNeg)), (0, .ref a0)]) hx hb dX6_settles_72 hl (k := 2) rfl rfl (by decide) rfl (fun ls hl => ?_)
              refine lv_goto (tgt := 2) hx hb dX6_settles_75 (by decide) ?_
              exact ih x8 (v1 + 1) _ _ _ h hP hD hS (lv_sub hl [2, 0] rfl)
  have h := hf
  rw [fX6_settles] at h
  have hl := lv_entry ([.ref a0]) (n := 3) (Nat.le_of_ble_eq_true rfl)
  rw [lg_entry_eq]
  generalize (lg_sl ([.ref a0]) ++ List.replicate (3 - (lg_sl ([.ref a0])).length) Slot.unset).toArray = ls at hl ⊢
  have hl : lv_has ls 3 [(0, .ref a0)] := hl
  refine lv_iconst (v := 0) hx hb dX6_settles_0 (by decide) ?_
  refine lv_istore_n (lv' := [(1, .int (0 : Int32)), (0, .ref a0)]) hx hb dX6_settles_1 rfl hl (by decide) rfl (fun ls hl => ?_)
  exact L2 fu sa (0 : Int32) _ _ _ h hP hD hS (lv_sub hl [1, 0] rfl)
theorem hdX6_add : yX6_add.cls = RX6 ∧ yX6_add.cls ≠ "java/lang/invoke/MethodHandle" ∧ yX6_add.cls ≠ "java/lang/invoke/VarHandle" ∧ (parseMethodDescriptor yX6_add.desc).map (fun d => d.parameters.length) = some 2 := by decide +kernel
set_option maxHeartbeats 4000000 in
set_option maxRecDepth 100000 in
theorem cX6_add_ok (l : Launch) (G : va_G) (cI cG : ClassId) (a0 a1 a2 a3 a4 : Nat) (fu : Nat) (th : Int32) (sa : (Nat → Int32)) (asd : (Nat → Int32)) (sv : (Nat → Int32)) (sm : Int32) (mt : (Nat → Int32)) (ln : Int32) (nx : Int32) (cd : Int32) (dg : Int32) (pw : Int32) (hs : Int64) (p1 : Int32) (p2 : Int32) (out : Int32 × Int32 × (Nat → Int32) × (Nat → Int32) × Int32) (hf : fX6_add fu th sa sv sm p1 p2 = some out) : CI l G (tyz cI cG) yX6_add wsX6_add ({ frames := 1, cells := 0, slots := 0, locals := 23 } : Room) [.ref a0, .int p1, .int p2] [(a0, .inr (9, [.int th, .ref a1, .ref a2, .ref a3, .int sm, .ref a4, .int ln, .int nx, .int cd, .int dg, .int pw, .long hs])), (a1, .inl (cI, 378, .inl sa)), (a2, .inl (cI, 378, .inl asd)), (a3, .inl (cI, 1512, .inl sv)), (a4, .inl (cI, 120, .inl mt))] out.1 [(a0, .inr (9, [.int out.2.1, .ref a1, .ref a2, .ref a3, .int out.2.2.2.2, .ref a4, .int ln, .int nx, .int cd, .int dg, .int pw, .long hs])), (a1, .inl (cI, 378, .inl out.2.2.1)), (a2, .inl (cI, 378, .inl asd)), (a3, .inl (cI, 1512, .inl out.2.2.2.1)), (a4, .inl (cI, 120, .inl mt))] := by
  intro sz
  refine Met.ofW (cc := cX6_add) (maxL := 4) (ret := (some .int)) (by decide) rfl ?_
  intro p e s m args below meth c s₁ B hml hv
  obtain ⟨rfl, hsz, hP, hK, hD0⟩ := hv
  have hx := B.exec
  have hb := B.bytes
  have hr := B.returns
  have hts := atoms_spec (ws := wsX6_add) B.pre
  have hown : s.vm.findClass RX6 = some m.cls := findClass_of_methodNamed B.named
  have hlocks := B.notSynchronized
  subst hsz
  have hD := hD0.self (sz := s.heap.size)
  generalize hAe : va_A [(a0, .inr (9, [.int th, .ref a1, .ref a2, .ref a3, .int sm, .ref a4, .int ln, .int nx, .int cd, .int dg, .int pw, .long hs])), (a1, .inl (cI, 378, .inl sa)), (a2, .inl (cI, 378, .inl asd)), (a3, .inl (cI, 1512, .inl sv)), (a4, .inl (cI, 120, .inl mt))] s.heap.size = A at hD ⊢
  have hA : ∀ q : Nat, s.heap.size ≤ q → A q := fun q h => by rw [← hAe]; exact Or.inr h
  have hS : va_S A s.heap s.heap [] := va_S.rf
  have hw0 := hts (.fieldLink RX6 22 "SpeedTurnsModel" "thrown" "I") (List.mem_of_getElem? (i := 1) rfl)
  have hin6 : ∀ w ∈ u_ws RX6 TX6 12, w ∈ wsX6_add := by decide +kernel
  have hw2 := hts (.fieldLink RX6 7 "SpeedTurnsModel" "s" "[I") (List.mem_of_getElem? (i := 2) rfl)
  show W p l e ({ frames := 1, cells := 0, slots := 0, locals := 23 } : Room) s m _ below meth c s.heap [] 0 0 _ _
  refine W_genQ (fun Q hQ => ?_)
  have h := hf
  rw [fX6_add] at h
  have hl := lv_entry ([.ref a0, .int p1, .int p2]) (n := 4) (Nat.le_of_ble_eq_true rfl)
  rw [lg_entry_eq]
  generalize (lg_sl ([.ref a0, .int p1, .int p2]) ++ List.replicate (4 - (lg_sl ([.ref a0, .int p1, .int p2])).length) Slot.unset).toArray = ls at hl ⊢
  have hl : lv_has ls 4 [(0, .ref a0), (1, .int p1), (2, .int p2)] := hl
  refine lv_aload_n hx hb dX6_add_0 rfl (lv_at hl 0 rfl) ?_
  refine lv_iconst (v := 0) hx hb dX6_add_1 (by decide) ?_
  refine va_put (D := G) (ci := 9) (v := .int (0 : Int32)) (ty := .int) (C := RX6) (T := TX6) (N := 12) hx hb hts hin6 tyX6 tyX6_ok nmX6 hown hK.1 hP hD hS 0 rfl rfl 0 (by decide) hw0 (fun _ h9 => h9) rfl (by decide +kernel) rfl rfl (Nat.le_of_ble_eq_true rfl) dX6_add_2 (fun H locs hP hD hS => ?_)
  have hP : va_P G vwCl [(a0, .inr (9, [.int (0 : Int32), .ref a1, .ref a2, .ref a3, .int sm, .ref a4, .int ln, .int nx, .int cd, .int dg, .int pw, .long hs])), (a1, .inl (cI, 378, .inl sa)), (a2, .inl (cI, 378, .inl asd)), (a3, .inl (cI, 1512, .inl sv)), (a4, .inl (cI, 120, .inl mt))] H := hP
  have hD : va_D A [(a0, .inr (9, [.int (0 : Int32), .ref a1, .ref a2, .ref a3, .int sm, .ref a4, .int ln, .int nx, .int cd, .int dg, .int pw, .long hs])), (a1, .inl (cI, 378, .inl sa)), (a2, .inl (cI, 378, .inl asd)), (a3, .inl (cI, 1512, .inl sv)), (a4, .inl (cI, 120, .inl mt))] := hD
  refine lv_iload_n hx hb dX6_add_5 rfl (lv_at hl 1 rfl) ?_
  refine lv_iconst (v := 1) hx hb dX6_add_6 (by decide) ?_
  refine lv_bipush (v := 30) hx hb dX6_add_7 (by decide) ?_
  obtain ⟨x1, ex1, h⟩ := o_b h
  refine call_iS (As := [.int p1, .int (1 : Int32), .int (30 : Int32)]) (rest := []) (ws2 := [(a0, .inr (9, [.int (0 : Int32), .ref a1, .ref a2, .ref a3, .int sm, .ref a4, .int ln, .int nx, .int cd, .int dg, .int pw, .long hs])), (a1, .inl (cI, 378, .inl sa)), (a2, .inl (cI, 378, .inl asd)), (a3, .inl (cI, 1512, .inl sv)), (a4, .inl (cI, 120, .inl mt))]) ⟨hx, hb, hml, hown, hts⟩ (cX6_in_ok l G cI cG p1 (1 : Int32) (30 : Int32) x1 ex1) (va_cwS 3 hts gX6_add_X6_in rfl rfl rfl hdX6_in ⟨Nat.le_of_ble_eq_true rfl, Nat.le_of_ble_eq_true rfl⟩) hP hD hS hA hK [] rfl rfl rfl rfl rfl rfl rfl rfl hl.1 (Nat.le_of_ble_eq_true rfl) dX6_add_9 ⟨Nat.zero_le _, Nat.zero_le _⟩ (fun H locs hP hD hS => ?_)
  refine lv_if_eq (tgt := 26) hx hb dX6_add_12 (by decide) (fun hc => ?_) (fun hc => ?_)
  · have h := o_t h hc
    refine lv_aload_n hx hb dX6_add_26 rfl (lv_at hl 0 rfl) ?_
    refine lv_iconst (v := 1) hx hb dX6_add_27 (by decide) ?_
    obtain ⟨x2, ex2, h⟩ := o_b h
    refine call_iV (As := [.int (1 : Int32)]) (rest := []) (ws2 := [(a0, .inr (9, [.int x2.2, .ref a1, .ref a2, .ref a3, .int sm, .ref a4, .int ln, .int nx, .int cd, .int dg, .int pw, .long hs])), (a1, .inl (cI, 378, .inl sa)), (a2, .inl (cI, 378, .inl asd)), (a3, .inl (cI, 1512, .inl sv)), (a4, .inl (cI, 120, .inl mt))]) ⟨hx, hb, hml, hown, hts⟩ (cX6_fails_ok l G cI cG a0 a1 a2 a3 a4 (0 : Int32) sa asd sv sm mt ln nx cd dg pw hs (1 : Int32) x2 ex2) (cwV 1 hts gX6_add_X6_fails rfl rfl rfl hdX6_fails ⟨Nat.le_of_ble_eq_true rfl, Nat.le_of_ble_eq_true rfl⟩) hP hD hS hA hK 9 rfl rfl rfl [0, 1, 2, 3, 4] rfl rfl rfl rfl rfl rfl rfl rfl hl.1 (Nat.le_of_ble_eq_true rfl) dX6_add_28 ⟨Nat.zero_le _, Nat.zero_le _⟩ (fun H locs hP hD hS => ?_)
    obtain rfl := o_s h
    rw [hQ]
    exact end_i hx hb hr rfl hP hD hS dX6_add_31 hlocks
  · have h := o_f h hc
    refine lv_iload_n hx hb dX6_add_15 rfl (lv_at hl 2 rfl) ?_
    refine lv_iconst (v := 1) hx hb dX6_add_16 (by decide) ?_
    refine lv_sipush (v := 200) hx hb dX6_add_17 (by decide) ?_
    obtain ⟨x3, ex3, h⟩ := o_b h
    refine call_iS (As := [.int p2, .int (1 : Int32), .int (200 : Int32)]) (rest := []) (ws2 := [(a0, .inr (9, [.int (0 : Int32), .ref a1, .ref a2, .ref a3, .int sm, .ref a4, .int ln, .int nx, .int cd, .int dg, .int pw, .long hs])), (a1, .inl (cI, 378, .inl sa)), (a2, .inl (cI, 378, .inl asd)), (a3, .inl (cI, 1512, .inl sv)), (a4, .inl (cI, 120, .inl mt))]) ⟨hx, hb, hml, hown, hts⟩ (cX6_in_ok l G cI cG p2 (1 : Int32) (200 : Int32) x3 ex3) (va_cwS 3 hts gX6_add_X6_in rfl rfl rfl hdX6_in ⟨Nat.le_of_ble_eq_true rfl, Nat.le_of_ble_eq_true rfl⟩) hP hD hS hA hK [] rfl rfl rfl rfl rfl rfl rfl rfl hl.1 (Nat.le_of_ble_eq_true rfl) dX6_add_20 ⟨Nat.zero_le _, Nat.zero_le _⟩ (fun H locs hP hD hS => ?_)
    refine lv_if_ne (tgt := 32) hx hb dX6_add_23 (by decide) (fun hc => ?_) (fun hc => ?_)
    · have h := o_f h hc
      refine lv_aload_n hx hb dX6_add_32 rfl (lv_at hl 0 rfl) ?_
      refine va_get (D := G) (ci := 9) (v := .ref a1) (C := RX6) (T := TX6) (N := 12) hx hb hts hin6 hown hK.1 hP 0 rfl rfl 1 (by decide) hw2 (fun _ h9 => h9) rfl dX6_add_33 ?_
      refine lv_iconst (v := 0) hx hb dX6_add_36 (by decide) ?_
      obtain ⟨hin, h⟩ := o_g h
      refine va_iald hx hb hK.1 hP 1 0 rfl rfl hin dX6_add_37 ?_
      refine lv_bipush (v := 10) hx hb dX6_add_38 (by decide) ?_
      refine lv_icmp_ne (tgt := 49) hx hb dX6_add_40 (by decide) (fun hc => ?_) (fun hc => ?_)
      · have h := o_f h hc
        refine lv_aload_n hx hb dX6_add_49 rfl (lv_at hl 0 rfl) ?_
        obtain ⟨x4, ex4, h⟩ := o_b h
        refine call_vV (As := []) (rest := []) (ws2 := [(a0, .inr (9, [.int (0 : Int32), .ref a1, .ref a2, .ref a3, .int x4.2, .ref a4, .int ln, .int nx, .int cd, .int dg, .int pw, .long hs])), (a1, .inl (cI, 378, .inl sa)), (a2, .inl (cI, 378, .inl asd)), (a3, .inl (cI, 1512, .inl x4.1)), (a4, .inl (cI, 120, .inl mt))]) ⟨hx, hb, hml, hown, hts⟩ (cX6_save_ok l G cI cG a0 a1 a2 a3 a4 fu (0 : Int32) sa asd sv sm mt ln nx cd dg pw hs x4 ex4) (cwV 0 hts gX6_add_X6_save rfl rfl rfl hdX6_save ⟨Nat.le_of_ble_eq_true rfl, Nat.le_of_ble_eq_true rfl⟩) hP hD hS hA hK 9 rfl rfl rfl [0, 1, 2, 3, 4] rfl rfl rfl rfl rfl rfl rfl rfl hl.1 (Nat.le_of_ble_eq_true rfl) dX6_add_50 ⟨Nat.zero_le _, Nat.zero_le _⟩ (fun H locs hP hD hS => ?_)
        refine lv_aload_n hx hb dX6_add_53 rfl (lv_at hl 0 rfl) ?_
        refine va_get (D := G) (ci := 9) (v := .ref a1) (C := RX6) (T := TX6) (N := 12) hx hb hts hin6 hown hK.1 hP 0 rfl rfl 1 (by decide) hw2 (fun _ h9 => h9) rfl dX6_add_54 ?_
        refine lv_iconst (v := 0) hx hb dX6_add_57 (by decide) ?_
        obtain ⟨hin, h⟩ := o_g h
        refine va_iald hx hb hK.1 hP 1 0 rfl rfl hin dX6_add_58 ?_
        refine lv_istore_n (lv' := [(3, .int (sa ((0 : Int32)).toNatClampNeg)), (0, .ref a0), (1, .int p1), (2, .int p2)]) hx hb dX6_add_59 rfl hl (by decide) rfl (fun ls hl => ?_)
        refine lv_aload_n hx hb dX6_add_60 rfl (lv_at hl 1 rfl) ?_
        refine va_get (D := G) (ci := 9) (v := .ref a1) (C := RX6) (T := TX6) (N := 12) hx hb hts hin6 hown hK.1 hP 0 rfl rfl 1 (by decide) hw2 (fun _ h9 => h9) rfl dX6_add_61 ?_
        refine lv_iconst (v := 0) hx hb dX6_add_64 (by decide) ?_
        refine lv_dup2_11 hx hb dX6_add_65 rfl rfl ?_
        obtain ⟨hin, h⟩ := o_g h
        refine va_iald hx hb hK.1 hP 1 0 rfl rfl hin dX6_add_66 ?_
        refine lv_iconst (v := 1) hx hb dX6_add_67 (by decide) ?_
        refine lv_iadd hx hb dX6_add_68 ?_
        obtain ⟨hin, h⟩ := o_g h
        refine va_iast hx hb hK.1 hP hD hS 1 0 rfl rfl hin dX6_add_69 (fun H locs hP hD hS => ?_)
        have hP : va_P G vwCl [(a0, .inr (9, [.int (0 : Int32), .ref a1, .ref a2, .ref a3, .int x4.2, .ref a4, .int ln, .int nx, .int cd, .int dg, .int pw, .long hs])), (a1, .inl (cI, 378, .inl (upd sa ((0 : Int32)).toNatClampNeg ((sa ((0 : Int32)).toNatClampNeg) + (1 : Int32))))), (a2, .inl (cI, 378, .inl asd)), (a3, .inl (cI, 1512, .inl x4.1)), (a4, .inl (cI, 120, .inl mt))] H := hP
        have hD : va_D A [(a0, .inr (9, [.int (0 : Int32), .ref a1, .ref a2, .ref a3, .int x4.2, .ref a4, .int ln, .int nx, .int cd, .int dg, .int pw, .long hs])), (a1, .inl (cI, 378, .inl (upd sa ((0 : Int32)).toNatClampNeg ((sa ((0 : Int32)).toNatClampNeg) + (1 : Int32))))), (a2, .inl (cI, 378, .inl asd)), (a3, .inl (cI, 1512, .inl x4.1)), (a4, .inl (cI, 120, .inl mt))] := hD
        refine lv_aload_n hx hb dX6_add_70 rfl (lv_at hl 1 rfl) ?_
        refine lv_iload_n hx hb dX6_add_71 rfl (lv_at hl 0 rfl) ?_
        refine lv_iconst (v := 0) hx hb dX6_add_72 (by decide) ?_
        refine lv_iload_n hx hb dX6_add_73 rfl (lv_at hl 2 rfl) ?_
        obtain ⟨x5, ex5, h⟩ := o_b h
        refine call_vV (As := [.int (sa ((0 : Int32)).toNatClampNeg), .int (0 : Int32), .int p1]) (rest := []) (ws2 := [(a0, .inr (9, [.int (0 : Int32), .ref a1, .ref a2, .ref a3, .int x4.2, .ref a4, .int ln, .int nx, .int cd, .int dg, .int pw, .long hs])), (a1, .inl (cI, 378, .inl x5)), (a2, .inl (cI, 378, .inl asd)), (a3, .inl (cI, 1512, .inl x4.1)), (a4, .inl (cI, 120, .inl mt))]) ⟨hx, hb, hml, hown, hts⟩ (cX6_set_ok l G cI cG a0 a1 a2 a3 a4 (0 : Int32) (upd sa ((0 : Int32)).toNatClampNeg ((sa ((0 : Int32)).toNatClampNeg) + (1 : Int32))) asd x4.1 x4.2 mt ln nx cd dg pw hs (sa ((0 : Int32)).toNatClampNeg) (0 : Int32) p1 x5 ex5) (cwV 3 hts gX6_add_X6_set rfl rfl rfl hdX6_set ⟨Nat.le_of_ble_eq_true rfl, Nat.le_of_ble_eq_true rfl⟩) hP hD hS hA hK 9 rfl rfl rfl [0, 1, 2, 3, 4] rfl rfl rfl rfl rfl rfl rfl rfl hl.1 (Nat.le_of_ble_eq_true rfl) dX6_add_74 ⟨Nat.zero_le _, Nat.zero_le _⟩ (fun H locs hP hD hS => ?_)
        refine lv_aload_n hx hb dX6_add_77 rfl (lv_at hl 1 rfl) ?_
        refine lv_iload_n hx hb dX6_add_78 rfl (lv_at hl 0 rfl) ?_
        refine lv_iconst (v := 1) hx hb dX6_add_79 (by decide) ?_
        refine lv_iload_n hx hb dX6_add_80 rfl (lv_at hl 3 rfl) ?_
        obtain ⟨x6, ex6, h⟩ := o_b h
        refine call_vV (As := [.int (sa ((0 : Int32)).toNatClampNeg), .int (1 : Int32), .int p2]) (rest := []) (ws2 := [(a0, .inr (9, [.int (0 : Int32), .ref a1, .ref a2, .ref a3, .int x4.2, .ref a4, .int ln, .int nx, .int cd, .int dg, .int pw, .long hs])), (a1, .inl (cI, 378, .inl x6)), (a2, .inl (cI, 378, .inl asd)), (a3, .inl (cI, 1512, .inl x4.1)), (a4, .inl (cI, 120, .inl mt))]) ⟨hx, hb, hml, hown, hts⟩ (cX6_set_ok l G cI cG a0 a1 a2 a3 a4 (0 : Int32) x5 asd x4.1 x4.2 mt ln nx cd dg pw hs (sa ((0 : Int32)).toNatClampNeg) (1 : Int32) p2 x6 ex6) (cwV 3 hts gX6_add_X6_set rfl rfl rfl hdX6_set ⟨Nat.le_of_ble_eq_true rfl, Nat.le_of_ble_eq_true rfl⟩) hP hD hS hA hK 9 rfl rfl rfl [0, 1, 2, 3, 4] rfl rfl rfl rfl rfl rfl rfl rfl hl.1 (Nat.le_of_ble_eq_true rfl) dX6_add_81 ⟨Nat.zero_le _, Nat.zero_le _⟩ (fun H locs hP hD hS => ?_)
        refine lv_aload_n hx hb dX6_add_84 rfl (lv_at hl 1 rfl) ?_
        refine lv_iload_n hx hb dX6_add_85 rfl (lv_at hl 0 rfl) ?_
        refine lv_iconst (v := 2) hx hb dX6_add_86 (by decide) ?_
        refine lv_iload_n hx hb dX6_add_87 rfl (lv_at hl 3 rfl) ?_
        obtain ⟨x7, ex7, h⟩ := o_b h
        refine call_vV (As := [.int (sa ((0 : Int32)).toNatClampNeg), .int (2 : Int32), .int p2]) (rest := []) (ws2 := [(a0, .inr (9, [.int (0 : Int32), .ref a1, .ref a2, .ref a3, .int x4.2, .ref a4, .int ln, .int nx, .int cd, .int dg, .int pw, .long hs])), (a1, .inl (cI, 378, .inl x7)), (a2, .inl (cI, 378, .inl asd)), (a3, .inl (cI, 1512, .inl x4.1)), (a4, .inl (cI, 120, .inl mt))]) ⟨hx, hb, hml, hown, hts⟩ (cX6_set_ok l G cI cG a0 a1 a2 a3 a4 (0 : Int32) x6 asd x4.1 x4.2 mt ln nx cd dg pw hs (sa ((0 : Int32)).toNatClampNeg) (2 : Int32) p2 x7 ex7) (cwV 3 hts gX6_add_X6_set rfl rfl rfl hdX6_set ⟨Nat.le_of_ble_eq_true rfl, Nat.le_of_ble_eq_true rfl⟩) hP hD hS hA hK 9 rfl rfl rfl [0, 1, 2, 3, 4] rfl rfl rfl rfl rfl rfl rfl rfl hl.1 (Nat.le_of_ble_eq_true rfl) dX6_add_88 ⟨Nat.zero_le _, Nat.zero_le _⟩ (fun H locs hP hD hS => ?_)
        refine lv_aload_n hx hb dX6_add_91 rfl (lv_at hl 1 rfl) ?_
        refine lv_iload_n hx hb dX6_add_92 rfl (lv_at hl 0 rfl) ?_
        refine lv_iconst (v := 3) hx hb dX6_add_93 (by decide) ?_
        refine lv_iconst (v := 1) hx hb dX6_add_94 (by decide) ?_
        obtain ⟨x8, ex8, h⟩ := o_b h
        refine call_vV (As := [.int (sa ((0 : Int32)).toNatClampNeg), .int (3 : Int32), .int (1 : Int32)]) (rest := []) (ws2 := [(a0, .inr (9, [.int (0 : Int32), .ref a1, .ref a2, .ref a3, .int x4.2, .ref a4, .int ln, .int nx, .int cd, .int dg, .int pw, .long hs])), (a1, .inl (cI, 378, .inl x8)), (a2, .inl (cI, 378, .inl asd)), (a3, .inl (cI, 1512, .inl x4.1)), (a4, .inl (cI, 120, .inl mt))]) ⟨hx, hb, hml, hown, hts⟩ (cX6_set_ok l G cI cG a0 a1 a2 a3 a4 (0 : Int32) x7 asd x4.1 x4.2 mt ln nx cd dg pw hs (sa ((0 : Int32)).toNatClampNeg) (3 : Int32) (1 : Int32) x8 ex8) (cwV 3 hts gX6_add_X6_set rfl rfl rfl hdX6_set ⟨Nat.le_of_ble_eq_true rfl, Nat.le_of_ble_eq_true rfl⟩) hP hD hS hA hK 9 rfl rfl rfl [0, 1, 2, 3, 4] rfl rfl rfl rfl rfl rfl rfl rfl hl.1 (Nat.le_of_ble_eq_true rfl) dX6_add_95 ⟨Nat.zero_le _, Nat.zero_le _⟩ (fun H locs hP hD hS => ?_)
        refine lv_aload_n hx hb dX6_add_98 rfl (lv_at hl 1 rfl) ?_
        refine lv_iload_n hx hb dX6_add_99 rfl (lv_at hl 0 rfl) ?_
        refine lv_iconst (v := 4) hx hb dX6_add_100 (by decide) ?_
        refine lv_iconst (v := (-1)) hx hb dX6_add_101 (by decide) ?_
        obtain ⟨x9, ex9, h⟩ := o_b h
        refine call_vV (As := [.int (sa ((0 : Int32)).toNatClampNeg), .int (4 : Int32), .int (-1 : Int32)]) (rest := []) (ws2 := [(a0, .inr (9, [.int (0 : Int32), .ref a1, .ref a2, .ref a3, .int x4.2, .ref a4, .int ln, .int nx, .int cd, .int dg, .int pw, .long hs])), (a1, .inl (cI, 378, .inl x9)), (a2, .inl (cI, 378, .inl asd)), (a3, .inl (cI, 1512, .inl x4.1)), (a4, .inl (cI, 120, .inl mt))]) ⟨hx, hb, hml, hown, hts⟩ (cX6_set_ok l G cI cG a0 a1 a2 a3 a4 (0 : Int32) x8 asd x4.1 x4.2 mt ln nx cd dg pw hs (sa ((0 : Int32)).toNatClampNeg) (4 : Int32) (-1 : Int32) x9 ex9) (cwV 3 hts gX6_add_X6_set rfl rfl rfl hdX6_set ⟨Nat.le_of_ble_eq_true rfl, Nat.le_of_ble_eq_true rfl⟩) hP hD hS hA hK 9 rfl rfl rfl [0, 1, 2, 3, 4] rfl rfl rfl rfl rfl rfl rfl rfl hl.1 (Nat.le_of_ble_eq_true rfl) dX6_add_102 ⟨Nat.zero_le _, Nat.zero_le _⟩ (fun H locs hP hD hS => ?_)
        refine lv_aload_n hx hb dX6_add_105 rfl (lv_at hl 1 rfl) ?_
        refine lv_iload_n hx hb dX6_add_106 rfl (lv_at hl 0 rfl) ?_
        refine lv_iconst (v := 5) hx hb dX6_add_107 (by decide) ?_
        refine lv_iconst (v := 0) hx hb dX6_add_108 (by decide) ?_
        obtain ⟨x10, ex10, h⟩ := o_b h
        refine call_vV (As := [.int (sa ((0 : Int32)).toNatClampNeg), .int (5 : Int32), .int (0 : Int32)]) (rest := []) (ws2 := [(a0, .inr (9, [.int (0 : Int32), .ref a1, .ref a2, .ref a3, .int x4.2, .ref a4, .int ln, .int nx, .int cd, .int dg, .int pw, .long hs])), (a1, .inl (cI, 378, .inl x10)), (a2, .inl (cI, 378, .inl asd)), (a3, .inl (cI, 1512, .inl x4.1)), (a4, .inl (cI, 120, .inl mt))]) ⟨hx, hb, hml, hown, hts⟩ (cX6_set_ok l G cI cG a0 a1 a2 a3 a4 (0 : Int32) x9 asd x4.1 x4.2 mt ln nx cd dg pw hs (sa ((0 : Int32)).toNatClampNeg) (5 : Int32) (0 : Int32) x10 ex10) (cwV 3 hts gX6_add_X6_set rfl rfl rfl hdX6_set ⟨Nat.le_of_ble_eq_true rfl, Nat.le_of_ble_eq_true rfl⟩) hP hD hS hA hK 9 rfl rfl rfl [0, 1, 2, 3, 4] rfl rfl rfl rfl rfl rfl rfl rfl hl.1 (Nat.le_of_ble_eq_true rfl) dX6_add_109 ⟨Nat.zero_le _, Nat.zero_le _⟩ (fun H locs hP hD hS => ?_)
        refine lv_iload_n hx hb dX6_add_112 rfl (lv_at hl 0 rfl) ?_
        obtain rfl := o_s h
        rw [hQ]
        exact end_i hx hb hr rfl hP hD hS dX6_add_113 hlocks
      · have h := o_t h hc
        refine lv_aload_n hx hb dX6_add_43 rfl (lv_at hl 0 rfl) ?_
        refine lv_iconst (v := 2) hx hb dX6_add_44 (by decide) ?_
        obtain ⟨x11, ex11, h⟩ := o_b h
        refine call_iV (As := [.int (2 : Int32)]) (rest := []) (ws2 := [(a0, .inr (9, [.int x11.2, .ref a1, .ref a2, .ref a3, .int sm, .ref a4, .int ln, .int nx, .int cd, .int dg, .int pw, .long hs])), (a1, .inl (cI, 378, .inl sa)), (a2, .inl (cI, 378, .inl asd)), (a3, .inl (cI, 1512, .inl sv)), (a4, .inl (cI, 120, .inl mt))]) ⟨hx, hb, hml, hown, hts⟩ (cX6_fails_ok l G cI cG a0 a1 a2 a3 a4 (0 : Int32) sa asd sv sm mt ln nx cd dg pw hs (2 : Int32) x11 ex11) (cwV 1 hts gX6_add_X6_fails rfl rfl rfl hdX6_fails ⟨Nat.le_of_ble_eq_true rfl, Nat.le_of_ble_eq_true rfl⟩) hP hD hS hA hK 9 rfl rfl rfl [0, 1, 2, 3, 4] rfl rfl rfl rfl rfl rfl rfl rfl hl.1 (Nat.le_of_ble_eq_true rfl) dX6_add_45 ⟨Nat.zero_le _, Nat.zero_le _⟩ (fun H locs hP hD hS => ?_)
        obtain rfl := o_s h
        rw [hQ]
        exact end_i hx hb hr rfl hP hD hS dX6_add_48 hlocks
    · have h := o_t h hc
      refine lv_aload_n hx hb dX6_add_26 rfl (lv_at hl 0 rfl) ?_
      refine lv_iconst (v := 1) hx hb dX6_add_27 (by decide) ?_
      obtain ⟨x12, ex12, h⟩ := o_b h
      refine call_iV (As := [.int (1 : Int32)]) (rest := []) (ws2 := [(a0, .inr (9, [.int x12.2, .ref a1, .ref a2, .ref a3, .int sm, .ref a4, .int ln, .int nx, .int cd, .int dg, .int pw, .long hs])), (a1, .inl (cI, 378, .inl sa)), (a2, .inl (cI, 378, .inl asd)), (a3, .inl (cI, 1512, .inl sv)), (a4, .inl (cI, 120, .inl mt))]) ⟨hx, hb, hml, hown, hts⟩ (cX6_fails_ok l G cI cG a0 a1 a2 a3 a4 (0 : Int32) sa asd sv sm mt ln nx cd dg pw hs (1 : Int32) x12 ex12) (cwV 1 hts gX6_add_X6_fails rfl rfl rfl hdX6_fails ⟨Nat.le_of_ble_eq_true rfl, Nat.le_of_ble_eq_true rfl⟩) hP hD hS hA hK 9 rfl rfl rfl [0, 1, 2, 3, 4] rfl rfl rfl rfl rfl rfl rfl rfl hl.1 (Nat.le_of_ble_eq_true rfl) dX6_add_28 ⟨Nat.zero_le _, Nat.zero_le _⟩ (fun H locs hP hD hS => ?_)
      obtain rfl := o_s h
      rw [hQ]
      exact end_i hx hb hr rfl hP hD hS dX6_add_31 hlocks
theorem hdX6_setSpeed : yX6_setSpeed.cls = RX6 ∧ yX6_setSpeed.cls ≠ "java/lang/invoke/MethodHandle" ∧ yX6_setSpeed.cls ≠ "java/lang/invoke/VarHandle" ∧ (parseMethodDescriptor yX6_setSpeed.desc).map (fun d => d.parameters.length) = some 2 := by decide +kernel
set_option maxHeartbeats 4000000 in
set_option maxRecDepth 100000 in
theorem cX6_setSpeed_ok (l : Launch) (G : va_G) (cI cG : ClassId) (a0 a1 a2 a3 a4 : Nat) (fu : Nat) (th : Int32) (sa : (Nat → Int32)) (asd : (Nat → Int32)) (sv : (Nat → Int32)) (sm : Int32) (mt : (Nat → Int32)) (ln : Int32) (nx : Int32) (cd : Int32) (dg : Int32) (pw : Int32) (hs : Int64) (p1 : Int32) (p2 : Int32) (out : Int32 × Int32 × (Nat → Int32) × (Nat → Int32) × Int32) (hf : fX6_setSpeed fu th sa sv sm p1 p2 = some out) : CI l G (tyz cI cG) yX6_setSpeed wsX6_setSpeed ({ frames := 2, cells := 0, slots := 0, locals := 43 } : Room) [.ref a0, .int p1, .int p2] [(a0, .inr (9, [.int th, .ref a1, .ref a2, .ref a3, .int sm, .ref a4, .int ln, .int nx, .int cd, .int dg, .int pw, .long hs])), (a1, .inl (cI, 378, .inl sa)), (a2, .inl (cI, 378, .inl asd)), (a3, .inl (cI, 1512, .inl sv)), (a4, .inl (cI, 120, .inl mt))] out.1 [(a0, .inr (9, [.int out.2.1, .ref a1, .ref a2, .ref a3, .int out.2.2.2.2, .ref a4, .int ln, .int nx, .int cd, .int dg, .int pw, .long hs])), (a1, .inl (cI, 378, .inl out.2.2.1)), (a2, .inl (cI, 378, .inl asd)), (a3, .inl (cI, 1512, .inl out.2.2.2.1)), (a4, .inl (cI, 120, .inl mt))] := by
  intro sz
  refine Met.ofW (cc := cX6_setSpeed) (maxL := 4) (ret := (some .int)) (by decide) rfl ?_
  intro p e s m args below meth c s₁ B hml hv
  obtain ⟨rfl, hsz, hP, hK, hD0⟩ := hv
  have hx := B.exec
  have hb := B.bytes
  have hr := B.returns
  have hts := atoms_spec (ws := wsX6_setSpeed) B.pre
  have hown : s.vm.findClass RX6 = some m.cls := findClass_of_methodNamed B.named
  have hlocks := B.notSynchronized
  subst hsz
  have hD := hD0.self (sz := s.heap.size)
  generalize hAe : va_A [(a0, .inr (9, [.int th, .ref a1, .ref a2, .ref a3, .int sm, .ref a4, .int ln, .int nx, .int cd, .int dg, .int pw, .long hs])), (a1, .inl (cI, 378, .inl sa)), (a2, .inl (cI, 378, .inl asd)), (a3, .inl (cI, 1512, .inl sv)), (a4, .inl (cI, 120, .inl mt))] s.heap.size = A at hD ⊢
  have hA : ∀ q : Nat, s.heap.size ≤ q → A q := fun q h => by rw [← hAe]; exact Or.inr h
  have hS : va_S A s.heap s.heap [] := va_S.rf
  have hw0 := hts (.fieldLink RX6 22 "SpeedTurnsModel" "thrown" "I") (List.mem_of_getElem? (i := 1) rfl)
  have hin6 : ∀ w ∈ u_ws RX6 TX6 12, w ∈ wsX6_setSpeed := by decide +kernel
  show W p l e ({ frames := 2, cells := 0, slots := 0, locals := 43 } : Room) s m _ below meth c s.heap [] 0 0 _ _
  refine W_genQ (fun Q hQ => ?_)
  have h := hf
  rw [fX6_setSpeed] at h
  have hl := lv_entry ([.ref a0, .int p1, .int p2]) (n := 4) (Nat.le_of_ble_eq_true rfl)
  rw [lg_entry_eq]
  generalize (lg_sl ([.ref a0, .int p1, .int p2]) ++ List.replicate (4 - (lg_sl ([.ref a0, .int p1, .int p2])).length) Slot.unset).toArray = ls at hl ⊢
  have hl : lv_has ls 4 [(0, .ref a0), (1, .int p1), (2, .int p2)] := hl
  refine lv_aload_n hx hb dX6_setSpeed_0 rfl (lv_at hl 0 rfl) ?_
  refine lv_iconst (v := 0) hx hb dX6_setSpeed_1 (by decide) ?_
  refine va_put (D := G) (ci := 9) (v := .int (0 : Int32)) (ty := .int) (C := RX6) (T := TX6) (N := 12) hx hb hts hin6 tyX6 tyX6_ok nmX6 hown hK.1 hP hD hS 0 rfl rfl 0 (by decide) hw0 (fun _ h9 => h9) rfl (by decide +kernel) rfl rfl (Nat.le_of_ble_eq_true rfl) dX6_setSpeed_2 (fun H locs hP hD hS => ?_)
  have hP : va_P G vwCl [(a0, .inr (9, [.int (0 : Int32), .ref a1, .ref a2, .ref a3, .int sm, .ref a4, .int ln, .int nx, .int cd, .int dg, .int pw, .long hs])), (a1, .inl (cI, 378, .inl sa)), (a2, .inl (cI, 378, .inl asd)), (a3, .inl (cI, 1512, .inl sv)), (a4, .inl (cI, 120, .inl mt))] H := hP
  have hD : va_D A [(a0, .inr (9, [.int (0 : Int32), .ref a1, .ref a2, .ref a3, .int sm, .ref a4, .int ln, .int nx, .int cd, .int dg, .int pw, .long hs])), (a1, .inl (cI, 378, .inl sa)), (a2, .inl (cI, 378, .inl asd)), (a3, .inl (cI, 1512, .inl sv)), (a4, .inl (cI, 120, .inl mt))] := hD
  refine lv_aload_n hx hb dX6_setSpeed_5 rfl (lv_at hl 0 rfl) ?_
  refine lv_iload_n hx hb dX6_setSpeed_6 rfl (lv_at hl 1 rfl) ?_
  obtain ⟨x1, ex1, h⟩ := o_b h
  refine call_iV (As := [.int p1]) (rest := []) (ws2 := [(a0, .inr (9, [.int (0 : Int32), .ref a1, .ref a2, .ref a3, .int sm, .ref a4, .int ln, .int nx, .int cd, .int dg, .int pw, .long hs])), (a1, .inl (cI, 378, .inl sa)), (a2, .inl (cI, 378, .inl asd)), (a3, .inl (cI, 1512, .inl sv)), (a4, .inl (cI, 120, .inl mt))]) ⟨hx, hb, hml, hown, hts⟩ (cX6_isFighter_ok l G cI cG a0 a1 a2 a3 a4 (0 : Int32) sa asd sv sm mt ln nx cd dg pw hs p1 x1 ex1) (cwV 1 hts gX6_setSpeed_X6_isFighter rfl rfl rfl hdX6_isFighter ⟨Nat.le_of_ble_eq_true rfl, Nat.le_of_ble_eq_true rfl⟩) hP hD hS hA hK 9 rfl rfl rfl [0, 1, 2, 3, 4] rfl rfl rfl rfl rfl rfl rfl rfl hl.1 (Nat.le_of_ble_eq_true rfl) dX6_setSpeed_7 ⟨Nat.zero_le _, Nat.zero_le _⟩ (fun H locs hP hD hS => ?_)
  refine lv_if_ne (tgt := 19) hx hb dX6_setSpeed_10 (by decide) (fun hc => ?_) (fun hc => ?_)
  · have h := o_f h hc
    refine lv_iload_n hx hb dX6_setSpeed_19 rfl (lv_at hl 2 rfl) ?_
    refine lv_iconst (v := 1) hx hb dX6_setSpeed_20 (by decide) ?_
    refine lv_bipush (v := 30) hx hb dX6_setSpeed_21 (by decide) ?_
    obtain ⟨x2, ex2, h⟩ := o_b h
    refine call_iS (As := [.int p2, .int (1 : Int32), .int (30 : Int32)]) (rest := []) (ws2 := [(a0, .inr (9, [.int (0 : Int32), .ref a1, .ref a2, .ref a3, .int sm, .ref a4, .int ln, .int nx, .int cd, .int dg, .int pw, .long hs])), (a1, .inl (cI, 378, .inl sa)), (a2, .inl (cI, 378, .inl asd)), (a3, .inl (cI, 1512, .inl sv)), (a4, .inl (cI, 120, .inl mt))]) ⟨hx, hb, hml, hown, hts⟩ (cX6_in_ok l G cI cG p2 (1 : Int32) (30 : Int32) x2 ex2) (va_cwS 3 hts gX6_setSpeed_X6_in rfl rfl rfl hdX6_in ⟨Nat.le_of_ble_eq_true rfl, Nat.le_of_ble_eq_true rfl⟩) hP hD hS hA hK [] rfl rfl rfl rfl rfl rfl rfl rfl hl.1 (Nat.le_of_ble_eq_true rfl) dX6_setSpeed_23 ⟨Nat.zero_le _, Nat.zero_le _⟩ (fun H locs hP hD hS => ?_)
    refine lv_if_ne (tgt := 35) hx hb dX6_setSpeed_26 (by decide) (fun hc => ?_) (fun hc => ?_)
    · have h := o_f h hc
      refine lv_aload_n hx hb dX6_setSpeed_35 rfl (lv_at hl 0 rfl) ?_
      obtain ⟨x3, ex3, h⟩ := o_b h
      refine call_vV (As := []) (rest := []) (ws2 := [(a0, .inr (9, [.int (0 : Int32), .ref a1, .ref a2, .ref a3, .int x3.2, .ref a4, .int ln, .int nx, .int cd, .int dg, .int pw, .long hs])), (a1, .inl (cI, 378, .inl sa)), (a2, .inl (cI, 378, .inl asd)), (a3, .inl (cI, 1512, .inl x3.1)), (a4, .inl (cI, 120, .inl mt))]) ⟨hx, hb, hml, hown, hts⟩ (cX6_save_ok l G cI cG a0 a1 a2 a3 a4 fu (0 : Int32) sa asd sv sm mt ln nx cd dg pw hs x3 ex3) (cwV 0 hts gX6_setSpeed_X6_save rfl rfl rfl hdX6_save ⟨Nat.le_of_ble_eq_true rfl, Nat.le_of_ble_eq_true rfl⟩) hP hD hS hA hK 9 rfl rfl rfl [0, 1, 2, 3, 4] rfl rfl rfl rfl rfl rfl rfl rfl hl.1 (Nat.le_of_ble_eq_true rfl) dX6_setSpeed_36 ⟨Nat.zero_le _, Nat.zero_le _⟩ (fun H locs hP hD hS => ?_)
      refine lv_aload_n hx hb dX6_setSpeed_39 rfl (lv_at hl 0 rfl) ?_
      refine lv_iload_n hx hb dX6_setSpeed_40 rfl (lv_at hl 1 rfl) ?_
      refine lv_iconst (v := 0) hx hb dX6_setSpeed_41 (by decide) ?_
      obtain ⟨x4, ex4, h⟩ := o_b h
      refine call_iV (As := [.int p1, .int (0 : Int32)]) (rest := []) (ws2 := [(a0, .inr (9, [.int (0 : Int32), .ref a1, .ref a2, .ref a3, .int x3.2, .ref a4, .int ln, .int nx, .int cd, .int dg, .int pw, .long hs])), (a1, .inl (cI, 378, .inl sa)), (a2, .inl (cI, 378, .inl asd)), (a3, .inl (cI, 1512, .inl x3.1)), (a4, .inl (cI, 120, .inl mt))]) ⟨hx, hb, hml, hown, hts⟩ (cX6_of_ok l G cI cG a0 a1 a2 a3 a4 (0 : Int32) sa asd x3.1 x3.2 mt ln nx cd dg pw hs p1 (0 : Int32) x4 ex4) (cwV 2 hts gX6_setSpeed_X6_of rfl rfl rfl hdX6_of ⟨Nat.le_of_ble_eq_true rfl, Nat.le_of_ble_eq_true rfl⟩) hP hD hS hA hK 9 rfl rfl rfl [0, 1, 2, 3, 4] rfl rfl rfl rfl rfl rfl rfl rfl hl.1 (Nat.le_of_ble_eq_true rfl) dX6_setSpeed_42 ⟨Nat.zero_le _, Nat.zero_le _⟩ (fun H locs hP hD hS => ?_)
      refine lv_istore_n (lv' := [(3, .int x4), (0, .ref a0), (1, .int p1), (2, .int p2)]) hx hb dX6_setSpeed_45 rfl hl (by decide) rfl (fun ls hl => ?_)
      refine lv_aload_n hx hb dX6_setSpeed_46 rfl (lv_at hl 1 rfl) ?_
      refine lv_iload_n hx hb dX6_setSpeed_47 rfl (lv_at hl 2 rfl) ?_
      refine lv_iconst (v := 0) hx hb dX6_setSpeed_48 (by decide) ?_
      refine lv_iload_n hx hb dX6_setSpeed_49 rfl (lv_at hl 3 rfl) ?_
      obtain ⟨x5, ex5, h⟩ := o_b h
      refine call_vV (As := [.int p1, .int (0 : Int32), .int p2]) (rest := []) (ws2 := [(a0, .inr (9, [.int (0 : Int32), .ref a1, .ref a2, .ref a3, .int x3.2, .ref a4, .int ln, .int nx, .int cd, .int dg, .int pw, .long hs])), (a1, .inl (cI, 378, .inl x5)), (a2, .inl (cI, 378, .inl asd)), (a3, .inl (cI, 1512, .inl x3.1)), (a4, .inl (cI, 120, .inl mt))]) ⟨hx, hb, hml, hown, hts⟩ (cX6_set_ok l G cI cG a0 a1 a2 a3 a4 (0 : Int32) sa asd x3.1 x3.2 mt ln nx cd dg pw hs p1 (0 : Int32) p2 x5 ex5) (cwV 3 hts gX6_setSpeed_X6_set rfl rfl rfl hdX6_set ⟨Nat.le_of_ble_eq_true rfl, Nat.le_of_ble_eq_true rfl⟩) hP hD hS hA hK 9 rfl rfl rfl [0, 1, 2, 3, 4] rfl rfl rfl rfl rfl rfl rfl rfl hl.1 (Nat.le_of_ble_eq_true rfl) dX6_setSpeed_50 ⟨Nat.zero_le _, Nat.zero_le _⟩ (fun H locs hP hD hS => ?_)
      refine lv_iload_n hx hb dX6_setSpeed_53 rfl (lv_at hl 0 rfl) ?_
      obtain rfl := o_s h
      rw [hQ]
      exact end_i hx hb hr rfl hP hD hS dX6_setSpeed_54 hlocks
    · have h := o_t h hc
      refine lv_aload_n hx hb dX6_setSpeed_29 rfl (lv_at hl 0 rfl) ?_
      refine lv_iconst (v := 2) hx hb dX6_setSpeed_30 (by decide) ?_
      obtain ⟨x6, ex6, h⟩ := o_b h
      refine call_iV (As := [.int (2 : Int32)]) (rest := []) (ws2 := [(a0, .inr (9, [.int x6.2, .ref a1, .ref a2, .ref a3, .int sm, .ref a4, .int ln, .int nx, .int cd, .int dg, .int pw, .long hs])), (a1, .inl (cI, 378, .inl sa)), (a2, .inl (cI, 378, .inl asd)), (a3, .inl (cI, 1512, .inl sv)), (a4, .inl (cI, 120, .inl mt))]) ⟨hx, hb, hml, hown, hts⟩ (cX6_fails_ok l G cI cG a0 a1 a2 a3 a4 (0 : Int32) sa asd sv sm mt ln nx cd dg pw hs (2 : Int32) x6 ex6) (cwV 1 hts gX6_setSpeed_X6_fails rfl rfl rfl hdX6_fails ⟨Nat.le_of_ble_eq_true rfl, Nat.le_of_ble_eq_true rfl⟩) hP hD hS hA hK 9 rfl rfl rfl [0, 1, 2, 3, 4] rfl rfl rfl rfl rfl rfl rfl rfl hl.1 (Nat.le_of_ble_eq_true rfl) dX6_setSpeed_31 ⟨Nat.zero_le _, Nat.zero_le _⟩ (fun H locs hP hD hS => ?_)
      obtain rfl := o_s h
      rw [hQ]
      exact end_i hx hb hr rfl hP hD hS dX6_setSpeed_34 hlocks
  · have h := o_t h hc
    refine lv_aload_n hx hb dX6_setSpeed_13 rfl (lv_at hl 0 rfl) ?_
    refine lv_iconst (v := 1) hx hb dX6_setSpeed_14 (by decide) ?_
    obtain ⟨x7, ex7, h⟩ := o_b h
    refine call_iV (As := [.int (1 : Int32)]) (rest := []) (ws2 := [(a0, .inr (9, [.int x7.2, .ref a1, .ref a2, .ref a3, .int sm, .ref a4, .int ln, .int nx, .int cd, .int dg, .int pw, .long hs])), (a1, .inl (cI, 378, .inl sa)), (a2, .inl (cI, 378, .inl asd)), (a3, .inl (cI, 1512, .inl sv)), (a4, .inl (cI, 120, .inl mt))]) ⟨hx, hb, hml, hown, hts⟩ (cX6_fails_ok l G cI cG a0 a1 a2 a3 a4 (0 : Int32) sa asd sv sm mt ln nx cd dg pw hs (1 : Int32) x7 ex7) (cwV 1 hts gX6_setSpeed_X6_fails rfl rfl rfl hdX6_fails ⟨Nat.le_of_ble_eq_true rfl, Nat.le_of_ble_eq_true rfl⟩) hP hD hS hA hK 9 rfl rfl rfl [0, 1, 2, 3, 4] rfl rfl rfl rfl rfl rfl rfl rfl hl.1 (Nat.le_of_ble_eq_true rfl) dX6_setSpeed_15 ⟨Nat.zero_le _, Nat.zero_le _⟩ (fun H locs hP hD hS => ?_)
    obtain rfl := o_s h
    rw [hQ]
    exact end_i hx hb hr rfl hP hD hS dX6_setSpeed_18 hlocks
theorem hdX6_setShock : yX6_setShock.cls = RX6 ∧ yX6_setShock.cls ≠ "java/lang/invoke/MethodHandle" ∧ yX6_setShock.cls ≠ "java/lang/invoke/VarHandle" ∧ (parseMethodDescriptor yX6_setShock.desc).map (fun d => d.parameters.length) = some 1 := by decide +kernel
set_option maxHeartbeats 4000000 in
set_option maxRecDepth 100000 in
theorem cX6_setShock_ok (l : Launch) (G : va_G) (cI cG : ClassId) (a0 a1 a2 a3 a4 : Nat) (fu : Nat) (th : Int32) (sa : (Nat → Int32)) (asd : (Nat → Int32)) (sv : (Nat → Int32)) (sm : Int32) (mt : (Nat → Int32)) (ln : Int32) (nx : Int32) (cd : Int32) (dg : Int32) (pw : Int32) (hs : Int64) (p1 : Int32) (out : Int32 × Int32 × (Nat → Int32) × (Nat → Int32) × Int32) (hf : fX6_setShock fu th sa sv sm p1 = some out) : CI l G (tyz cI cG) yX6_setShock wsX6_setShock ({ frames := 1, cells := 0, slots := 0, locals := 22 } : Room) [.ref a0, .int p1] [(a0, .inr (9, [.int th, .ref a1, .ref a2, .ref a3, .int sm, .ref a4, .int ln, .int nx, .int cd, .int dg, .int pw, .long hs])), (a1, .inl (cI, 378, .inl sa)), (a2, .inl (cI, 378, .inl asd)), (a3, .inl (cI, 1512, .inl sv)), (a4, .inl (cI, 120, .inl mt))] out.1 [(a0, .inr (9, [.int out.2.1, .ref a1, .ref a2, .ref a3, .int out.2.2.2.2, .ref a4, .int ln, .int nx, .int cd, .int dg, .int pw, .long hs])), (a1, .inl (cI, 378, .inl out.2.2.1)), (a2, .inl (cI, 378, .inl asd)), (a3, .inl (cI, 1512, .inl out.2.2.2.1)), (a4, .inl (cI, 120, .inl mt))] := by
  intro sz
  refine Met.ofW (cc := cX6_setShock) (maxL := 3) (ret := (some .int)) (by decide) rfl ?_
  intro p e s m args below meth c s₁ B hml hv
  obtain ⟨rfl, hsz, hP, hK, hD0⟩ := hv
  have hx := B.exec
  have hb := B.bytes
  have hr := B.returns
  have hts := atoms_spec (ws := wsX6_setShock) B.pre
  have hown : s.vm.findClass RX6 = some m.cls := findClass_of_methodNamed B.named
  have hlocks := B.notSynchronized
  subst hsz
  have hD := hD0.self (sz := s.heap.size)
  generalize hAe : va_A [(a0, .inr (9, [.int th, .ref a1, .ref a2, .ref a3, .int sm, .ref a4, .int ln, .int nx, .int cd, .int dg, .int pw, .long hs])), (a1, .inl (cI, 378, .inl sa)), (a2, .inl (cI, 378, .inl asd)), (a3, .inl (cI, 1512, .inl sv)), (a4, .inl (cI, 120, .inl mt))] s.heap.size = A at hD ⊢
  have hA : ∀ q : Nat, s.heap.size ≤ q → A q := fun q h => by rw [← hAe]; exact Or.inr h
  have hS : va_S A s.heap s.heap [] := va_S.rf
  have hw0 := hts (.fieldLink RX6 22 "SpeedTurnsModel" "thrown" "I") (List.mem_of_getElem? (i := 1) rfl)
  have hin6 : ∀ w ∈ u_ws RX6 TX6 12, w ∈ wsX6_setShock := by decide +kernel
  have hw2 := hts (.fieldLink RX6 7 "SpeedTurnsModel" "s" "[I") (List.mem_of_getElem? (i := 2) rfl)
  show W p l e ({ frames := 1, cells := 0, slots := 0, locals := 22 } : Room) s m _ below meth c s.heap [] 0 0 _ _
  refine W_genQ (fun Q hQ => ?_)
  have h := hf
  rw [fX6_setShock] at h
  have hl := lv_entry ([.ref a0, .int p1]) (n := 3) (Nat.le_of_ble_eq_true rfl)
  rw [lg_entry_eq]
  generalize (lg_sl ([.ref a0, .int p1]) ++ List.replicate (3 - (lg_sl ([.ref a0, .int p1])).length) Slot.unset).toArray = ls at hl ⊢
  have hl : lv_has ls 3 [(0, .ref a0), (1, .int p1)] := hl
  refine lv_aload_n hx hb dX6_setShock_0 rfl (lv_at hl 0 rfl) ?_
  refine lv_iconst (v := 0) hx hb dX6_setShock_1 (by decide) ?_
  refine va_put (D := G) (ci := 9) (v := .int (0 : Int32)) (ty := .int) (C := RX6) (T := TX6) (N := 12) hx hb hts hin6 tyX6 tyX6_ok nmX6 hown hK.1 hP hD hS 0 rfl rfl 0 (by decide) hw0 (fun _ h9 => h9) rfl (by decide +kernel) rfl rfl (Nat.le_of_ble_eq_true rfl) dX6_setShock_2 (fun H locs hP hD hS => ?_)
  have hP : va_P G vwCl [(a0, .inr (9, [.int (0 : Int32), .ref a1, .ref a2, .ref a3, .int sm, .ref a4, .int ln, .int nx, .int cd, .int dg, .int pw, .long hs])), (a1, .inl (cI, 378, .inl sa)), (a2, .inl (cI, 378, .inl asd)), (a3, .inl (cI, 1512, .inl sv)), (a4, .inl (cI, 120, .inl mt))] H := hP
  have hD : va_D A [(a0, .inr (9, [.int (0 : Int32), .ref a1, .ref a2, .ref a3, .int sm, .ref a4, .int ln, .int nx, .int cd, .int dg, .int pw, .long hs])), (a1, .inl (cI, 378, .inl sa)), (a2, .inl (cI, 378, .inl asd)), (a3, .inl (cI, 1512, .inl sv)), (a4, .inl (cI, 120, .inl mt))] := hD
  refine lv_iload_n hx hb dX6_setShock_5 rfl (lv_at hl 1 rfl) ?_
  refine lv_iconst (v := 1) hx hb dX6_setShock_6 (by decide) ?_
  refine lv_sipush (v := 200) hx hb dX6_setShock_7 (by decide) ?_
  obtain ⟨x1, ex1, h⟩ := o_b h
  refine call_iS (As := [.int p1, .int (1 : Int32), .int (200 : Int32)]) (rest := []) (ws2 := [(a0, .inr (9, [.int (0 : Int32), .ref a1, .ref a2, .ref a3, .int sm, .ref a4, .int ln, .int nx, .int cd, .int dg, .int pw, .long hs])), (a1, .inl (cI, 378, .inl sa)), (a2, .inl (cI, 378, .inl asd)), (a3, .inl (cI, 1512, .inl sv)), (a4, .inl (cI, 120, .inl mt))]) ⟨hx, hb, hml, hown, hts⟩ (cX6_in_ok l G cI cG p1 (1 : Int32) (200 : Int32) x1 ex1) (va_cwS 3 hts gX6_setShock_X6_in rfl rfl rfl hdX6_in ⟨Nat.le_of_ble_eq_true rfl, Nat.le_of_ble_eq_true rfl⟩) hP hD hS hA hK [] rfl rfl rfl rfl rfl rfl rfl rfl hl.1 (Nat.le_of_ble_eq_true rfl) dX6_setShock_10 ⟨Nat.zero_le _, Nat.zero_le _⟩ (fun H locs hP hD hS => ?_)
  refine lv_if_ne (tgt := 22) hx hb dX6_setShock_13 (by decide) (fun hc => ?_) (fun hc => ?_)
  · have h := o_f h hc
    refine lv_aload_n hx hb dX6_setShock_22 rfl (lv_at hl 0 rfl) ?_
    obtain ⟨x2, ex2, h⟩ := o_b h
    refine call_vV (As := []) (rest := []) (ws2 := [(a0, .inr (9, [.int (0 : Int32), .ref a1, .ref a2, .ref a3, .int x2.2, .ref a4, .int ln, .int nx, .int cd, .int dg, .int pw, .long hs])), (a1, .inl (cI, 378, .inl sa)), (a2, .inl (cI, 378, .inl asd)), (a3, .inl (cI, 1512, .inl x2.1)), (a4, .inl (cI, 120, .inl mt))]) ⟨hx, hb, hml, hown, hts⟩ (cX6_save_ok l G cI cG a0 a1 a2 a3 a4 fu (0 : Int32) sa asd sv sm mt ln nx cd dg pw hs x2 ex2) (cwV 0 hts gX6_setShock_X6_save rfl rfl rfl hdX6_save ⟨Nat.le_of_ble_eq_true rfl, Nat.le_of_ble_eq_true rfl⟩) hP hD hS hA hK 9 rfl rfl rfl [0, 1, 2, 3, 4] rfl rfl rfl rfl rfl rfl rfl rfl hl.1 (Nat.le_of_ble_eq_true rfl) dX6_setShock_23 ⟨Nat.zero_le _, Nat.zero_le _⟩ (fun H locs hP hD hS => ?_)
    refine lv_aload_n hx hb dX6_setShock_26 rfl (lv_at hl 0 rfl) ?_
    refine va_get (D := G) (ci := 9) (v := .ref a1) (C := RX6) (T := TX6) (N := 12) hx hb hts hin6 hown hK.1 hP 0 rfl rfl 1 (by decide) hw2 (fun _ h9 => h9) rfl dX6_setShock_27 ?_
    refine lv_iconst (v := 2) hx hb dX6_setShock_30 (by decide) ?_
    obtain ⟨hin, h⟩ := o_g h
    refine va_iald hx hb hK.1 hP 1 0 rfl rfl hin dX6_setShock_31 ?_
    refine lv_istore_n (lv' := [(2, .int (sa ((2 : Int32)).toNatClampNeg)), (0, .ref a0), (1, .int p1)]) hx hb dX6_setShock_32 rfl hl (by decide) rfl (fun ls hl => ?_)
    refine lv_aload_n hx hb dX6_setShock_33 rfl (lv_at hl 1 rfl) ?_
    refine va_get (D := G) (ci := 9) (v := .ref a1) (C := RX6) (T := TX6) (N := 12) hx hb hts hin6 hown hK.1 hP 0 rfl rfl 1 (by decide) hw2 (fun _ h9 => h9) rfl dX6_setShock_34 ?_
    refine lv_iconst (v := 2) hx hb dX6_setShock_37 (by decide) ?_
    refine lv_iload_n hx hb dX6_setShock_38 rfl (lv_at hl 2 rfl) ?_
    obtain ⟨hin, h⟩ := o_g h
    refine va_iast hx hb hK.1 hP hD hS 1 0 rfl rfl hin dX6_setShock_39 (fun H locs hP hD hS => ?_)
    have hP : va_P G vwCl [(a0, .inr (9, [.int (0 : Int32), .ref a1, .ref a2, .ref a3, .int x2.2, .ref a4, .int ln, .int nx, .int cd, .int dg, .int pw, .long hs])), (a1, .inl (cI, 378, .inl (upd sa ((2 : Int32)).toNatClampNeg p1))), (a2, .inl (cI, 378, .inl asd)), (a3, .inl (cI, 1512, .inl x2.1)), (a4, .inl (cI, 120, .inl mt))] H := hP
    have hD : va_D A [(a0, .inr (9, [.int (0 : Int32), .ref a1, .ref a2, .ref a3, .int x2.2, .ref a4, .int ln, .int nx, .int cd, .int dg, .int pw, .long hs])), (a1, .inl (cI, 378, .inl (upd sa ((2 : Int32)).toNatClampNeg p1))), (a2, .inl (cI, 378, .inl asd)), (a3, .inl (cI, 1512, .inl x2.1)), (a4, .inl (cI, 120, .inl mt))] := hD
    refine lv_iload_n hx hb dX6_setShock_40 rfl (lv_at hl 0 rfl) ?_
    obtain rfl := o_s h
    rw [hQ]
    exact end_i hx hb hr rfl hP hD hS dX6_setShock_41 hlocks
  · have h := o_t h hc
    refine lv_aload_n hx hb dX6_setShock_16 rfl (lv_at hl 0 rfl) ?_
    refine lv_iconst (v := 1) hx hb dX6_setShock_17 (by decide) ?_
    obtain ⟨x3, ex3, h⟩ := o_b h
    refine call_iV (As := [.int (1 : Int32)]) (rest := []) (ws2 := [(a0, .inr (9, [.int x3.2, .ref a1, .ref a2, .ref a3, .int sm, .ref a4, .int ln, .int nx, .int cd, .int dg, .int pw, .long hs])), (a1, .inl (cI, 378, .inl sa)), (a2, .inl (cI, 378, .inl asd)), (a3, .inl (cI, 1512, .inl sv)), (a4, .inl (cI, 120, .inl mt))]) ⟨hx, hb, hml, hown, hts⟩ (cX6_fails_ok l G cI cG a0 a1 a2 a3 a4 (0 : Int32) sa asd sv sm mt ln nx cd dg pw hs (1 : Int32) x3 ex3) (cwV 1 hts gX6_setShock_X6_fails rfl rfl rfl hdX6_fails ⟨Nat.le_of_ble_eq_true rfl, Nat.le_of_ble_eq_true rfl⟩) hP hD hS hA hK 9 rfl rfl rfl [0, 1, 2, 3, 4] rfl rfl rfl rfl rfl rfl rfl rfl hl.1 (Nat.le_of_ble_eq_true rfl) dX6_setShock_18 ⟨Nat.zero_le _, Nat.zero_le _⟩ (fun H locs hP hD hS => ?_)
    obtain rfl := o_s h
    rw [hQ]
    exact end_i hx hb hr rfl hP hD hS dX6_setShock_21 hlocks
theorem hdX6_effectsOn : yX6_effectsOn.cls = RX6 ∧ yX6_effectsOn.cls ≠ "java/lang/invoke/MethodHandle" ∧ yX6_effectsOn.cls ≠ "java/lang/invoke/VarHandle" ∧ (parseMethodDescriptor yX6_effectsOn.desc).map (fun d => d.parameters.length) = some 1 := by decide +kernel
set_option maxHeartbeats 4000000 in
set_option maxRecDepth 100000 in
theorem cX6_effectsOn_ok (l : Launch) (G : va_G) (cI cG : ClassId) (a0 a1 a2 a3 a4 : Nat) (fu : Nat) (th : Int32) (sa : (Nat → Int32)) (asd : (Nat → Int32)) (sv : (Nat → Int32)) (sm : Int32) (mt : (Nat → Int32)) (ln : Int32) (nx : Int32) (cd : Int32) (dg : Int32) (pw : Int32) (hs : Int64) (p1 : Int32) (out : Int32) (hf : fX6_effectsOn fu sa p1 = some out) : CI l G (tyz cI cG) yX6_effectsOn wsX6_effectsOn ({ frames := 1, cells := 0, slots := 0, locals := 22 } : Room) [.ref a0, .int p1] [(a0, .inr (9, [.int th, .ref a1, .ref a2, .ref a3, .int sm, .ref a4, .int ln, .int nx, .int cd, .int dg, .int pw, .long hs])), (a1, .inl (cI, 378, .inl sa)), (a2, .inl (cI, 378, .inl asd)), (a3, .inl (cI, 1512, .inl sv)), (a4, .inl (cI, 120, .inl mt))] out [(a0, .inr (9, [.int th, .ref a1, .ref a2, .ref a3, .int sm, .ref a4, .int ln, .int nx, .int cd, .int dg, .int pw, .long hs])), (a1, .inl (cI, 378, .inl sa)), (a2, .inl (cI, 378, .inl asd)), (a3, .inl (cI, 1512, .inl sv)), (a4, .inl (cI, 120, .inl mt))] := by
  intro sz
  refine Met.ofW (cc := cX6_effectsOn) (maxL := 4) (ret := (some .int)) (by decide) rfl ?_
  intro p e s m args below meth c s₁ B hml hv
  obtain ⟨rfl, hsz, hP, hK, hD0⟩ := hv
  have hx := B.exec
  have hb := B.bytes
  have hr := B.returns
  have hts := atoms_spec (ws := wsX6_effectsOn) B.pre
  have hown : s.vm.findClass RX6 = some m.cls := findClass_of_methodNamed B.named
  have hlocks := B.notSynchronized
  subst hsz
  have hD := hD0.self (sz := s.heap.size)
  generalize hAe : va_A [(a0, .inr (9, [.int th, .ref a1, .ref a2, .ref a3, .int sm, .ref a4, .int ln, .int nx, .int cd, .int dg, .int pw, .long hs])), (a1, .inl (cI, 378, .inl sa)), (a2, .inl (cI, 378, .inl asd)), (a3, .inl (cI, 1512, .inl sv)), (a4, .inl (cI, 120, .inl mt))] s.heap.size = A at hD ⊢
  have hA : ∀ q : Nat, s.heap.size ≤ q → A q := fun q h => by rw [← hAe]; exact Or.inr h
  have hS : va_S A s.heap s.heap [] := va_S.rf
  have hw0 := hts (.fieldLink RX6 7 "SpeedTurnsModel" "s" "[I") (List.mem_of_getElem? (i := 1) rfl)
  have hin6 : ∀ w ∈ u_ws RX6 TX6 12, w ∈ wsX6_effectsOn := by decide +kernel
  show W p l e ({ frames := 1, cells := 0, slots := 0, locals := 22 } : Room) s m _ below meth c s.heap [] 0 0 _ _
  refine W_genQ (fun Q hQ => ?_)
  have L4 : ∀ (k : Nat) (v2 : Int32) (v3 : Int32) (H : Heap) (locs : List Loc) (ls : Array Slot), fX6_effectsOn_L4 fu sa p1 k v2 v3 = some out → va_P G vwCl [(a0, .inr (9, [.int th, .ref a1, .ref a2, .ref a3, .int sm, .ref a4, .int ln, .int nx, .int cd, .int dg, .int pw, .long hs])), (a1, .inl (cI, 378, .inl sa)), (a2, .inl (cI, 378, .inl asd)), (a3, .inl (cI, 1512, .inl sv)), (a4, .inl (cI, 120, .inl mt))] H → va_D A [(a0, .inr (9, [.int th, .ref a1, .ref a2, .ref a3, .int sm, .ref a4, .int ln, .int nx, .int cd, .int dg, .int pw, .long hs])), (a1, .inl (cI, 378, .inl sa)), (a2, .inl (cI, 378, .inl asd)), (a3, .inl (cI, 1512, .inl sv)), (a4, .inl (cI, 120, .inl mt))] → va_S A s.heap H locs → lv_has ls 4 [(0, .ref a0), (1, .int p1), (2, .int v2), (3, .int v3)] → W p l e ({ frames := 1, cells := 0, slots := 0, locals := 22 } : Room) s m ([.ref a0, .int p1] : List Value).toArray below meth c H locs 0 0 Q (F0 m 4 ls []) := by
    intro k
    induction k with
    | zero => intro v2 v3 H locs ls h hP hD hS hl; rw [fX6_effectsOn_L4] at h; exact o_n h
    | succ k ih =>
      intro v2 v3 H locs ls h hP hD hS hl
      rw [fX6_effectsOn_L4] at h
      refine lv_iload_n hx hb dX6_effectsOn_4 rfl (lv_at hl 3 rfl) ?_
      refine lv_aload_n hx hb dX6_effectsOn_5 rfl (lv_at hl 0 rfl) ?_
      refine va_get (D := G) (ci := 9) (v := .ref a1) (C := RX6) (T := TX6) (N := 12) hx hb hts hin6 hown hK.1 hP 0 rfl rfl 1 (by decide) hw0 (fun _ h9 => h9) rfl dX6_effectsOn_6 ?_
      refine lv_iconst (v := 1) hx hb dX6_effectsOn_9 (by decide) ?_
      obtain ⟨hin, h⟩ := o_g h
      refine va_iald hx hb hK.1 hP 1 0 rfl rfl hin dX6_effectsOn_10 ?_
      refine lv_icmp_ge (tgt := 38) hx hb dX6_effectsOn_11 (by decide) (fun hc => ?_) (fun hc => ?_)
      · have h := o_t h hc
        refine lv_iload_n hx hb dX6_effectsOn_38 rfl (lv_at hl 2 rfl) ?_
        obtain rfl := o_s h
        rw [hQ]
        exact end_i hx hb hr rfl hP hD hS dX6_effectsOn_39 hlocks
      · have h := o_f h hc
        refine lv_iload_n hx hb dX6_effectsOn_14 rfl (lv_at hl 2 rfl) ?_
        refine lv_aload_n hx hb dX6_effectsOn_15 rfl (lv_at hl 0 rfl) ?_
        refine lv_iload_n hx hb dX6_effectsOn_16 rfl (lv_at hl 3 rfl) ?_
        refine lv_iconst (v := 3) hx hb dX6_effectsOn_17 (by decide) ?_
        obtain ⟨x1, ex1, h⟩ := o_b h
        refine call_iV (As := [.int v3, .int (3 : Int32)]) (rest := [.int v2]) (ws2 := [(a0, .inr (9, [.int th, .ref a1, .ref a2, .ref a3, .int sm, .ref a4, .int ln, .int nx, .int cd, .int dg, .int pw, .long hs])), (a1, .inl (cI, 378, .inl sa)), (a2, .inl (cI, 378, .inl asd)), (a3, .inl (cI, 1512, .inl sv)), (a4, .inl (cI, 120, .inl mt))]) ⟨hx, hb, hml, hown, hts⟩ (cX6_ofEffect_ok l G cI cG a0 a1 a2 a3 a4 th sa asd sv sm mt ln nx cd dg pw hs v3 (3 : Int32) x1 ex1) (cwV 2 hts gX6_effectsOn_X6_ofEffect rfl rfl rfl hdX6_ofEffect ⟨Nat.le_of_ble_eq_true rfl, Nat.le_of_ble_eq_true rfl⟩) hP hD hS hA hK 9 rfl rfl rfl [0, 1, 2, 3, 4] rfl rfl rfl rfl rfl rfl rfl rfl hl.1 (Nat.le_of_ble_eq_true rfl) dX6_effectsOn_18 ⟨Nat.zero_le _, Nat.zero_le _⟩ (fun H locs hP hD hS => ?_)
        refine lv_iload_n hx hb dX6_effectsOn_21 rfl (lv_at hl 1 rfl) ?_
        refine lv_icmp_ne (tgt := 29) hx hb dX6_effectsOn_22 (by decide) (fun hc => ?_) (fun hc => ?_)
        · have h := o_f h hc
          refine lv_iconst (v := 0) hx hb dX6_effectsOn_29 (by decide) ?_
          refine lv_iadd hx hb dX6_effectsOn_30 ?_
          refine lv_istore_n (lv' := [(2, .int (v2 + (0 : Int32))), (0, .ref a0), (1, .int p1), (3, .int v3)]) hx hb dX6_effectsOn_31 rfl hl (by decide) rfl (fun ls hl => ?_)
          refine lv_iinc (v := (v3 + 1)) (lv' := [(3, .int (v3 + 1)), (2, .int (v2 + (0 : Int32))), (0, .ref a0), (1, .int p1)]) hx hb dX6_effectsOn_32 hl (k := 3) rfl rfl (by decide) rfl (fun ls hl => ?_)
          refine lv_goto (tgt := 4) hx hb dX6_effectsOn_35 (by decide) ?_
          exact ih (v2 + (0 : Int32)) (v3 + 1) _ _ _ h hP hD hS (lv_sub hl [2, 3, 1, 0] rfl)
        · have h := o_t h hc
          refine lv_iconst (v := 1) hx hb dX6_effectsOn_25 (by decide) ?_
          refine lv_goto (tgt := 30) hx hb dX6_effectsOn_26 (by decide) ?_
          refine lv_iadd hx hb dX6_effectsOn_30 ?_
          refine lv_istore_n (lv' := [(2, .int (v2 + (1 : Int32))), (0, .ref a0), (1, .int p1), (3, .int v3)]) hx hb dX6_effectsOn_31 rfl hl (by decide) rfl (fun ls hl => ?_)
          refine lv_iinc (v := (v3 + 1)) (lv' := [(3, .int (v3 + 1)), (2, .int (v2 + (1 : Int32))), (0, .ref a0), (1, .int p1)]) hx hb dX6_effectsOn_32 hl (k := 3) rfl rfl (by decide) rfl (fun ls hl => ?_)
          refine lv_goto (tgt := 4) hx hb dX6_effectsOn_35 (by decide) ?_
          exact ih (v2 + (1 : Int32)) (v3 + 1) _ _ _ h hP hD hS (lv_sub hl [2, 3, 1, 0] rfl)
  have h := hf
  rw [fX6_effectsOn] at h
  have hl := lv_entry ([.ref a0, .int p1]) (n := 4) (Nat.le_of_ble_eq_true rfl)
  rw [lg_entry_eq]
  generalize (lg_sl ([.ref a0, .int p1]) ++ List.replicate (4 - (lg_sl ([.ref a0, .int p1])).length) Slot.unset).toArray = ls at hl ⊢
  have hl : lv_has ls 4 [(0, .ref a0), (1, .int p1)] := hl
  refine lv_iconst (v := 0) hx hb dX6_effectsOn_0 (by decide) ?_
  refine lv_istore_n (lv' := [(2, .int (0 : Int32)), (0, .ref a0), (1, .int p1)]) hx hb dX6_effectsOn_1 rfl hl (by decide) rfl (fun ls hl => ?_)
  refine lv_iconst (v := 0) hx hb dX6_effectsOn_2 (by decide) ?_
  refine lv_istore_n (lv' := [(3, .int (0 : Int32)), (2, .int (0 : Int32)), (0, .ref a0), (1, .int p1)]) hx hb dX6_effectsOn_3 rfl hl (by decide) rfl (fun ls hl => ?_)
  exact L4 fu (0 : Int32) (0 : Int32) _ _ _ h hP hD hS (lv_sub hl [2, 3, 1, 0] rfl)
theorem hdX6_valueOfFighter : yX6_valueOfFighter.cls = RX6 ∧ yX6_valueOfFighter.cls ≠ "java/lang/invoke/MethodHandle" ∧ yX6_valueOfFighter.cls ≠ "java/lang/invoke/VarHandle" ∧ (parseMethodDescriptor yX6_valueOfFighter.desc).map (fun d => d.parameters.length) = some 2 := by decide +kernel
set_option maxHeartbeats 4000000 in
set_option maxRecDepth 100000 in
theorem cX6_valueOfFighter_ok (l : Launch) (G : va_G) (cI cG : ClassId) (a0 a1 a2 a3 a4 : Nat) (fu : Nat) (th : Int32) (sa : (Nat → Int32)) (asd : (Nat → Int32)) (sv : (Nat → Int32)) (sm : Int32) (mt : (Nat → Int32)) (ln : Int32) (nx : Int32) (cd : Int32) (dg : Int32) (pw : Int32) (hs : Int64) (p1 : Int32) (p2 : Int32) (out : Int32) (hf : fX6_valueOfFighter fu sa p1 p2 = some out) : CI l G (tyz cI cG) yX6_valueOfFighter wsX6_valueOfFighter ({ frames := 3, cells := 0, slots := 0, locals := 68 } : Room) [.ref a0, .int p1, .int p2] [(a0, .inr (9, [.int th, .ref a1, .ref a2, .ref a3, .int sm, .ref a4, .int ln, .int nx, .int cd, .int dg, .int pw, .long hs])), (a1, .inl (cI, 378, .inl sa)), (a2, .inl (cI, 378, .inl asd)), (a3, .inl (cI, 1512, .inl sv)), (a4, .inl (cI, 120, .inl mt))] out [(a0, .inr (9, [.int th, .ref a1, .ref a2, .ref a3, .int sm, .ref a4, .int ln, .int nx, .int cd, .int dg, .int pw, .long hs])), (a1, .inl (cI, 378, .inl sa)), (a2, .inl (cI, 378, .inl asd)), (a3, .inl (cI, 1512, .inl sv)), (a4, .inl (cI, 120, .inl mt))] := by
  intro sz
  refine Met.ofW (cc := cX6_valueOfFighter) (maxL := 3) (ret := (some .int)) (by decide) rfl ?_
  intro p e s m args below meth c s₁ B hml hv
  obtain ⟨rfl, hsz, hP, hK, hD0⟩ := hv
  have hx := B.exec
  have hb := B.bytes
  have hr := B.returns
  have hts := atoms_spec (ws := wsX6_valueOfFighter) B.pre
  have hown : s.vm.findClass RX6 = some m.cls := findClass_of_methodNamed B.named
  have hlocks := B.notSynchronized
  subst hsz
  have hD := hD0.self (sz := s.heap.size)
  generalize hAe : va_A [(a0, .inr (9, [.int th, .ref a1, .ref a2, .ref a3, .int sm, .ref a4, .int ln, .int nx, .int cd, .int dg, .int pw, .long hs])), (a1, .inl (cI, 378, .inl sa)), (a2, .inl (cI, 378, .inl asd)), (a3, .inl (cI, 1512, .inl sv)), (a4, .inl (cI, 120, .inl mt))] s.heap.size = A at hD ⊢
  have hA : ∀ q : Nat, s.heap.size ≤ q → A q := fun q h => by rw [← hAe]; exact Or.inr h
  have hS : va_S A s.heap s.heap [] := va_S.rf
  show W p l e ({ frames := 3, cells := 0, slots := 0, locals := 68 } : Room) s m _ below meth c s.heap [] 0 0 _ _
  refine W_genQ (fun Q hQ => ?_)
  have h := hf
  rw [fX6_valueOfFighter] at h
  have hl := lv_entry ([.ref a0, .int p1, .int p2]) (n := 3) (Nat.le_of_ble_eq_true rfl)
  rw [lg_entry_eq]
  generalize (lg_sl ([.ref a0, .int p1, .int p2]) ++ List.replicate (3 - (lg_sl ([.ref a0, .int p1, .int p2])).length) Slot.unset).toArray = ls at hl ⊢
  have hl : lv_has ls 3 [(0, .ref a0), (1, .int p1), (2, .int p2)] := hl
  refine lv_iload_n hx hb dX6_valueOfFighter_0 rfl (lv_at hl 2 rfl) ?_
  by_cases c1 : p2 = 3
  · have h := o_t h c1
    refine lv_tableIn (off := 39) (tgt := 40) hx hb dX6_valueOfFighter_1 (by rw [c1]; decide) (by rw [c1]; decide) (by rw [c1]; rfl) (by decide) ?_
    refine lv_aload_n hx hb dX6_valueOfFighter_40 rfl (lv_at hl 0 rfl) ?_
    refine lv_iload_n hx hb dX6_valueOfFighter_41 rfl (lv_at hl 1 rfl) ?_
    obtain ⟨x2, ex2, h⟩ := o_b h
    refine call_iV (As := [.int p1]) (rest := []) (ws2 := [(a0, .inr (9, [.int th, .ref a1, .ref a2, .ref a3, .int sm, .ref a4, .int ln, .int nx, .int cd, .int dg, .int pw, .long hs])), (a1, .inl (cI, 378, .inl sa)), (a2, .inl (cI, 378, .inl asd)), (a3, .inl (cI, 1512, .inl sv)), (a4, .inl (cI, 120, .inl mt))]) ⟨hx, hb, hml, hown, hts⟩ (cX6_speedOf_ok l G cI cG a0 a1 a2 a3 a4 fu th sa asd sv sm mt ln nx cd dg pw hs p1 x2 ex2) (cwV 1 hts gX6_valueOfFighter_X6_speedOf rfl rfl rfl hdX6_speedOf ⟨Nat.le_of_ble_eq_true rfl, Nat.le_of_ble_eq_true rfl⟩) hP hD hS hA hK 9 rfl rfl rfl [0, 1, 2, 3, 4] rfl rfl rfl rfl rfl rfl rfl rfl hl.1 (Nat.le_of_ble_eq_true rfl) dX6_valueOfFighter_42 ⟨Nat.zero_le _, Nat.zero_le _⟩ (fun H locs hP hD hS => ?_)
    obtain rfl := o_s h
    rw [hQ]
    exact end_i hx hb hr rfl hP hD hS dX6_valueOfFighter_45 hlocks
  have h := o_f h c1
  by_cases c3 : p2 = 4
  · have h := o_t h c3
    refine lv_tableIn (off := 45) (tgt := 46) hx hb dX6_valueOfFighter_1 (by rw [c3]; decide) (by rw [c3]; decide) (by rw [c3]; rfl) (by decide) ?_
    refine lv_aload_n hx hb dX6_valueOfFighter_46 rfl (lv_at hl 0 rfl) ?_
    refine lv_iload_n hx hb dX6_valueOfFighter_47 rfl (lv_at hl 1 rfl) ?_
    refine lv_iconst (v := 3) hx hb dX6_valueOfFighter_48 (by decide) ?_
    obtain ⟨x4, ex4, h⟩ := o_b h
    refine call_iV (As := [.int p1, .int (3 : Int32)]) (rest := []) (ws2 := [(a0, .inr (9, [.int th, .ref a1, .ref a2, .ref a3, .int sm, .ref a4, .int ln, .int nx, .int cd, .int dg, .int pw, .long hs])), (a1, .inl (cI, 378, .inl sa)), (a2, .inl (cI, 378, .inl asd)), (a3, .inl (cI, 1512, .inl sv)), (a4, .inl (cI, 120, .inl mt))]) ⟨hx, hb, hml, hown, hts⟩ (cX6_of_ok l G cI cG a0 a1 a2 a3 a4 th sa asd sv sm mt ln nx cd dg pw hs p1 (3 : Int32) x4 ex4) (cwV 2 hts gX6_valueOfFighter_X6_of rfl rfl rfl hdX6_of ⟨Nat.le_of_ble_eq_true rfl, Nat.le_of_ble_eq_true rfl⟩) hP hD hS hA hK 9 rfl rfl rfl [0, 1, 2, 3, 4] rfl rfl rfl rfl rfl rfl rfl rfl hl.1 (Nat.le_of_ble_eq_true rfl) dX6_valueOfFighter_49 ⟨Nat.zero_le _, Nat.zero_le _⟩ (fun H locs hP hD hS => ?_)
    obtain rfl := o_s h
    rw [hQ]
    exact end_i hx hb hr rfl hP hD hS dX6_valueOfFighter_52 hlocks
  have h := o_f h c3
  by_cases c5 : p2 = 5
  · have h := o_t h c5
    refine lv_tableIn (off := 52) (tgt := 53) hx hb dX6_valueOfFighter_1 (by rw [c5]; decide) (by rw [c5]; decide) (by rw [c5]; rfl) (by decide) ?_
    refine lv_aload_n hx hb dX6_valueOfFighter_53 rfl (lv_at hl 0 rfl) ?_
    refine lv_iload_n hx hb dX6_valueOfFighter_54 rfl (lv_at hl 1 rfl) ?_
    refine lv_iconst (v := 4) hx hb dX6_valueOfFighter_55 (by decide) ?_
    obtain ⟨x6, ex6, h⟩ := o_b h
    refine call_iV (As := [.int p1, .int (4 : Int32)]) (rest := []) (ws2 := [(a0, .inr (9, [.int th, .ref a1, .ref a2, .ref a3, .int sm, .ref a4, .int ln, .int nx, .int cd, .int dg, .int pw, .long hs])), (a1, .inl (cI, 378, .inl sa)), (a2, .inl (cI, 378, .inl asd)), (a3, .inl (cI, 1512, .inl sv)), (a4, .inl (cI, 120, .inl mt))]) ⟨hx, hb, hml, hown, hts⟩ (cX6_of_ok l G cI cG a0 a1 a2 a3 a4 th sa asd sv sm mt ln nx cd dg pw hs p1 (4 : Int32) x6 ex6) (cwV 2 hts gX6_valueOfFighter_X6_of rfl rfl rfl hdX6_of ⟨Nat.le_of_ble_eq_true rfl, Nat.le_of_ble_eq_true rfl⟩) hP hD hS hA hK 9 rfl rfl rfl [0, 1, 2, 3, 4] rfl rfl rfl rfl rfl rfl rfl rfl hl.1 (Nat.le_of_ble_eq_true rfl) dX6_valueOfFighter_56 ⟨Nat.zero_le _, Nat.zero_le _⟩ (fun H locs hP hD hS => ?_)
    obtain rfl := o_s h
    rw [hQ]
    exact end_i hx hb hr rfl hP hD hS dX6_valueOfFighter_59 hlocks
  have h := o_f h c5
  by_cases c7 : p2 = 6
  · have h := o_t h c7
    refine lv_tableIn (off := 59) (tgt := 60) hx hb dX6_valueOfFighter_1 (by rw [c7]; decide) (by rw [c7]; decide) (by rw [c7]; rfl) (by decide) ?_
    refine lv_aload_n hx hb dX6_valueOfFighter_60 rfl (lv_at hl 0 rfl) ?_
    refine lv_iload_n hx hb dX6_valueOfFighter_61 rfl (lv_at hl 1 rfl) ?_
    obtain ⟨x8, ex8, h⟩ := o_b h
    refine call_iV (As := [.int p1]) (rest := []) (ws2 := [(a0, .inr (9, [.int th, .ref a1, .ref a2, .ref a3, .int sm, .ref a4, .int ln, .int nx, .int cd, .int dg, .int pw, .long hs])), (a1, .inl (cI, 378, .inl sa)), (a2, .inl (cI, 378, .inl asd)), (a3, .inl (cI, 1512, .inl sv)), (a4, .inl (cI, 120, .inl mt))]) ⟨hx, hb, hml, hown, hts⟩ (cX6_placeOf_ok l G cI cG a0 a1 a2 a3 a4 fu th sa asd sv sm mt ln nx cd dg pw hs p1 x8 ex8) (cwV 1 hts gX6_valueOfFighter_X6_placeOf rfl rfl rfl hdX6_placeOf ⟨Nat.le_of_ble_eq_true rfl, Nat.le_of_ble_eq_true rfl⟩) hP hD hS hA hK 9 rfl rfl rfl [0, 1, 2, 3, 4] rfl rfl rfl rfl rfl rfl rfl rfl hl.1 (Nat.le_of_ble_eq_true rfl) dX6_valueOfFighter_62 ⟨Nat.zero_le _, Nat.zero_le _⟩ (fun H locs hP hD hS => ?_)
    obtain rfl := o_s h
    rw [hQ]
    exact end_i hx hb hr rfl hP hD hS dX6_valueOfFighter_65 hlocks
  have h := o_f h c7
  by_cases c9 : p2 = 7
  · have h := o_t h c9
    refine lv_tableIn (off := 65) (tgt := 66) hx hb dX6_valueOfFighter_1 (by rw [c9]; decide) (by rw [c9]; decide) (by rw [c9]; rfl) (by decide) ?_
    refine lv_aload_n hx hb dX6_valueOfFighter_66 rfl (lv_at hl 0 rfl) ?_
    refine lv_iload_n hx hb dX6_valueOfFighter_67 rfl (lv_at hl 1 rfl) ?_
    obtain ⟨x10, ex10, h⟩ := o_b h
    refine call_iV (As := [.int p1]) (rest := []) (ws2 := [(a0, .inr (9, [.int th, .ref a1, .ref a2, .ref a3, .int sm, .ref a4, .int ln, .int nx, .int cd, .int dg, .int pw, .long hs])), (a1, .inl (cI, 378, .inl sa)), (a2, .inl (cI, 378, .inl asd)), (a3, .inl (cI, 1512, .inl sv)), (a4, .inl (cI, 120, .inl mt))]) ⟨hx, hb, hml, hown, hts⟩ (cX6_heldBy_ok l G cI cG a0 a1 a2 a3 a4 fu th sa asd sv sm mt ln nx cd dg pw hs p1 x10 ex10) (cwV 1 hts gX6_valueOfFighter_X6_heldBy rfl rfl rfl hdX6_heldBy ⟨Nat.le_of_ble_eq_true rfl, Nat.le_of_ble_eq_true rfl⟩) hP hD hS hA hK 9 rfl rfl rfl [0, 1, 2, 3, 4] rfl rfl rfl rfl rfl rfl rfl rfl hl.1 (Nat.le_of_ble_eq_true rfl) dX6_valueOfFighter_68 ⟨Nat.zero_le _, Nat.zero_le _⟩ (fun H locs hP hD hS => ?_)
    obtain rfl := o_s h
    rw [hQ]
    exact end_i hx hb hr rfl hP hD hS dX6_valueOfFighter_71 hlocks
  have h := o_f h c9
  by_cases c11 : p2 = 8
  · have h := o_t h c11
    refine lv_tableIn (off := 71) (tgt := 72) hx hb dX6_valueOfFighter_1 (by rw [c11]; decide) (by rw [c11]; decide) (by rw [c11]; rfl) (by decide) ?_
    refine lv_aload_n hx hb dX6_valueOfFighter_72 rfl (lv_at hl 0 rfl) ?_
    refine lv_iload_n hx hb dX6_valueOfFighter_73 rfl (lv_at hl 1 rfl) ?_
    obtain ⟨x12, ex12, h⟩ := o_b h
    refine call_iV (As := [.int p1]) (rest := []) (ws2 := [(a0, .inr (9, [.int th, .ref a1, .ref a2, .ref a3, .int sm, .ref a4, .int ln, .int nx, .int cd, .int dg, .int pw, .long hs])), (a1, .inl (cI, 378, .inl sa)), (a2, .inl (cI, 378, .inl asd)), (a3, .inl (cI, 1512, .inl sv)), (a4, .inl (cI, 120, .inl mt))]) ⟨hx, hb, hml, hown, hts⟩ (cX6_effectsOn_ok l G cI cG a0 a1 a2 a3 a4 fu th sa asd sv sm mt ln nx cd dg pw hs p1 x12 ex12) (cwV 1 hts gX6_valueOfFighter_X6_effectsOn rfl rfl rfl hdX6_effectsOn ⟨Nat.le_of_ble_eq_true rfl, Nat.le_of_ble_eq_true rfl⟩) hP hD hS hA hK 9 rfl rfl rfl [0, 1, 2, 3, 4] rfl rfl rfl rfl rfl rfl rfl rfl hl.1 (Nat.le_of_ble_eq_true rfl) dX6_valueOfFighter_74 ⟨Nat.zero_le _, Nat.zero_le _⟩ (fun H locs hP hD hS => ?_)
    obtain rfl := o_s h
    rw [hQ]
    exact end_i hx hb hr rfl hP hD hS dX6_valueOfFighter_77 hlocks
  have h := o_f h c11
  have kc1 := ne_ti c1 (z := 3) (by decide)
  have kc3 := ne_ti c3 (z := 4) (by decide)
  have kc5 := ne_ti c5 (z := 5) (by decide)
  have kc7 := ne_ti c7 (z := 6) (by decide)
  have kc9 := ne_ti c9 (z := 7) (by decide)
  have kc11 := ne_ti c11 (z := 8) (by decide)
  refine lv_tableOut (tgt := 78) hx hb dX6_valueOfFighter_1 (by omega) (by decide) ?_
  refine lv_aload_n hx hb dX6_valueOfFighter_78 rfl (lv_at hl 0 rfl) ?_
  refine lv_iload_n hx hb dX6_valueOfFighter_79 rfl (lv_at hl 1 rfl) ?_
  refine lv_iload_n hx hb dX6_valueOfFighter_80 rfl (lv_at hl 2 rfl) ?_
  obtain ⟨x13, ex13, h⟩ := o_b h
  refine call_iV (As := [.int p1, .int p2]) (rest := []) (ws2 := [(a0, .inr (9, [.int th, .ref a1, .ref a2, .ref a3, .int sm, .ref a4, .int ln, .int nx, .int cd, .int dg, .int pw, .long hs])), (a1, .inl (cI, 378, .inl sa)), (a2, .inl (cI, 378, .inl asd)), (a3, .inl (cI, 1512, .inl sv)), (a4, .inl (cI, 120, .inl mt))]) ⟨hx, hb, hml, hown, hts⟩ (cX6_of_ok l G cI cG a0 a1 a2 a3 a4 th sa asd sv sm mt ln nx cd dg pw hs p1 p2 x13 ex13) (cwV 2 hts gX6_valueOfFighter_X6_of rfl rfl rfl hdX6_of ⟨Nat.le_of_ble_eq_true rfl, Nat.le_of_ble_eq_true rfl⟩) hP hD hS hA hK 9 rfl rfl rfl [0, 1, 2, 3, 4] rfl rfl rfl rfl rfl rfl rfl rfl hl.1 (Nat.le_of_ble_eq_true rfl) dX6_valueOfFighter_81 ⟨Nat.zero_le _, Nat.zero_le _⟩ (fun H locs hP hD hS => ?_)
  obtain rfl := o_s h
  rw [hQ]
  exact end_i hx hb hr rfl hP hD hS dX6_valueOfFighter_84 hlocks
theorem hdX6_fighter : yX6_fighter.cls = RX6 ∧ yX6_fighter.cls ≠ "java/lang/invoke/MethodHandle" ∧ yX6_fighter.cls ≠ "java/lang/invoke/VarHandle" ∧ (parseMethodDescriptor yX6_fighter.desc).map (fun d => d.parameters.length) = some 2 := by decide +kernel
set_option maxHeartbeats 4000000 in
set_option maxRecDepth 100000 in
theorem cX6_fighter_ok (l : Launch) (G : va_G) (cI cG : ClassId) (a0 a1 a2 a3 a4 : Nat) (fu : Nat) (th : Int32) (sa : (Nat → Int32)) (asd : (Nat → Int32)) (sv : (Nat → Int32)) (sm : Int32) (mt : (Nat → Int32)) (ln : Int32) (nx : Int32) (cd : Int32) (dg : Int32) (pw : Int32) (hs : Int64) (p1 : Int32) (p2 : Int32) (out : Int32 × Int32) (hf : fX6_fighter fu th sa p1 p2 = some out) : CI l G (tyz cI cG) yX6_fighter wsX6_fighter ({ frames := 4, cells := 0, slots := 0, locals := 90 } : Room) [.ref a0, .int p1, .int p2] [(a0, .inr (9, [.int th, .ref a1, .ref a2, .ref a3, .int sm, .ref a4, .int ln, .int nx, .int cd, .int dg, .int pw, .long hs])), (a1, .inl (cI, 378, .inl sa)), (a2, .inl (cI, 378, .inl asd)), (a3, .inl (cI, 1512, .inl sv)), (a4, .inl (cI, 120, .inl mt))] out.1 [(a0, .inr (9, [.int out.2, .ref a1, .ref a2, .ref a3, .int sm, .ref a4, .int ln, .int nx, .int cd, .int dg, .int pw, .long hs])), (a1, .inl (cI, 378, .inl sa)), (a2, .inl (cI, 378, .inl asd)), (a3, .inl (cI, 1512, .inl sv)), (a4, .inl (cI, 120, .inl mt))] := by
  intro sz
  refine Met.ofW (cc := cX6_fighter) (maxL := 3) (ret := (some .int)) (by decide) rfl ?_
  intro p e s m args below meth c s₁ B hml hv
  obtain ⟨rfl, hsz, hP, hK, hD0⟩ := hv
  have hx := B.exec
  have hb := B.bytes
  have hr := B.returns
  have hts := atoms_spec (ws := wsX6_fighter) B.pre
  have hown : s.vm.findClass RX6 = some m.cls := findClass_of_methodNamed B.named
  have hlocks := B.notSynchronized
  subst hsz
  have hD := hD0.self (sz := s.heap.size)
  generalize hAe : va_A [(a0, .inr (9, [.int th, .ref a1, .ref a2, .ref a3, .int sm, .ref a4, .int ln, .int nx, .int cd, .int dg, .int pw, .long hs])), (a1, .inl (cI, 378, .inl sa)), (a2, .inl (cI, 378, .inl asd)), (a3, .inl (cI, 1512, .inl sv)), (a4, .inl (cI, 120, .inl mt))] s.heap.size = A at hD ⊢
  have hA : ∀ q : Nat, s.heap.size ≤ q → A q := fun q h => by rw [← hAe]; exact Or.inr h
  have hS : va_S A s.heap s.heap [] := va_S.rf
  have hw0 := hts (.fieldLink RX6 22 "SpeedTurnsModel" "thrown" "I") (List.mem_of_getElem? (i := 1) rfl)
  have hin6 : ∀ w ∈ u_ws RX6 TX6 12, w ∈ wsX6_fighter := by decide +kernel
  show W p l e ({ frames := 4, cells := 0, slots := 0, locals := 90 } : Room) s m _ below meth c s.heap [] 0 0 _ _
  refine W_genQ (fun Q hQ => ?_)
  have h := hf
  rw [fX6_fighter] at h
  have hl := lv_entry ([.ref a0, .int p1, .int p2]) (n := 3) (Nat.le_of_ble_eq_true rfl)
  rw [lg_entry_eq]
  generalize (lg_sl ([.ref a0, .int p1, .int p2]) ++ List.replicate (3 - (lg_sl ([.ref a0, .int p1, .int p2])).length) Slot.unset).toArray = ls at hl ⊢
  have hl : lv_has ls 3 [(0, .ref a0), (1, .int p1), (2, .int p2)] := hl
  refine lv_aload_n hx hb dX6_fighter_0 rfl (lv_at hl 0 rfl) ?_
  refine lv_iconst (v := 0) hx hb dX6_fighter_1 (by decide) ?_
  refine va_put (D := G) (ci := 9) (v := .int (0 : Int32)) (ty := .int) (C := RX6) (T := TX6) (N := 12) hx hb hts hin6 tyX6 tyX6_ok nmX6 hown hK.1 hP hD hS 0 rfl rfl 0 (by decide) hw0 (fun _ h9 => h9) rfl (by decide +kernel) rfl rfl (Nat.le_of_ble_eq_true rfl) dX6_fighter_2 (fun H locs hP hD hS => ?_)
  have hP : va_P G vwCl [(a0, .inr (9, [.int (0 : Int32), .ref a1, .ref a2, .ref a3, .int sm, .ref a4, .int ln, .int nx, .int cd, .int dg, .int pw, .long hs])), (a1, .inl (cI, 378, .inl sa)), (a2, .inl (cI, 378, .inl asd)), (a3, .inl (cI, 1512, .inl sv)), (a4, .inl (cI, 120, .inl mt))] H := hP
  have hD : va_D A [(a0, .inr (9, [.int (0 : Int32), .ref a1, .ref a2, .ref a3, .int sm, .ref a4, .int ln, .int nx, .int cd, .int dg, .int pw, .long hs])), (a1, .inl (cI, 378, .inl sa)), (a2, .inl (cI, 378, .inl asd)), (a3, .inl (cI, 1512, .inl sv)), (a4, .inl (cI, 120, .inl mt))] := hD
  refine lv_aload_n hx hb dX6_fighter_5 rfl (lv_at hl 0 rfl) ?_
  refine lv_iload_n hx hb dX6_fighter_6 rfl (lv_at hl 1 rfl) ?_
  obtain ⟨x1, ex1, h⟩ := o_b h
  refine call_iV (As := [.int p1]) (rest := []) (ws2 := [(a0, .inr (9, [.int (0 : Int32), .ref a1, .ref a2, .ref a3, .int sm, .ref a4, .int ln, .int nx, .int cd, .int dg, .int pw, .long hs])), (a1, .inl (cI, 378, .inl sa)), (a2, .inl (cI, 378, .inl asd)), (a3, .inl (cI, 1512, .inl sv)), (a4, .inl (cI, 120, .inl mt))]) ⟨hx, hb, hml, hown, hts⟩ (cX6_isFighter_ok l G cI cG a0 a1 a2 a3 a4 (0 : Int32) sa asd sv sm mt ln nx cd dg pw hs p1 x1 ex1) (cwV 1 hts gX6_fighter_X6_isFighter rfl rfl rfl hdX6_isFighter ⟨Nat.le_of_ble_eq_true rfl, Nat.le_of_ble_eq_true rfl⟩) hP hD hS hA hK 9 rfl rfl rfl [0, 1, 2, 3, 4] rfl rfl rfl rfl rfl rfl rfl rfl hl.1 (Nat.le_of_ble_eq_true rfl) dX6_fighter_7 ⟨Nat.zero_le _, Nat.zero_le _⟩ (fun H locs hP hD hS => ?_)
  refine lv_if_ne (tgt := 19) hx hb dX6_fighter_10 (by decide) (fun hc => ?_) (fun hc => ?_)
  · have h := o_f h hc
    refine lv_iload_n hx hb dX6_fighter_19 rfl (lv_at hl 2 rfl) ?_
    refine lv_iconst (v := 0) hx hb dX6_fighter_20 (by decide) ?_
    refine lv_bipush (v := 8) hx hb dX6_fighter_21 (by decide) ?_
    obtain ⟨x2, ex2, h⟩ := o_b h
    refine call_iS (As := [.int p2, .int (0 : Int32), .int (8 : Int32)]) (rest := []) (ws2 := [(a0, .inr (9, [.int (0 : Int32), .ref a1, .ref a2, .ref a3, .int sm, .ref a4, .int ln, .int nx, .int cd, .int dg, .int pw, .long hs])), (a1, .inl (cI, 378, .inl sa)), (a2, .inl (cI, 378, .inl asd)), (a3, .inl (cI, 1512, .inl sv)), (a4, .inl (cI, 120, .inl mt))]) ⟨hx, hb, hml, hown, hts⟩ (cX6_in_ok l G cI cG p2 (0 : Int32) (8 : Int32) x2 ex2) (va_cwS 3 hts gX6_fighter_X6_in rfl rfl rfl hdX6_in ⟨Nat.le_of_ble_eq_true rfl, Nat.le_of_ble_eq_true rfl⟩) hP hD hS hA hK [] rfl rfl rfl rfl rfl rfl rfl rfl hl.1 (Nat.le_of_ble_eq_true rfl) dX6_fighter_23 ⟨Nat.zero_le _, Nat.zero_le _⟩ (fun H locs hP hD hS => ?_)
    refine lv_if_eq (tgt := 38) hx hb dX6_fighter_26 (by decide) (fun hc => ?_) (fun hc => ?_)
    · have h := o_t h hc
      refine lv_aload_n hx hb dX6_fighter_38 rfl (lv_at hl 0 rfl) ?_
      refine lv_iconst (v := 2) hx hb dX6_fighter_39 (by decide) ?_
      obtain ⟨x3, ex3, h⟩ := o_b h
      refine call_iV (As := [.int (2 : Int32)]) (rest := []) (ws2 := [(a0, .inr (9, [.int x3.2, .ref a1, .ref a2, .ref a3, .int sm, .ref a4, .int ln, .int nx, .int cd, .int dg, .int pw, .long hs])), (a1, .inl (cI, 378, .inl sa)), (a2, .inl (cI, 378, .inl asd)), (a3, .inl (cI, 1512, .inl sv)), (a4, .inl (cI, 120, .inl mt))]) ⟨hx, hb, hml, hown, hts⟩ (cX6_fails_ok l G cI cG a0 a1 a2 a3 a4 (0 : Int32) sa asd sv sm mt ln nx cd dg pw hs (2 : Int32) x3 ex3) (cwV 1 hts gX6_fighter_X6_fails rfl rfl rfl hdX6_fails ⟨Nat.le_of_ble_eq_true rfl, Nat.le_of_ble_eq_true rfl⟩) hP hD hS hA hK 9 rfl rfl rfl [0, 1, 2, 3, 4] rfl rfl rfl rfl rfl rfl rfl rfl hl.1 (Nat.le_of_ble_eq_true rfl) dX6_fighter_40 ⟨Nat.zero_le _, Nat.zero_le _⟩ (fun H locs hP hD hS => ?_)
      obtain rfl := o_s h
      rw [hQ]
      exact end_i hx hb hr rfl hP hD hS dX6_fighter_43 hlocks
    · have h := o_f h hc
      refine lv_aload_n hx hb dX6_fighter_29 rfl (lv_at hl 0 rfl) ?_
      refine lv_iload_n hx hb dX6_fighter_30 rfl (lv_at hl 1 rfl) ?_
      refine lv_iload_n hx hb dX6_fighter_31 rfl (lv_at hl 2 rfl) ?_
      obtain ⟨x4, ex4, h⟩ := o_b h
      refine call_iV (As := [.int p1, .int p2]) (rest := []) (ws2 := [(a0, .inr (9, [.int (0 : Int32), .ref a1, .ref a2, .ref a3, .int sm, .ref a4, .int ln, .int nx, .int cd, .int dg, .int pw, .long hs])), (a1, .inl (cI, 378, .inl sa)), (a2, .inl (cI, 378, .inl asd)), (a3, .inl (cI, 1512, .inl sv)), (a4, .inl (cI, 120, .inl mt))]) ⟨hx, hb, hml, hown, hts⟩ (cX6_valueOfFighter_ok l G cI cG a0 a1 a2 a3 a4 fu (0 : Int32) sa asd sv sm mt ln nx cd dg pw hs p1 p2 x4 ex4) (cwV 2 hts gX6_fighter_X6_valueOfFighter rfl rfl rfl hdX6_valueOfFighter ⟨Nat.le_of_ble_eq_true rfl, Nat.le_of_ble_eq_true rfl⟩) hP hD hS hA hK 9 rfl rfl rfl [0, 1, 2, 3, 4] rfl rfl rfl rfl rfl rfl rfl rfl hl.1 (Nat.le_of_ble_eq_true rfl) dX6_fighter_32 ⟨Nat.zero_le _, Nat.zero_le _⟩ (fun H locs hP hD hS => ?_)
      refine lv_goto (tgt := 43) hx hb dX6_fighter_35 (by decide) ?_
      obtain rfl := o_s h
      rw [hQ]
      exact end_i hx hb hr rfl hP hD hS dX6_fighter_43 hlocks
  · have h := o_t h hc
    refine lv_aload_n hx hb dX6_fighter_13 rfl (lv_at hl 0 rfl) ?_
    refine lv_iconst (v := 1) hx hb dX6_fighter_14 (by decide) ?_
    obtain ⟨x5, ex5, h⟩ := o_b h
    refine call_iV (As := [.int (1 : Int32)]) (rest := []) (ws2 := [(a0, .inr (9, [.int x5.2, .ref a1, .ref a2, .ref a3, .int sm, .ref a4, .int ln, .int nx, .int cd, .int dg, .int pw, .long hs])), (a1, .inl (cI, 378, .inl sa)), (a2, .inl (cI, 378, .inl asd)), (a3, .inl (cI, 1512, .inl sv)), (a4, .inl (cI, 120, .inl mt))]) ⟨hx, hb, hml, hown, hts⟩ (cX6_fails_ok l G cI cG a0 a1 a2 a3 a4 (0 : Int32) sa asd sv sm mt ln nx cd dg pw hs (1 : Int32) x5 ex5) (cwV 1 hts gX6_fighter_X6_fails rfl rfl rfl hdX6_fails ⟨Nat.le_of_ble_eq_true rfl, Nat.le_of_ble_eq_true rfl⟩) hP hD hS hA hK 9 rfl rfl rfl [0, 1, 2, 3, 4] rfl rfl rfl rfl rfl rfl rfl rfl hl.1 (Nat.le_of_ble_eq_true rfl) dX6_fighter_15 ⟨Nat.zero_le _, Nat.zero_le _⟩ (fun H locs hP hD hS => ?_)
    obtain rfl := o_s h
    rw [hQ]
    exact end_i hx hb hr rfl hP hD hS dX6_fighter_18 hlocks
theorem hdX6_effect : yX6_effect.cls = RX6 ∧ yX6_effect.cls ≠ "java/lang/invoke/MethodHandle" ∧ yX6_effect.cls ≠ "java/lang/invoke/VarHandle" ∧ (parseMethodDescriptor yX6_effect.desc).map (fun d => d.parameters.length) = some 2 := by decide +kernel
set_option maxHeartbeats 4000000 in
set_option maxRecDepth 100000 in
theorem cX6_effect_ok (l : Launch) (G : va_G) (cI cG : ClassId) (a0 a1 a2 a3 a4 : Nat) (th : Int32) (sa : (Nat → Int32)) (asd : (Nat → Int32)) (sv : (Nat → Int32)) (sm : Int32) (mt : (Nat → Int32)) (ln : Int32) (nx : Int32) (cd : Int32) (dg : Int32) (pw : Int32) (hs : Int64) (p1 : Int32) (p2 : Int32) (out : Int32 × Int32) (hf : fX6_effect th sa p1 p2 = some out) : CI l G (tyz cI cG) yX6_effect wsX6_effect ({ frames := 1, cells := 0, slots := 0, locals := 22 } : Room) [.ref a0, .int p1, .int p2] [(a0, .inr (9, [.int th, .ref a1, .ref a2, .ref a3, .int sm, .ref a4, .int ln, .int nx, .int cd, .int dg, .int pw, .long hs])), (a1, .inl (cI, 378, .inl sa)), (a2, .inl (cI, 378, .inl asd)), (a3, .inl (cI, 1512, .inl sv)), (a4, .inl (cI, 120, .inl mt))] out.1 [(a0, .inr (9, [.int out.2, .ref a1, .ref a2, .ref a3, .int sm, .ref a4, .int ln, .int nx, .int cd, .int dg, .int pw, .long hs])), (a1, .inl (cI, 378, .inl sa)), (a2, .inl (cI, 378, .inl asd)), (a3, .inl (cI, 1512, .inl sv)), (a4, .inl (cI, 120, .inl mt))] := by
  intro sz
  refine Met.ofW (cc := cX6_effect) (maxL := 3) (ret := (some .int)) (by decide) rfl ?_
  intro p e s m args below meth c s₁ B hml hv
  obtain ⟨rfl, hsz, hP, hK, hD0⟩ := hv
  have hx := B.exec
  have hb := B.bytes
  have hr := B.returns
  have hts := atoms_spec (ws := wsX6_effect) B.pre
  have hown : s.vm.findClass RX6 = some m.cls := findClass_of_methodNamed B.named
  have hlocks := B.notSynchronized
  subst hsz
  have hD := hD0.self (sz := s.heap.size)
  generalize hAe : va_A [(a0, .inr (9, [.int th, .ref a1, .ref a2, .ref a3, .int sm, .ref a4, .int ln, .int nx, .int cd, .int dg, .int pw, .long hs])), (a1, .inl (cI, 378, .inl sa)), (a2, .inl (cI, 378, .inl asd)), (a3, .inl (cI, 1512, .inl sv)), (a4, .inl (cI, 120, .inl mt))] s.heap.size = A at hD ⊢
  have hA : ∀ q : Nat, s.heap.size ≤ q → A q := fun q h => by rw [← hAe]; exact Or.inr h
  have hS : va_S A s.heap s.heap [] := va_S.rf
  have hw0 := hts (.fieldLink RX6 22 "SpeedTurnsModel" "thrown" "I") (List.mem_of_getElem? (i := 1) rfl)
  have hin6 : ∀ w ∈ u_ws RX6 TX6 12, w ∈ wsX6_effect := by decide +kernel
  have hw2 := hts (.fieldLink RX6 7 "SpeedTurnsModel" "s" "[I") (List.mem_of_getElem? (i := 2) rfl)
  show W p l e ({ frames := 1, cells := 0, slots := 0, locals := 22 } : Room) s m _ below meth c s.heap [] 0 0 _ _
  refine W_genQ (fun Q hQ => ?_)
  have h := hf
  rw [fX6_effect] at h
  have hl := lv_entry ([.ref a0, .int p1, .int p2]) (n := 3) (Nat.le_of_ble_eq_true rfl)
  rw [lg_entry_eq]
  generalize (lg_sl ([.ref a0, .int p1, .int p2]) ++ List.replicate (3 - (lg_sl ([.ref a0, .int p1, .int p2])).length) Slot.unset).toArray = ls at hl ⊢
  have hl : lv_has ls 3 [(0, .ref a0), (1, .int p1), (2, .int p2)] := hl
  refine lv_aload_n hx hb dX6_effect_0 rfl (lv_at hl 0 rfl) ?_
  refine lv_iconst (v := 0) hx hb dX6_effect_1 (by decide) ?_
  refine va_put (D := G) (ci := 9) (v := .int (0 : Int32)) (ty := .int) (C := RX6) (T := TX6) (N := 12) hx hb hts hin6 tyX6 tyX6_ok nmX6 hown hK.1 hP hD hS 0 rfl rfl 0 (by decide) hw0 (fun _ h9 => h9) rfl (by decide +kernel) rfl rfl (Nat.le_of_ble_eq_true rfl) dX6_effect_2 (fun H locs hP hD hS => ?_)
  have hP : va_P G vwCl [(a0, .inr (9, [.int (0 : Int32), .ref a1, .ref a2, .ref a3, .int sm, .ref a4, .int ln, .int nx, .int cd, .int dg, .int pw, .long hs])), (a1, .inl (cI, 378, .inl sa)), (a2, .inl (cI, 378, .inl asd)), (a3, .inl (cI, 1512, .inl sv)), (a4, .inl (cI, 120, .inl mt))] H := hP
  have hD : va_D A [(a0, .inr (9, [.int (0 : Int32), .ref a1, .ref a2, .ref a3, .int sm, .ref a4, .int ln, .int nx, .int cd, .int dg, .int pw, .long hs])), (a1, .inl (cI, 378, .inl sa)), (a2, .inl (cI, 378, .inl asd)), (a3, .inl (cI, 1512, .inl sv)), (a4, .inl (cI, 120, .inl mt))] := hD
  refine lv_iload_n hx hb dX6_effect_5 rfl (lv_at hl 1 rfl) ?_
  refine lv_iconst (v := 0) hx hb dX6_effect_6 (by decide) ?_
  refine lv_aload_n hx hb dX6_effect_7 rfl (lv_at hl 0 rfl) ?_
  refine va_get (D := G) (ci := 9) (v := .ref a1) (C := RX6) (T := TX6) (N := 12) hx hb hts hin6 hown hK.1 hP 0 rfl rfl 1 (by decide) hw2 (fun _ h9 => h9) rfl dX6_effect_8 ?_
  refine lv_iconst (v := 1) hx hb dX6_effect_11 (by decide) ?_
  obtain ⟨hin, h⟩ := o_g h
  refine va_iald hx hb hK.1 hP 1 0 rfl rfl hin dX6_effect_12 ?_
  refine lv_iconst (v := 1) hx hb dX6_effect_13 (by decide) ?_
  refine lv_isub hx hb dX6_effect_14 ?_
  obtain ⟨x1, ex1, h⟩ := o_b h
  refine call_iS (As := [.int p1, .int (0 : Int32), .int ((sa ((1 : Int32)).toNatClampNeg) - (1 : Int32))]) (rest := []) (ws2 := [(a0, .inr (9, [.int (0 : Int32), .ref a1, .ref a2, .ref a3, .int sm, .ref a4, .int ln, .int nx, .int cd, .int dg, .int pw, .long hs])), (a1, .inl (cI, 378, .inl sa)), (a2, .inl (cI, 378, .inl asd)), (a3, .inl (cI, 1512, .inl sv)), (a4, .inl (cI, 120, .inl mt))]) ⟨hx, hb, hml, hown, hts⟩ (cX6_in_ok l G cI cG p1 (0 : Int32) ((sa ((1 : Int32)).toNatClampNeg) - (1 : Int32)) x1 ex1) (va_cwS 3 hts gX6_effect_X6_in rfl rfl rfl hdX6_in ⟨Nat.le_of_ble_eq_true rfl, Nat.le_of_ble_eq_true rfl⟩) hP hD hS hA hK [] rfl rfl rfl rfl rfl rfl rfl rfl hl.1 (Nat.le_of_ble_eq_true rfl) dX6_effect_15 ⟨Nat.zero_le _, Nat.zero_le _⟩ (fun H locs hP hD hS => ?_)
  refine lv_if_ne (tgt := 27) hx hb dX6_effect_18 (by decide) (fun hc => ?_) (fun hc => ?_)
  · have h := o_f h hc
    refine lv_iload_n hx hb dX6_effect_27 rfl (lv_at hl 2 rfl) ?_
    refine lv_iconst (v := 0) hx hb dX6_effect_28 (by decide) ?_
    refine lv_bipush (v := 6) hx hb dX6_effect_29 (by decide) ?_
    obtain ⟨x2, ex2, h⟩ := o_b h
    refine call_iS (As := [.int p2, .int (0 : Int32), .int (6 : Int32)]) (rest := []) (ws2 := [(a0, .inr (9, [.int (0 : Int32), .ref a1, .ref a2, .ref a3, .int sm, .ref a4, .int ln, .int nx, .int cd, .int dg, .int pw, .long hs])), (a1, .inl (cI, 378, .inl sa)), (a2, .inl (cI, 378, .inl asd)), (a3, .inl (cI, 1512, .inl sv)), (a4, .inl (cI, 120, .inl mt))]) ⟨hx, hb, hml, hown, hts⟩ (cX6_in_ok l G cI cG p2 (0 : Int32) (6 : Int32) x2 ex2) (va_cwS 3 hts gX6_effect_X6_in rfl rfl rfl hdX6_in ⟨Nat.le_of_ble_eq_true rfl, Nat.le_of_ble_eq_true rfl⟩) hP hD hS hA hK [] rfl rfl rfl rfl rfl rfl rfl rfl hl.1 (Nat.le_of_ble_eq_true rfl) dX6_effect_31 ⟨Nat.zero_le _, Nat.zero_le _⟩ (fun H locs hP hD hS => ?_)
    refine lv_if_eq (tgt := 46) hx hb dX6_effect_34 (by decide) (fun hc => ?_) (fun hc => ?_)
    · have h := o_t h hc
      refine lv_aload_n hx hb dX6_effect_46 rfl (lv_at hl 0 rfl) ?_
      refine lv_iconst (v := 2) hx hb dX6_effect_47 (by decide) ?_
      obtain ⟨x3, ex3, h⟩ := o_b h
      refine call_iV (As := [.int (2 : Int32)]) (rest := []) (ws2 := [(a0, .inr (9, [.int x3.2, .ref a1, .ref a2, .ref a3, .int sm, .ref a4, .int ln, .int nx, .int cd, .int dg, .int pw, .long hs])), (a1, .inl (cI, 378, .inl sa)), (a2, .inl (cI, 378, .inl asd)), (a3, .inl (cI, 1512, .inl sv)), (a4, .inl (cI, 120, .inl mt))]) ⟨hx, hb, hml, hown, hts⟩ (cX6_fails_ok l G cI cG a0 a1 a2 a3 a4 (0 : Int32) sa asd sv sm mt ln nx cd dg pw hs (2 : Int32) x3 ex3) (cwV 1 hts gX6_effect_X6_fails rfl rfl rfl hdX6_fails ⟨Nat.le_of_ble_eq_true rfl, Nat.le_of_ble_eq_true rfl⟩) hP hD hS hA hK 9 rfl rfl rfl [0, 1, 2, 3, 4] rfl rfl rfl rfl rfl rfl rfl rfl hl.1 (Nat.le_of_ble_eq_true rfl) dX6_effect_48 ⟨Nat.zero_le _, Nat.zero_le _⟩ (fun H locs hP hD hS => ?_)
      obtain rfl := o_s h
      rw [hQ]
      exact end_i hx hb hr rfl hP hD hS dX6_effect_51 hlocks
    · have h := o_f h hc
      refine lv_aload_n hx hb dX6_effect_37 rfl (lv_at hl 0 rfl) ?_
      refine lv_iload_n hx hb dX6_effect_38 rfl (lv_at hl 1 rfl) ?_
      refine lv_iload_n hx hb dX6_effect_39 rfl (lv_at hl 2 rfl) ?_
      obtain ⟨x4, ex4, h⟩ := o_b h
      refine call_iV (As := [.int p1, .int p2]) (rest := []) (ws2 := [(a0, .inr (9, [.int (0 : Int32), .ref a1, .ref a2, .ref a3, .int sm, .ref a4, .int ln, .int nx, .int cd, .int dg, .int pw, .long hs])), (a1, .inl (cI, 378, .inl sa)), (a2, .inl (cI, 378, .inl asd)), (a3, .inl (cI, 1512, .inl sv)), (a4, .inl (cI, 120, .inl mt))]) ⟨hx, hb, hml, hown, hts⟩ (cX6_ofEffect_ok l G cI cG a0 a1 a2 a3 a4 (0 : Int32) sa asd sv sm mt ln nx cd dg pw hs p1 p2 x4 ex4) (cwV 2 hts gX6_effect_X6_ofEffect rfl rfl rfl hdX6_ofEffect ⟨Nat.le_of_ble_eq_true rfl, Nat.le_of_ble_eq_true rfl⟩) hP hD hS hA hK 9 rfl rfl rfl [0, 1, 2, 3, 4] rfl rfl rfl rfl rfl rfl rfl rfl hl.1 (Nat.le_of_ble_eq_true rfl) dX6_effect_40 ⟨Nat.zero_le _, Nat.zero_le _⟩ (fun H locs hP hD hS => ?_)
      refine lv_goto (tgt := 51) hx hb dX6_effect_43 (by decide) ?_
      obtain rfl := o_s h
      rw [hQ]
      exact end_i hx hb hr rfl hP hD hS dX6_effect_51 hlocks
  · have h := o_t h hc
    refine lv_aload_n hx hb dX6_effect_21 rfl (lv_at hl 0 rfl) ?_
    refine lv_iconst (v := 1) hx hb dX6_effect_22 (by decide) ?_
    obtain ⟨x5, ex5, h⟩ := o_b h
    refine call_iV (As := [.int (1 : Int32)]) (rest := []) (ws2 := [(a0, .inr (9, [.int x5.2, .ref a1, .ref a2, .ref a3, .int sm, .ref a4, .int ln, .int nx, .int cd, .int dg, .int pw, .long hs])), (a1, .inl (cI, 378, .inl sa)), (a2, .inl (cI, 378, .inl asd)), (a3, .inl (cI, 1512, .inl sv)), (a4, .inl (cI, 120, .inl mt))]) ⟨hx, hb, hml, hown, hts⟩ (cX6_fails_ok l G cI cG a0 a1 a2 a3 a4 (0 : Int32) sa asd sv sm mt ln nx cd dg pw hs (1 : Int32) x5 ex5) (cwV 1 hts gX6_effect_X6_fails rfl rfl rfl hdX6_fails ⟨Nat.le_of_ble_eq_true rfl, Nat.le_of_ble_eq_true rfl⟩) hP hD hS hA hK 9 rfl rfl rfl [0, 1, 2, 3, 4] rfl rfl rfl rfl rfl rfl rfl rfl hl.1 (Nat.le_of_ble_eq_true rfl) dX6_effect_23 ⟨Nat.zero_le _, Nat.zero_le _⟩ (fun H locs hP hD hS => ?_)
    obtain rfl := o_s h
    rw [hQ]
    exact end_i hx hb hr rfl hP hD hS dX6_effect_26 hlocks
theorem hdX6_standing : yX6_standing.cls = RX6 ∧ yX6_standing.cls ≠ "java/lang/invoke/MethodHandle" ∧ yX6_standing.cls ≠ "java/lang/invoke/VarHandle" ∧ (parseMethodDescriptor yX6_standing.desc).map (fun d => d.parameters.length) = some 0 := by decide +kernel
set_option maxHeartbeats 4000000 in
set_option maxRecDepth 100000 in
theorem cX6_standing_ok (l : Launch) (G : va_G) (cI cG : ClassId) (a0 a1 a2 a3 a4 : Nat) (fu : Nat) (th : Int32) (sa : (Nat → Int32)) (asd : (Nat → Int32)) (sv : (Nat → Int32)) (sm : Int32) (mt : (Nat → Int32)) (ln : Int32) (nx : Int32) (cd : Int32) (dg : Int32) (pw : Int32) (hs : Int64) (out : Int32) (hf : fX6_standing fu sa = some out) : CI l G (tyz cI cG) yX6_standing wsX6_standing ({ frames := 2, cells := 0, slots := 0, locals := 43 } : Room) [.ref a0] [(a0, .inr (9, [.int th, .ref a1, .ref a2, .ref a3, .int sm, .ref a4, .int ln, .int nx, .int cd, .int dg, .int pw, .long hs])), (a1, .inl (cI, 378, .inl sa)), (a2, .inl (cI, 378, .inl asd)), (a3, .inl (cI, 1512, .inl sv)), (a4, .inl (cI, 120, .inl mt))] out [(a0, .inr (9, [.int th, .ref a1, .ref a2, .ref a3, .int sm, .ref a4, .int ln, .int nx, .int cd, .int dg, .int pw, .long hs])), (a1, .inl (cI, 378, .inl sa)), (a2, .inl (cI, 378, .inl asd)), (a3, .inl (cI, 1512, .inl sv)), (a4, .inl (cI, 120, .inl mt))] := by
  intro sz
  refine Met.ofW (cc := cX6_standing) (maxL := 3) (ret := (some .int)) (by decide) rfl ?_
  intro p e s m args below meth c s₁ B hml hv
  obtain ⟨rfl, hsz, hP, hK, hD0⟩ := hv
  have hx := B.exec
  have hb := B.bytes
  have hr := B.returns
  have hts := atoms_spec (ws := wsX6_standing) B.pre
  have hown : s.vm.findClass RX6 = some m.cls := findClass_of_methodNamed B.named
  have hlocks := B.notSynchronized
  subst hsz
  have hD := hD0.self (sz := s.heap.size)
  generalize hAe : va_A [(a0, .inr (9, [.int th, .ref a1, .ref a2, .ref a3, .int sm, .ref a4, .int ln, .int nx, .int cd, .int dg, .int pw, .long hs])), (a1, .inl (cI, 378, .inl sa)), (a2, .inl (cI, 378, .inl asd)), (a3, .inl (cI, 1512, .inl sv)), (a4, .inl (cI, 120, .inl mt))] s.heap.size = A at hD ⊢
  have hA : ∀ q : Nat, s.heap.size ≤ q → A q := fun q h => by rw [← hAe]; exact Or.inr h
  have hS : va_S A s.heap s.heap [] := va_S.rf
  have hw0 := hts (.fieldLink RX6 7 "SpeedTurnsModel" "s" "[I") (List.mem_of_getElem? (i := 1) rfl)
  have hin6 : ∀ w ∈ u_ws RX6 TX6 12, w ∈ wsX6_standing := by decide +kernel
  show W p l e ({ frames := 2, cells := 0, slots := 0, locals := 43 } : Room) s m _ below meth c s.heap [] 0 0 _ _
  refine W_genQ (fun Q hQ => ?_)
  have L4 : ∀ (k : Nat) (v1 : Int32) (v2 : Int32) (H : Heap) (locs : List Loc) (ls : Array Slot), fX6_standing_L4 fu sa k v1 v2 = some out → va_P G vwCl [(a0, .inr (9, [.int th, .ref a1, .ref a2, .ref a3, .int sm, .ref a4, .int ln, .int nx, .int cd, .int dg, .int pw, .long hs])), (a1, .inl (cI, 378, .inl sa)), (a2, .inl (cI, 378, .inl asd)), (a3, .inl (cI, 1512, .inl sv)), (a4, .inl (cI, 120, .inl mt))] H → va_D A [(a0, .inr (9, [.int th, .ref a1, .ref a2, .ref a3, .int sm, .ref a4, .int ln, .int nx, .int cd, .int dg, .int pw, .long hs])), (a1, .inl (cI, 378, .inl sa)), (a2, .inl (cI, 378, .inl asd)), (a3, .inl (cI, 1512, .inl sv)), (a4, .inl (cI, 120, .inl mt))] → va_S A s.heap H locs → lv_has ls 3 [(0, .ref a0), (1, .int v1), (2, .int v2)] → W p l e ({ frames := 2, cells := 0, slots := 0, locals := 43 } : Room) s m ([.ref a0] : List Value).toArray below meth c H locs 0 0 Q (F0 m 4 ls []) := by
    intro k
    induction k with
    | zero => intro v1 v2 H locs ls h hP hD hS hl; rw [fX6_standing_L4] at h; exact o_n h
    | succ k ih =>
      intro v1 v2 H locs ls h hP hD hS hl
      rw [fX6_standing_L4] at h
      refine lv_iload_n hx hb dX6_standing_4 rfl (lv_at hl 2 rfl) ?_
      refine lv_aload_n hx hb dX6_standing_5 rfl (lv_at hl 0 rfl) ?_
      refine va_get (D := G) (ci := 9) (v := .ref a1) (C := RX6) (T := TX6) (N := 12) hx hb hts hin6 hown hK.1 hP 0 rfl rfl 1 (by decide) hw0 (fun _ h9 => h9) rfl dX6_standing_6 ?_
      refine lv_iconst (v := 0) hx hb dX6_standing_9 (by decide) ?_
      obtain ⟨hin, h⟩ := o_g h
      refine va_iald hx hb hK.1 hP 1 0 rfl rfl hin dX6_standing_10 ?_
      refine lv_icmp_ge (tgt := 36) hx hb dX6_standing_11 (by decide) (fun hc => ?_) (fun hc => ?_)
      · have h := o_t h hc
        refine lv_iload_n hx hb dX6_standing_36 rfl (lv_at hl 1 rfl) ?_
        obtain rfl := o_s h
        rw [hQ]
        exact end_i hx hb hr rfl hP hD hS dX6_standing_37 hlocks
      · have h := o_f h hc
        refine lv_iload_n hx hb dX6_standing_14 rfl (lv_at hl 1 rfl) ?_
        refine lv_aload_n hx hb dX6_standing_15 rfl (lv_at hl 0 rfl) ?_
        refine lv_iload_n hx hb dX6_standing_16 rfl (lv_at hl 2 rfl) ?_
        obtain ⟨x1, ex1, h⟩ := o_b h
        refine call_iV (As := [.int v2]) (rest := [.int v1]) (ws2 := [(a0, .inr (9, [.int th, .ref a1, .ref a2, .ref a3, .int sm, .ref a4, .int ln, .int nx, .int cd, .int dg, .int pw, .long hs])), (a1, .inl (cI, 378, .inl sa)), (a2, .inl (cI, 378, .inl asd)), (a3, .inl (cI, 1512, .inl sv)), (a4, .inl (cI, 120, .inl mt))]) ⟨hx, hb, hml, hown, hts⟩ (cX6_stands_ok l G cI cG a0 a1 a2 a3 a4 th sa asd sv sm mt ln nx cd dg pw hs v2 x1 ex1) (cwV 1 hts gX6_standing_X6_stands rfl rfl rfl hdX6_stands ⟨Nat.le_of_ble_eq_true rfl, Nat.le_of_ble_eq_true rfl⟩) hP hD hS hA hK 9 rfl rfl rfl [0, 1, 2, 3, 4] rfl rfl rfl rfl rfl rfl rfl rfl hl.1 (Nat.le_of_ble_eq_true rfl) dX6_standing_17 ⟨Nat.zero_le _, Nat.zero_le _⟩ (fun H locs hP hD hS => ?_)
        refine lv_if_eq (tgt := 27) hx hb dX6_standing_20 (by decide) (fun hc => ?_) (fun hc => ?_)
        · have h := o_t h hc
          refine lv_iconst (v := 0) hx hb dX6_standing_27 (by decide) ?_
          refine lv_iadd hx hb dX6_standing_28 ?_
          refine lv_istore_n (lv' := [(1, .int (v1 + (0 : Int32))), (0, .ref a0), (2, .int v2)]) hx hb dX6_standing_29 rfl hl (by decide) rfl (fun ls hl => ?_)
          refine lv_iinc (v := (v2 + 1)) (lv' := [(2, .int (v2 + 1)), (1, .int (v1 + (0 : Int32))), (0, .ref a0)]) hx hb dX6_standing_30 hl (k := 2) rfl rfl (by decide) rfl (fun ls hl => ?_)
          refine lv_goto (tgt := 4) hx hb dX6_standing_33 (by decide) ?_
          exact ih (v1 + (0 : Int32)) (v2 + 1) _ _ _ h hP hD hS (lv_sub hl [2, 1, 0] rfl)
        · have h := o_f h hc
          refine lv_iconst (v := 1) hx hb dX6_standing_23 (by decide) ?_
          refine lv_goto (tgt := 28) hx hb dX6_standing_24 (by decide) ?_
          refine lv_iadd hx hb dX6_standing_28 ?_
          refine lv_istore_n (lv' := [(1, .int (v1 + (1 : Int32))), (0, .ref a0), (2, .int v2)]) hx hb dX6_standing_29 rfl hl (by decide) rfl (fun ls hl => ?_)
          refine lv_iinc (v := (v2 + 1)) (lv' := [(2, .int (v2 + 1)), (1, .int (v1 + (1 : Int32))), (0, .ref a0)]) hx hb dX6_standing_30 hl (k := 2) rfl rfl (by decide) rfl (fun ls hl => ?_)
          refine lv_goto (tgt := 4) hx hb dX6_standing_33 (by decide) ?_
          exact ih (v1 + (1 : Int32)) (v2 + 1) _ _ _ h hP hD hS (lv_sub hl [2, 1, 0] rfl)
  have h := hf
  rw [fX6_standing] at h
  have hl := lv_entry ([.ref a0]) (n := 3) (Nat.le_of_ble_eq_true rfl)
  rw [lg_entry_eq]
  generalize (lg_sl ([.ref a0]) ++ List.replicate (3 - (lg_sl ([.ref a0])).length) Slot.unset).toArray = ls at hl ⊢
  have hl : lv_has ls 3 [(0, .ref a0)] := hl
  refine lv_iconst (v := 0) hx hb dX6_standing_0 (by decide) ?_
  refine lv_istore_n (lv' := [(1, .int (0 : Int32)), (0, .ref a0)]) hx hb dX6_standing_1 rfl hl (by decide) rfl (fun ls hl => ?_)
  refine lv_iconst (v := 0) hx hb dX6_standing_2 (by decide) ?_
  refine lv_istore_n (lv' := [(2, .int (0 : Int32)), (1, .int (0 : Int32)), (0, .ref a0)]) hx hb dX6_standing_3 rfl hl (by decide) rfl (fun ls hl => ?_)
  exact L4 fu (0 : Int32) (0 : Int32) _ _ _ h hP hD hS (lv_sub hl [2, 1, 0] rfl)
theorem hdX6_valueOf : yX6_valueOf.cls = RX6 ∧ yX6_valueOf.cls ≠ "java/lang/invoke/MethodHandle" ∧ yX6_valueOf.cls ≠ "java/lang/invoke/VarHandle" ∧ (parseMethodDescriptor yX6_valueOf.desc).map (fun d => d.parameters.length) = some 1 := by decide +kernel
set_option maxHeartbeats 4000000 in
set_option maxRecDepth 100000 in
theorem cX6_valueOf_ok (l : Launch) (G : va_G) (cI cG : ClassId) (a0 a1 a2 a3 a4 : Nat) (fu : Nat) (th : Int32) (sa : (Nat → Int32)) (asd : (Nat → Int32)) (sv : (Nat → Int32)) (sm : Int32) (mt : (Nat → Int32)) (ln : Int32) (nx : Int32) (cd : Int32) (dg : Int32) (pw : Int32) (hs : Int64) (p1 : Int32) (out : Int32) (hf : fX6_valueOf fu sa p1 = some out) : CI l G (tyz cI cG) yX6_valueOf wsX6_valueOf ({ frames := 3, cells := 0, slots := 0, locals := 65 } : Room) [.ref a0, .int p1] [(a0, .inr (9, [.int th, .ref a1, .ref a2, .ref a3, .int sm, .ref a4, .int ln, .int nx, .int cd, .int dg, .int pw, .long hs])), (a1, .inl (cI, 378, .inl sa)), (a2, .inl (cI, 378, .inl asd)), (a3, .inl (cI, 1512, .inl sv)), (a4, .inl (cI, 120, .inl mt))] out [(a0, .inr (9, [.int th, .ref a1, .ref a2, .ref a3, .int sm, .ref a4, .int ln, .int nx, .int cd, .int dg, .int pw, .long hs])), (a1, .inl (cI, 378, .inl sa)), (a2, .inl (cI, 378, .inl asd)), (a3, .inl (cI, 1512, .inl sv)), (a4, .inl (cI, 120, .inl mt))] := by
  intro sz
  refine Met.ofW (cc := cX6_valueOf) (maxL := 2) (ret := (some .int)) (by decide) rfl ?_
  intro p e s m args below meth c s₁ B hml hv
  obtain ⟨rfl, hsz, hP, hK, hD0⟩ := hv
  have hx := B.exec
  have hb := B.bytes
  have hr := B.returns
  have hts := atoms_spec (ws := wsX6_valueOf) B.pre
  have hown : s.vm.findClass RX6 = some m.cls := findClass_of_methodNamed B.named
  have hlocks := B.notSynchronized
  subst hsz
  have hD := hD0.self (sz := s.heap.size)
  generalize hAe : va_A [(a0, .inr (9, [.int th, .ref a1, .ref a2, .ref a3, .int sm, .ref a4, .int ln, .int nx, .int cd, .int dg, .int pw, .long hs])), (a1, .inl (cI, 378, .inl sa)), (a2, .inl (cI, 378, .inl asd)), (a3, .inl (cI, 1512, .inl sv)), (a4, .inl (cI, 120, .inl mt))] s.heap.size = A at hD ⊢
  have hA : ∀ q : Nat, s.heap.size ≤ q → A q := fun q h => by rw [← hAe]; exact Or.inr h
  have hS : va_S A s.heap s.heap [] := va_S.rf
  have hw0 := hts (.fieldLink RX6 7 "SpeedTurnsModel" "s" "[I") (List.mem_of_getElem? (i := 1) rfl)
  have hin6 : ∀ w ∈ u_ws RX6 TX6 12, w ∈ wsX6_valueOf := by decide +kernel
  show W p l e ({ frames := 3, cells := 0, slots := 0, locals := 65 } : Room) s m _ below meth c s.heap [] 0 0 _ _
  refine W_genQ (fun Q hQ => ?_)
  have h := hf
  rw [fX6_valueOf] at h
  have hl := lv_entry ([.ref a0, .int p1]) (n := 2) (Nat.le_of_ble_eq_true rfl)
  rw [lg_entry_eq]
  generalize (lg_sl ([.ref a0, .int p1]) ++ List.replicate (2 - (lg_sl ([.ref a0, .int p1])).length) Slot.unset).toArray = ls at hl ⊢
  have hl : lv_has ls 2 [(0, .ref a0), (1, .int p1)] := hl
  refine lv_iload_n hx hb dX6_valueOf_0 rfl (lv_at hl 1 rfl) ?_
  by_cases c1 : p1 = 0
  · have h := o_t h c1
    refine lv_tableIn (off := 47) (tgt := 48) hx hb dX6_valueOf_1 (by rw [c1]; decide) (by rw [c1]; decide) (by rw [c1]; rfl) (by decide) ?_
    refine lv_aload_n hx hb dX6_valueOf_48 rfl (lv_at hl 0 rfl) ?_
    refine va_get (D := G) (ci := 9) (v := .ref a1) (C := RX6) (T := TX6) (N := 12) hx hb hts hin6 hown hK.1 hP 0 rfl rfl 1 (by decide) hw0 (fun _ h9 => h9) rfl dX6_valueOf_49 ?_
    refine lv_iconst (v := 0) hx hb dX6_valueOf_52 (by decide) ?_
    obtain ⟨hin, h⟩ := o_g h
    refine va_iald hx hb hK.1 hP 1 0 rfl rfl hin dX6_valueOf_53 ?_
    obtain rfl := o_s h
    rw [hQ]
    exact end_i hx hb hr rfl hP hD hS dX6_valueOf_54 hlocks
  have h := o_f h c1
  by_cases c2 : p1 = 1
  · have h := o_t h c2
    refine lv_tableIn (off := 54) (tgt := 55) hx hb dX6_valueOf_1 (by rw [c2]; decide) (by rw [c2]; decide) (by rw [c2]; rfl) (by decide) ?_
    refine lv_aload_n hx hb dX6_valueOf_55 rfl (lv_at hl 0 rfl) ?_
    obtain ⟨x3, ex3, h⟩ := o_b h
    refine call_iV (As := []) (rest := []) (ws2 := [(a0, .inr (9, [.int th, .ref a1, .ref a2, .ref a3, .int sm, .ref a4, .int ln, .int nx, .int cd, .int dg, .int pw, .long hs])), (a1, .inl (cI, 378, .inl sa)), (a2, .inl (cI, 378, .inl asd)), (a3, .inl (cI, 1512, .inl sv)), (a4, .inl (cI, 120, .inl mt))]) ⟨hx, hb, hml, hown, hts⟩ (cX6_standing_ok l G cI cG a0 a1 a2 a3 a4 fu th sa asd sv sm mt ln nx cd dg pw hs x3 ex3) (cwV 0 hts gX6_valueOf_X6_standing rfl rfl rfl hdX6_standing ⟨Nat.le_of_ble_eq_true rfl, Nat.le_of_ble_eq_true rfl⟩) hP hD hS hA hK 9 rfl rfl rfl [0, 1, 2, 3, 4] rfl rfl rfl rfl rfl rfl rfl rfl hl.1 (Nat.le_of_ble_eq_true rfl) dX6_valueOf_56 ⟨Nat.zero_le _, Nat.zero_le _⟩ (fun H locs hP hD hS => ?_)
    obtain rfl := o_s h
    rw [hQ]
    exact end_i hx hb hr rfl hP hD hS dX6_valueOf_59 hlocks
  have h := o_f h c2
  by_cases c4 : p1 = 2
  · have h := o_t h c4
    refine lv_tableIn (off := 59) (tgt := 60) hx hb dX6_valueOf_1 (by rw [c4]; decide) (by rw [c4]; decide) (by rw [c4]; rfl) (by decide) ?_
    refine lv_aload_n hx hb dX6_valueOf_60 rfl (lv_at hl 0 rfl) ?_
    refine va_get (D := G) (ci := 9) (v := .ref a1) (C := RX6) (T := TX6) (N := 12) hx hb hts hin6 hown hK.1 hP 0 rfl rfl 1 (by decide) hw0 (fun _ h9 => h9) rfl dX6_valueOf_61 ?_
    refine lv_iconst (v := 1) hx hb dX6_valueOf_64 (by decide) ?_
    obtain ⟨hin, h⟩ := o_g h
    refine va_iald hx hb hK.1 hP 1 0 rfl rfl hin dX6_valueOf_65 ?_
    obtain rfl := o_s h
    rw [hQ]
    exact end_i hx hb hr rfl hP hD hS dX6_valueOf_66 hlocks
  have h := o_f h c4
  by_cases c5 : p1 = 3
  · have h := o_t h c5
    refine lv_tableIn (off := 66) (tgt := 67) hx hb dX6_valueOf_1 (by rw [c5]; decide) (by rw [c5]; decide) (by rw [c5]; rfl) (by decide) ?_
    refine lv_aload_n hx hb dX6_valueOf_67 rfl (lv_at hl 0 rfl) ?_
    refine va_get (D := G) (ci := 9) (v := .ref a1) (C := RX6) (T := TX6) (N := 12) hx hb hts hin6 hown hK.1 hP 0 rfl rfl 1 (by decide) hw0 (fun _ h9 => h9) rfl dX6_valueOf_68 ?_
    refine lv_iconst (v := 3) hx hb dX6_valueOf_71 (by decide) ?_
    obtain ⟨hin, h⟩ := o_g h
    refine va_iald hx hb hK.1 hP 1 0 rfl rfl hin dX6_valueOf_72 ?_
    obtain rfl := o_s h
    rw [hQ]
    exact end_i hx hb hr rfl hP hD hS dX6_valueOf_73 hlocks
  have h := o_f h c5
  by_cases c6 : p1 = 4
  · have h := o_t h c6
    refine lv_tableIn (off := 73) (tgt := 74) hx hb dX6_valueOf_1 (by rw [c6]; decide) (by rw [c6]; decide) (by rw [c6]; rfl) (by decide) ?_
    refine lv_aload_n hx hb dX6_valueOf_74 rfl (lv_at hl 0 rfl) ?_
    refine va_get (D := G) (ci := 9) (v := .ref a1) (C := RX6) (T := TX6) (N := 12) hx hb hts hin6 hown hK.1 hP 0 rfl rfl 1 (by decide) hw0 (fun _ h9 => h9) rfl dX6_valueOf_75 ?_
    refine lv_iconst (v := 4) hx hb dX6_valueOf_78 (by decide) ?_
    obtain ⟨hin, h⟩ := o_g h
    refine va_iald hx hb hK.1 hP 1 0 rfl rfl hin dX6_valueOf_79 ?_
    obtain rfl := o_s h
    rw [hQ]
    exact end_i hx hb hr rfl hP hD hS dX6_valueOf_80 hlocks
  have h := o_f h c6
  by_cases c7 : p1 = 5
  · have h := o_t h c7
    refine lv_tableIn (off := 80) (tgt := 81) hx hb dX6_valueOf_1 (by rw [c7]; decide) (by rw [c7]; decide) (by rw [c7]; rfl) (by decide) ?_
    refine lv_aload_n hx hb dX6_valueOf_81 rfl (lv_at hl 0 rfl) ?_
    refine va_get (D := G) (ci := 9) (v := .ref a1) (C := RX6) (T := TX6) (N := 12) hx hb hts hin6 hown hK.1 hP 0 rfl rfl 1 (by decide) hw0 (fun _ h9 => h9) rfl dX6_valueOf_82 ?_
    refine lv_bipush (v := 8) hx hb dX6_valueOf_85 (by decide) ?_
    obtain ⟨hin, h⟩ := o_g h
    refine va_iald hx hb hK.1 hP 1 0 rfl rfl hin dX6_valueOf_87 ?_
    obtain rfl := o_s h
    rw [hQ]
    exact end_i hx hb hr rfl hP hD hS dX6_valueOf_88 hlocks
  have h := o_f h c7
  by_cases c8 : p1 = 6
  · have h := o_t h c8
    refine lv_tableIn (off := 88) (tgt := 89) hx hb dX6_valueOf_1 (by rw [c8]; decide) (by rw [c8]; decide) (by rw [c8]; rfl) (by decide) ?_
    refine lv_aload_n hx hb dX6_valueOf_89 rfl (lv_at hl 0 rfl) ?_
    refine va_get (D := G) (ci := 9) (v := .ref a1) (C := RX6) (T := TX6) (N := 12) hx hb hts hin6 hown hK.1 hP 0 rfl rfl 1 (by decide) hw0 (fun _ h9 => h9) rfl dX6_valueOf_90 ?_
    refine lv_iconst (v := 2) hx hb dX6_valueOf_93 (by decide) ?_
    obtain ⟨hin, h⟩ := o_g h
    refine va_iald hx hb hK.1 hP 1 0 rfl rfl hin dX6_valueOf_94 ?_
    obtain rfl := o_s h
    rw [hQ]
    exact end_i hx hb hr rfl hP hD hS dX6_valueOf_95 hlocks
  have h := o_f h c8
  by_cases c9 : p1 = 7
  · have h := o_t h c9
    refine lv_tableIn (off := 95) (tgt := 96) hx hb dX6_valueOf_1 (by rw [c9]; decide) (by rw [c9]; decide) (by rw [c9]; rfl) (by decide) ?_
    refine lv_aload_n hx hb dX6_valueOf_96 rfl (lv_at hl 0 rfl) ?_
    refine va_get (D := G) (ci := 9) (v := .ref a1) (C := RX6) (T := TX6) (N := 12) hx hb hts hin6 hown hK.1 hP 0 rfl rfl 1 (by decide) hw0 (fun _ h9 => h9) rfl dX6_valueOf_97 ?_
    refine lv_bipush (v := 9) hx hb dX6_valueOf_100 (by decide) ?_
    obtain ⟨hin, h⟩ := o_g h
    refine va_iald hx hb hK.1 hP 1 0 rfl rfl hin dX6_valueOf_102 ?_
    obtain rfl := o_s h
    rw [hQ]
    exact end_i hx hb hr rfl hP hD hS dX6_valueOf_103 hlocks
  have h := o_f h c9
  have kc1 := ne_ti c1 (z := 0) (by decide)
  have kc2 := ne_ti c2 (z := 1) (by decide)
  have kc4 := ne_ti c4 (z := 2) (by decide)
  have kc5 := ne_ti c5 (z := 3) (by decide)
  have kc6 := ne_ti c6 (z := 4) (by decide)
  have kc7 := ne_ti c7 (z := 5) (by decide)
  have kc8 := ne_ti c8 (z := 6) (by decide)
  have kc9 := ne_ti c9 (z := 7) (by decide)
  refine lv_tableOut (tgt := 104) hx hb dX6_valueOf_1 (by omega) (by decide) ?_
  refine lv_aload_n hx hb dX6_valueOf_104 rfl (lv_at hl 0 rfl) ?_
  refine va_get (D := G) (ci := 9) (v := .ref a1) (C := RX6) (T := TX6) (N := 12) hx hb hts hin6 hown hK.1 hP 0 rfl rfl 1 (by decide) hw0 (fun _ h9 => h9) rfl dX6_valueOf_105 ?_
  refine lv_bipush (v := 10) hx hb dX6_valueOf_108 (by decide) ?_
  obtain ⟨hin, h⟩ := o_g h
  refine va_iald hx hb hK.1 hP 1 0 rfl rfl hin dX6_valueOf_110 ?_
  obtain rfl := o_s h
  rw [hQ]
  exact end_i hx hb hr rfl hP hD hS dX6_valueOf_111 hlocks
theorem hdX6_value : yX6_value.cls = RX6 ∧ yX6_value.cls ≠ "java/lang/invoke/MethodHandle" ∧ yX6_value.cls ≠ "java/lang/invoke/VarHandle" ∧ (parseMethodDescriptor yX6_value.desc).map (fun d => d.parameters.length) = some 1 := by decide +kernel
set_option maxHeartbeats 4000000 in
set_option maxRecDepth 100000 in
theorem cX6_value_ok (l : Launch) (G : va_G) (cI cG : ClassId) (a0 a1 a2 a3 a4 : Nat) (fu : Nat) (th : Int32) (sa : (Nat → Int32)) (asd : (Nat → Int32)) (sv : (Nat → Int32)) (sm : Int32) (mt : (Nat → Int32)) (ln : Int32) (nx : Int32) (cd : Int32) (dg : Int32) (pw : Int32) (hs : Int64) (p1 : Int32) (out : Int32 × Int32) (hf : fX6_value fu th sa p1 = some out) : CI l G (tyz cI cG) yX6_value wsX6_value ({ frames := 4, cells := 0, slots := 0, locals := 86 } : Room) [.ref a0, .int p1] [(a0, .inr (9, [.int th, .ref a1, .ref a2, .ref a3, .int sm, .ref a4, .int ln, .int nx, .int cd, .int dg, .int pw, .long hs])), (a1, .inl (cI, 378, .inl sa)), (a2, .inl (cI, 378, .inl asd)), (a3, .inl (cI, 1512, .inl sv)), (a4, .inl (cI, 120, .inl mt))] out.1 [(a0, .inr (9, [.int out.2, .ref a1, .ref a2, .ref a3, .int sm, .ref a4, .int ln, .int nx, .int cd, .int dg, .int pw, .long hs])), (a1, .inl (cI, 378, .inl sa)), (a2, .inl (cI, 378, .inl asd)), (a3, .inl (cI, 1512, .inl sv)), (a4, .inl (cI, 120, .inl mt))] := by
  intro sz
  refine Met.ofW (cc := cX6_value) (maxL := 2) (ret := (some .int)) (by decide) rfl ?_
  intro p e s m args below meth c s₁ B hml hv
  obtain ⟨rfl, hsz, hP, hK, hD0⟩ := hv
  have hx := B.exec
  have hb := B.bytes
  have hr := B.returns
  have hts := atoms_spec (ws := wsX6_value) B.pre
  have hown : s.vm.findClass RX6 = some m.cls := findClass_of_methodNamed B.named
  have hlocks := B.notSynchronized
  subst hsz
  have hD := hD0.self (sz := s.heap.size)
  generalize hAe : va_A [(a0, .inr (9, [.int th, .ref a1, .ref a2, .ref a3, .int sm, .ref a4, .int ln, .int nx, .int cd, .int dg, .int pw, .long hs])), (a1, .inl (cI, 378, .inl sa)), (a2, .inl (cI, 378, .inl asd)), (a3, .inl (cI, 1512, .inl sv)), (a4, .inl (cI, 120, .inl mt))] s.heap.size = A at hD ⊢
  have hA : ∀ q : Nat, s.heap.size ≤ q → A q := fun q h => by rw [← hAe]; exact Or.inr h
  have hS : va_S A s.heap s.heap [] := va_S.rf
  have hw0 := hts (.fieldLink RX6 22 "SpeedTurnsModel" "thrown" "I") (List.mem_of_getElem? (i := 1) rfl)
  have hin6 : ∀ w ∈ u_ws RX6 TX6 12, w ∈ wsX6_value := by decide +kernel
  show W p l e ({ frames := 4, cells := 0, slots := 0, locals := 86 } : Room) s m _ below meth c s.heap [] 0 0 _ _
  refine W_genQ (fun Q hQ => ?_)
  have h := hf
  rw [fX6_value] at h
  have hl := lv_entry ([.ref a0, .int p1]) (n := 2) (Nat.le_of_ble_eq_true rfl)
  rw [lg_entry_eq]
  generalize (lg_sl ([.ref a0, .int p1]) ++ List.replicate (2 - (lg_sl ([.ref a0, .int p1])).length) Slot.unset).toArray = ls at hl ⊢
  have hl : lv_has ls 2 [(0, .ref a0), (1, .int p1)] := hl
  refine lv_aload_n hx hb dX6_value_0 rfl (lv_at hl 0 rfl) ?_
  refine lv_iconst (v := 0) hx hb dX6_value_1 (by decide) ?_
  refine va_put (D := G) (ci := 9) (v := .int (0 : Int32)) (ty := .int) (C := RX6) (T := TX6) (N := 12) hx hb hts hin6 tyX6 tyX6_ok nmX6 hown hK.1 hP hD hS 0 rfl rfl 0 (by decide) hw0 (fun _ h9 => h9) rfl (by decide +kernel) rfl rfl (Nat.le_of_ble_eq_true rfl) dX6_value_2 (fun H locs hP hD hS => ?_)
  have hP : va_P G vwCl [(a0, .inr (9, [.int (0 : Int32), .ref a1, .ref a2, .ref a3, .int sm, .ref a4, .int ln, .int nx, .int cd, .int dg, .int pw, .long hs])), (a1, .inl (cI, 378, .inl sa)), (a2, .inl (cI, 378, .inl asd)), (a3, .inl (cI, 1512, .inl sv)), (a4, .inl (cI, 120, .inl mt))] H := hP
  have hD : va_D A [(a0, .inr (9, [.int (0 : Int32), .ref a1, .ref a2, .ref a3, .int sm, .ref a4, .int ln, .int nx, .int cd, .int dg, .int pw, .long hs])), (a1, .inl (cI, 378, .inl sa)), (a2, .inl (cI, 378, .inl asd)), (a3, .inl (cI, 1512, .inl sv)), (a4, .inl (cI, 120, .inl mt))] := hD
  refine lv_iload_n hx hb dX6_value_5 rfl (lv_at hl 1 rfl) ?_
  refine lv_iconst (v := 0) hx hb dX6_value_6 (by decide) ?_
  refine lv_bipush (v := 8) hx hb dX6_value_7 (by decide) ?_
  obtain ⟨x1, ex1, h⟩ := o_b h
  refine call_iS (As := [.int p1, .int (0 : Int32), .int (8 : Int32)]) (rest := []) (ws2 := [(a0, .inr (9, [.int (0 : Int32), .ref a1, .ref a2, .ref a3, .int sm, .ref a4, .int ln, .int nx, .int cd, .int dg, .int pw, .long hs])), (a1, .inl (cI, 378, .inl sa)), (a2, .inl (cI, 378, .inl asd)), (a3, .inl (cI, 1512, .inl sv)), (a4, .inl (cI, 120, .inl mt))]) ⟨hx, hb, hml, hown, hts⟩ (cX6_in_ok l G cI cG p1 (0 : Int32) (8 : Int32) x1 ex1) (va_cwS 3 hts gX6_value_X6_in rfl rfl rfl hdX6_in ⟨Nat.le_of_ble_eq_true rfl, Nat.le_of_ble_eq_true rfl⟩) hP hD hS hA hK [] rfl rfl rfl rfl rfl rfl rfl rfl hl.1 (Nat.le_of_ble_eq_true rfl) dX6_value_9 ⟨Nat.zero_le _, Nat.zero_le _⟩ (fun H locs hP hD hS => ?_)
  refine lv_if_eq (tgt := 23) hx hb dX6_value_12 (by decide) (fun hc => ?_) (fun hc => ?_)
  · have h := o_t h hc
    refine lv_aload_n hx hb dX6_value_23 rfl (lv_at hl 0 rfl) ?_
    refine lv_iconst (v := 1) hx hb dX6_value_24 (by decide) ?_
    obtain ⟨x2, ex2, h⟩ := o_b h
    refine call_iV (As := [.int (1 : Int32)]) (rest := []) (ws2 := [(a0, .inr (9, [.int x2.2, .ref a1, .ref a2, .ref a3, .int sm, .ref a4, .int ln, .int nx, .int cd, .int dg, .int pw, .long hs])), (a1, .inl (cI, 378, .inl sa)), (a2, .inl (cI, 378, .inl asd)), (a3, .inl (cI, 1512, .inl sv)), (a4, .inl (cI, 120, .inl mt))]) ⟨hx, hb, hml, hown, hts⟩ (cX6_fails_ok l G cI cG a0 a1 a2 a3 a4 (0 : Int32) sa asd sv sm mt ln nx cd dg pw hs (1 : Int32) x2 ex2) (cwV 1 hts gX6_value_X6_fails rfl rfl rfl hdX6_fails ⟨Nat.le_of_ble_eq_true rfl, Nat.le_of_ble_eq_true rfl⟩) hP hD hS hA hK 9 rfl rfl rfl [0, 1, 2, 3, 4] rfl rfl rfl rfl rfl rfl rfl rfl hl.1 (Nat.le_of_ble_eq_true rfl) dX6_value_25 ⟨Nat.zero_le _, Nat.zero_le _⟩ (fun H locs hP hD hS => ?_)
    obtain rfl := o_s h
    rw [hQ]
    exact end_i hx hb hr rfl hP hD hS dX6_value_28 hlocks
  · have h := o_f h hc
    refine lv_aload_n hx hb dX6_value_15 rfl (lv_at hl 0 rfl) ?_
    refine lv_iload_n hx hb dX6_value_16 rfl (lv_at hl 1 rfl) ?_
    obtain ⟨x3, ex3, h⟩ := o_b h
    refine call_iV (As := [.int p1]) (rest := []) (ws2 := [(a0, .inr (9, [.int (0 : Int32), .ref a1, .ref a2, .ref a3, .int sm, .ref a4, .int ln, .int nx, .int cd, .int dg, .int pw, .long hs])), (a1, .inl (cI, 378, .inl sa)), (a2, .inl (cI, 378, .inl asd)), (a3, .inl (cI, 1512, .inl sv)), (a4, .inl (cI, 120, .inl mt))]) ⟨hx, hb, hml, hown, hts⟩ (cX6_valueOf_ok l G cI cG a0 a1 a2 a3 a4 fu (0 : Int32) sa asd sv sm mt ln nx cd dg pw hs p1 x3 ex3) (cwV 1 hts gX6_value_X6_valueOf rfl rfl rfl hdX6_valueOf ⟨Nat.le_of_ble_eq_true rfl, Nat.le_of_ble_eq_true rfl⟩) hP hD hS hA hK 9 rfl rfl rfl [0, 1, 2, 3, 4] rfl rfl rfl rfl rfl rfl rfl rfl hl.1 (Nat.le_of_ble_eq_true rfl) dX6_value_17 ⟨Nat.zero_le _, Nat.zero_le _⟩ (fun H locs hP hD hS => ?_)
    refine lv_goto (tgt := 28) hx hb dX6_value_20 (by decide) ?_
    obtain rfl := o_s h
    rw [hQ]
    exact end_i hx hb hr rfl hP hD hS dX6_value_28 hlocks
theorem hdX6_inList : yX6_inList.cls = RX6 ∧ yX6_inList.cls ≠ "java/lang/invoke/MethodHandle" ∧ yX6_inList.cls ≠ "java/lang/invoke/VarHandle" ∧ (parseMethodDescriptor yX6_inList.desc).map (fun d => d.parameters.length) = some 1 := by decide +kernel
set_option maxHeartbeats 4000000 in
set_option maxRecDepth 100000 in
theorem cX6_inList_ok (l : Launch) (G : va_G) (cI cG : ClassId) (a0 a1 a2 a3 a4 : Nat) (th : Int32) (sa : (Nat → Int32)) (asd : (Nat → Int32)) (sv : (Nat → Int32)) (sm : Int32) (mt : (Nat → Int32)) (ln : Int32) (nx : Int32) (cd : Int32) (dg : Int32) (pw : Int32) (hs : Int64) (p1 : Int32) (out : Int32 × Int32) (hf : fX6_inList th sa p1 = some out) : CI l G (tyz cI cG) yX6_inList wsX6_inList ({ frames := 1, cells := 0, slots := 0, locals := 22 } : Room) [.ref a0, .int p1] [(a0, .inr (9, [.int th, .ref a1, .ref a2, .ref a3, .int sm, .ref a4, .int ln, .int nx, .int cd, .int dg, .int pw, .long hs])), (a1, .inl (cI, 378, .inl sa)), (a2, .inl (cI, 378, .inl asd)), (a3, .inl (cI, 1512, .inl sv)), (a4, .inl (cI, 120, .inl mt))] out.1 [(a0, .inr (9, [.int out.2, .ref a1, .ref a2, .ref a3, .int sm, .ref a4, .int ln, .int nx, .int cd, .int dg, .int pw, .long hs])), (a1, .inl (cI, 378, .inl sa)), (a2, .inl (cI, 378, .inl asd)), (a3, .inl (cI, 1512, .inl sv)), (a4, .inl (cI, 120, .inl mt))] := by
  intro sz
  refine Met.ofW (cc := cX6_inList) (maxL := 2) (ret := (some .int)) (by decide) rfl ?_
  intro p e s m args below meth c s₁ B hml hv
  obtain ⟨rfl, hsz, hP, hK, hD0⟩ := hv
  have hx := B.exec
  have hb := B.bytes
  have hr := B.returns
  have hts := atoms_spec (ws := wsX6_inList) B.pre
  have hown : s.vm.findClass RX6 = some m.cls := findClass_of_methodNamed B.named
  have hlocks := B.notSynchronized
  subst hsz
  have hD := hD0.self (sz := s.heap.size)
  generalize hAe : va_A [(a0, .inr (9, [.int th, .ref a1, .ref a2, .ref a3, .int sm, .ref a4, .int ln, .int nx, .int cd, .int dg, .int pw, .long hs])), (a1, .inl (cI, 378, .inl sa)), (a2, .inl (cI, 378, .inl asd)), (a3, .inl (cI, 1512, .inl sv)), (a4, .inl (cI, 120, .inl mt))] s.heap.size = A at hD ⊢
  have hA : ∀ q : Nat, s.heap.size ≤ q → A q := fun q h => by rw [← hAe]; exact Or.inr h
  have hS : va_S A s.heap s.heap [] := va_S.rf
  have hw0 := hts (.fieldLink RX6 22 "SpeedTurnsModel" "thrown" "I") (List.mem_of_getElem? (i := 1) rfl)
  have hin6 : ∀ w ∈ u_ws RX6 TX6 12, w ∈ wsX6_inList := by decide +kernel
  have hw2 := hts (.fieldLink RX6 7 "SpeedTurnsModel" "s" "[I") (List.mem_of_getElem? (i := 2) rfl)
  show W p l e ({ frames := 1, cells := 0, slots := 0, locals := 22 } : Room) s m _ below meth c s.heap [] 0 0 _ _
  refine W_genQ (fun Q hQ => ?_)
  have h := hf
  rw [fX6_inList] at h
  have hl := lv_entry ([.ref a0, .int p1]) (n := 2) (Nat.le_of_ble_eq_true rfl)
  rw [lg_entry_eq]
  generalize (lg_sl ([.ref a0, .int p1]) ++ List.replicate (2 - (lg_sl ([.ref a0, .int p1])).length) Slot.unset).toArray = ls at hl ⊢
  have hl : lv_has ls 2 [(0, .ref a0), (1, .int p1)] := hl
  refine lv_aload_n hx hb dX6_inList_0 rfl (lv_at hl 0 rfl) ?_
  refine lv_iconst (v := 0) hx hb dX6_inList_1 (by decide) ?_
  refine va_put (D := G) (ci := 9) (v := .int (0 : Int32)) (ty := .int) (C := RX6) (T := TX6) (N := 12) hx hb hts hin6 tyX6 tyX6_ok nmX6 hown hK.1 hP hD hS 0 rfl rfl 0 (by decide) hw0 (fun _ h9 => h9) rfl (by decide +kernel) rfl rfl (Nat.le_of_ble_eq_true rfl) dX6_inList_2 (fun H locs hP hD hS => ?_)
  have hP : va_P G vwCl [(a0, .inr (9, [.int (0 : Int32), .ref a1, .ref a2, .ref a3, .int sm, .ref a4, .int ln, .int nx, .int cd, .int dg, .int pw, .long hs])), (a1, .inl (cI, 378, .inl sa)), (a2, .inl (cI, 378, .inl asd)), (a3, .inl (cI, 1512, .inl sv)), (a4, .inl (cI, 120, .inl mt))] H := hP
  have hD : va_D A [(a0, .inr (9, [.int (0 : Int32), .ref a1, .ref a2, .ref a3, .int sm, .ref a4, .int ln, .int nx, .int cd, .int dg, .int pw, .long hs])), (a1, .inl (cI, 378, .inl sa)), (a2, .inl (cI, 378, .inl asd)), (a3, .inl (cI, 1512, .inl sv)), (a4, .inl (cI, 120, .inl mt))] := hD
  refine lv_iload_n hx hb dX6_inList_5 rfl (lv_at hl 1 rfl) ?_
  refine lv_iconst (v := 0) hx hb dX6_inList_6 (by decide) ?_
  refine lv_aload_n hx hb dX6_inList_7 rfl (lv_at hl 0 rfl) ?_
  refine va_get (D := G) (ci := 9) (v := .ref a1) (C := RX6) (T := TX6) (N := 12) hx hb hts hin6 hown hK.1 hP 0 rfl rfl 1 (by decide) hw2 (fun _ h9 => h9) rfl dX6_inList_8 ?_
  refine lv_bipush (v := 6) hx hb dX6_inList_11 (by decide) ?_
  obtain ⟨hin, h⟩ := o_g h
  refine va_iald hx hb hK.1 hP 1 0 rfl rfl hin dX6_inList_13 ?_
  refine lv_iconst (v := 1) hx hb dX6_inList_14 (by decide) ?_
  refine lv_isub hx hb dX6_inList_15 ?_
  obtain ⟨x1, ex1, h⟩ := o_b h
  refine call_iS (As := [.int p1, .int (0 : Int32), .int ((sa ((6 : Int32)).toNatClampNeg) - (1 : Int32))]) (rest := []) (ws2 := [(a0, .inr (9, [.int (0 : Int32), .ref a1, .ref a2, .ref a3, .int sm, .ref a4, .int ln, .int nx, .int cd, .int dg, .int pw, .long hs])), (a1, .inl (cI, 378, .inl sa)), (a2, .inl (cI, 378, .inl asd)), (a3, .inl (cI, 1512, .inl sv)), (a4, .inl (cI, 120, .inl mt))]) ⟨hx, hb, hml, hown, hts⟩ (cX6_in_ok l G cI cG p1 (0 : Int32) ((sa ((6 : Int32)).toNatClampNeg) - (1 : Int32)) x1 ex1) (va_cwS 3 hts gX6_inList_X6_in rfl rfl rfl hdX6_in ⟨Nat.le_of_ble_eq_true rfl, Nat.le_of_ble_eq_true rfl⟩) hP hD hS hA hK [] rfl rfl rfl rfl rfl rfl rfl rfl hl.1 (Nat.le_of_ble_eq_true rfl) dX6_inList_16 ⟨Nat.zero_le _, Nat.zero_le _⟩ (fun H locs hP hD hS => ?_)
  refine lv_if_eq (tgt := 34) hx hb dX6_inList_19 (by decide) (fun hc => ?_) (fun hc => ?_)
  · have h := o_t h hc
    refine lv_aload_n hx hb dX6_inList_34 rfl (lv_at hl 0 rfl) ?_
    refine lv_iconst (v := 1) hx hb dX6_inList_35 (by decide) ?_
    obtain ⟨x2, ex2, h⟩ := o_b h
    refine call_iV (As := [.int (1 : Int32)]) (rest := []) (ws2 := [(a0, .inr (9, [.int x2.2, .ref a1, .ref a2, .ref a3, .int sm, .ref a4, .int ln, .int nx, .int cd, .int dg, .int pw, .long hs])), (a1, .inl (cI, 378, .inl sa)), (a2, .inl (cI, 378, .inl asd)), (a3, .inl (cI, 1512, .inl sv)), (a4, .inl (cI, 120, .inl mt))]) ⟨hx, hb, hml, hown, hts⟩ (cX6_fails_ok l G cI cG a0 a1 a2 a3 a4 (0 : Int32) sa asd sv sm mt ln nx cd dg pw hs (1 : Int32) x2 ex2) (cwV 1 hts gX6_inList_X6_fails rfl rfl rfl hdX6_fails ⟨Nat.le_of_ble_eq_true rfl, Nat.le_of_ble_eq_true rfl⟩) hP hD hS hA hK 9 rfl rfl rfl [0, 1, 2, 3, 4] rfl rfl rfl rfl rfl rfl rfl rfl hl.1 (Nat.le_of_ble_eq_true rfl) dX6_inList_36 ⟨Nat.zero_le _, Nat.zero_le _⟩ (fun H locs hP hD hS => ?_)
    obtain rfl := o_s h
    rw [hQ]
    exact end_i hx hb hr rfl hP hD hS dX6_inList_39 hlocks
  · have h := o_f h hc
    refine lv_aload_n hx hb dX6_inList_22 rfl (lv_at hl 0 rfl) ?_
    refine va_get (D := G) (ci := 9) (v := .ref a1) (C := RX6) (T := TX6) (N := 12) hx hb hts hin6 hown hK.1 hP 0 rfl rfl 1 (by decide) hw2 (fun _ h9 => h9) rfl dX6_inList_23 ?_
    refine lv_bipush (v := 72) hx hb dX6_inList_26 (by decide) ?_
    refine lv_iload_n hx hb dX6_inList_28 rfl (lv_at hl 1 rfl) ?_
    refine lv_iadd hx hb dX6_inList_29 ?_
    obtain ⟨hin, h⟩ := o_g h
    refine va_iald hx hb hK.1 hP 1 0 rfl rfl hin dX6_inList_30 ?_
    refine lv_goto (tgt := 39) hx hb dX6_inList_31 (by decide) ?_
    obtain rfl := o_s h
    rw [hQ]
    exact end_i hx hb hr rfl hP hD hS dX6_inList_39 hlocks
theorem hdX6_next : yX6_next.cls = RX6 ∧ yX6_next.cls ≠ "java/lang/invoke/MethodHandle" ∧ yX6_next.cls ≠ "java/lang/invoke/VarHandle" ∧ (parseMethodDescriptor yX6_next.desc).map (fun d => d.parameters.length) = some 0 := by decide +kernel
set_option maxHeartbeats 4000000 in
set_option maxRecDepth 100000 in
theorem cX6_next_ok (l : Launch) (G : va_G) (cI cG : ClassId) (a0 a1 a2 a3 a4 : Nat) (fu : Nat) (th : Int32) (sa : (Nat → Int32)) (asd : (Nat → Int32)) (sv : (Nat → Int32)) (sm : Int32) (mt : (Nat → Int32)) (ln : Int32) (nx : Int32) (cd : Int32) (dg : Int32) (pw : Int32) (hs : Int64) (out : Int32 × Int32 × (Nat → Int32) × (Nat → Int32) × Int32) (hf : fX6_next fu th sa sv sm = some out) : CI l G (tyz cI cG) yX6_next wsX6_next ({ frames := 6, cells := 0, slots := 0, locals := 137 } : Room) [.ref a0] [(a0, .inr (9, [.int th, .ref a1, .ref a2, .ref a3, .int sm, .ref a4, .int ln, .int nx, .int cd, .int dg, .int pw, .long hs])), (a1, .inl (cI, 378, .inl sa)), (a2, .inl (cI, 378, .inl asd)), (a3, .inl (cI, 1512, .inl sv)), (a4, .inl (cI, 120, .inl mt))] out.1 [(a0, .inr (9, [.int out.2.1, .ref a1, .ref a2, .ref a3, .int out.2.2.2.2, .ref a4, .int ln, .int nx, .int cd, .int dg, .int pw, .long hs])), (a1, .inl (cI, 378, .inl out.2.2.1)), (a2, .inl (cI, 378, .inl asd)), (a3, .inl (cI, 1512, .inl out.2.2.2.1)), (a4, .inl (cI, 120, .inl mt))] := by
  intro sz
  refine Met.ofW (cc := cX6_next) (maxL := 1) (ret := (some .int)) (by decide) rfl ?_
  intro p e s m args below meth c s₁ B hml hv
  obtain ⟨rfl, hsz, hP, hK, hD0⟩ := hv
  have hx := B.exec
  have hb := B.bytes
  have hr := B.returns
  have hts := atoms_spec (ws := wsX6_next) B.pre
  have hown : s.vm.findClass RX6 = some m.cls := findClass_of_methodNamed B.named
  have hlocks := B.notSynchronized
  subst hsz
  have hD := hD0.self (sz := s.heap.size)
  generalize hAe : va_A [(a0, .inr (9, [.int th, .ref a1, .ref a2, .ref a3, .int sm, .ref a4, .int ln, .int nx, .int cd, .int dg, .int pw, .long hs])), (a1, .inl (cI, 378, .inl sa)), (a2, .inl (cI, 378, .inl asd)), (a3, .inl (cI, 1512, .inl sv)), (a4, .inl (cI, 120, .inl mt))] s.heap.size = A at hD ⊢
  have hA : ∀ q : Nat, s.heap.size ≤ q → A q := fun q h => by rw [← hAe]; exact Or.inr h
  have hS : va_S A s.heap s.heap [] := va_S.rf
  have hw0 := hts (.fieldLink RX6 22 "SpeedTurnsModel" "thrown" "I") (List.mem_of_getElem? (i := 1) rfl)
  have hin6 : ∀ w ∈ u_ws RX6 TX6 12, w ∈ wsX6_next := by decide +kernel
  have hw2 := hts (.fieldLink RX6 7 "SpeedTurnsModel" "s" "[I") (List.mem_of_getElem? (i := 2) rfl)
  show W p l e ({ frames := 6, cells := 0, slots := 0, locals := 137 } : Room) s m _ below meth c s.heap [] 0 0 _ _
  refine W_genQ (fun Q hQ => ?_)
  have h := hf
  rw [fX6_next] at h
  have hl := lv_entry ([.ref a0]) (n := 1) (Nat.le_of_ble_eq_true rfl)
  rw [lg_entry_eq]
  generalize (lg_sl ([.ref a0]) ++ List.replicate (1 - (lg_sl ([.ref a0])).length) Slot.unset).toArray = ls at hl ⊢
  have hl : lv_has ls 1 [(0, .ref a0)] := hl
  refine lv_aload_n hx hb dX6_next_0 rfl (lv_at hl 0 rfl) ?_
  refine lv_iconst (v := 0) hx hb dX6_next_1 (by decide) ?_
  refine va_put (D := G) (ci := 9) (v := .int (0 : Int32)) (ty := .int) (C := RX6) (T := TX6) (N := 12) hx hb hts hin6 tyX6 tyX6_ok nmX6 hown hK.1 hP hD hS 0 rfl rfl 0 (by decide) hw0 (fun _ h9 => h9) rfl (by decide +kernel) rfl rfl (Nat.le_of_ble_eq_true rfl) dX6_next_2 (fun H locs hP hD hS => ?_)
  have hP : va_P G vwCl [(a0, .inr (9, [.int (0 : Int32), .ref a1, .ref a2, .ref a3, .int sm, .ref a4, .int ln, .int nx, .int cd, .int dg, .int pw, .long hs])), (a1, .inl (cI, 378, .inl sa)), (a2, .inl (cI, 378, .inl asd)), (a3, .inl (cI, 1512, .inl sv)), (a4, .inl (cI, 120, .inl mt))] H := hP
  have hD : va_D A [(a0, .inr (9, [.int (0 : Int32), .ref a1, .ref a2, .ref a3, .int sm, .ref a4, .int ln, .int nx, .int cd, .int dg, .int pw, .long hs])), (a1, .inl (cI, 378, .inl sa)), (a2, .inl (cI, 378, .inl asd)), (a3, .inl (cI, 1512, .inl sv)), (a4, .inl (cI, 120, .inl mt))] := hD
  refine lv_aload_n hx hb dX6_next_5 rfl (lv_at hl 0 rfl) ?_
  refine va_get (D := G) (ci := 9) (v := .ref a1) (C := RX6) (T := TX6) (N := 12) hx hb hts hin6 hown hK.1 hP 0 rfl rfl 1 (by decide) hw2 (fun _ h9 => h9) rfl dX6_next_6 ?_
  refine lv_iconst (v := 4) hx hb dX6_next_9 (by decide) ?_
  obtain ⟨hin, h⟩ := o_g h
  refine va_iald hx hb hK.1 hP 1 0 rfl rfl hin dX6_next_10 ?_
  refine lv_iconst (v := (-1)) hx hb dX6_next_11 (by decide) ?_
  refine lv_icmp_eq (tgt := 21) hx hb dX6_next_12 (by decide) (fun hc => ?_) (fun hc => ?_)
  · have h := o_t h hc
    refine lv_aload_n hx hb dX6_next_21 rfl (lv_at hl 0 rfl) ?_
    obtain ⟨x1, ex1, h⟩ := o_b h
    refine call_vV (As := []) (rest := []) (ws2 := [(a0, .inr (9, [.int (0 : Int32), .ref a1, .ref a2, .ref a3, .int x1.2, .ref a4, .int ln, .int nx, .int cd, .int dg, .int pw, .long hs])), (a1, .inl (cI, 378, .inl sa)), (a2, .inl (cI, 378, .inl asd)), (a3, .inl (cI, 1512, .inl x1.1)), (a4, .inl (cI, 120, .inl mt))]) ⟨hx, hb, hml, hown, hts⟩ (cX6_save_ok l G cI cG a0 a1 a2 a3 a4 fu (0 : Int32) sa asd sv sm mt ln nx cd dg pw hs x1 ex1) (cwV 0 hts gX6_next_X6_save rfl rfl rfl hdX6_save ⟨Nat.le_of_ble_eq_true rfl, Nat.le_of_ble_eq_true rfl⟩) hP hD hS hA hK 9 rfl rfl rfl [0, 1, 2, 3, 4] rfl rfl rfl rfl rfl rfl rfl rfl hl.1 (Nat.le_of_ble_eq_true rfl) dX6_next_22 ⟨Nat.zero_le _, Nat.zero_le _⟩ (fun H locs hP hD hS => ?_)
    refine lv_aload_n hx hb dX6_next_25 rfl (lv_at hl 0 rfl) ?_
    obtain ⟨x2, ex2, h⟩ := o_b h
    refine call_iV (As := []) (rest := []) (ws2 := [(a0, .inr (9, [.int (0 : Int32), .ref a1, .ref a2, .ref a3, .int x1.2, .ref a4, .int ln, .int nx, .int cd, .int dg, .int pw, .long hs])), (a1, .inl (cI, 378, .inl x2.2)), (a2, .inl (cI, 378, .inl asd)), (a3, .inl (cI, 1512, .inl x1.1)), (a4, .inl (cI, 120, .inl mt))]) ⟨hx, hb, hml, hown, hts⟩ (cX6_begins_ok l G cI cG a0 a1 a2 a3 a4 fu (0 : Int32) sa asd x1.1 x1.2 mt ln nx cd dg pw hs x2 ex2) (cwV 0 hts gX6_next_X6_begins rfl rfl rfl hdX6_begins ⟨Nat.le_of_ble_eq_true rfl, Nat.le_of_ble_eq_true rfl⟩) hP hD hS hA hK 9 rfl rfl rfl [0, 1, 2, 3, 4] rfl rfl rfl rfl rfl rfl rfl rfl hl.1 (Nat.le_of_ble_eq_true rfl) dX6_next_26 ⟨Nat.zero_le _, Nat.zero_le _⟩ (fun H locs hP hD hS => ?_)
    obtain rfl := o_s h
    rw [hQ]
    exact end_i hx hb hr rfl hP hD hS dX6_next_29 hlocks
  · have h := o_f h hc
    refine lv_aload_n hx hb dX6_next_15 rfl (lv_at hl 0 rfl) ?_
    refine lv_iconst (v := 1) hx hb dX6_next_16 (by decide) ?_
    obtain ⟨x3, ex3, h⟩ := o_b h
    refine call_iV (As := [.int (1 : Int32)]) (rest := []) (ws2 := [(a0, .inr (9, [.int x3.2, .ref a1, .ref a2, .ref a3, .int sm, .ref a4, .int ln, .int nx, .int cd, .int dg, .int pw, .long hs])), (a1, .inl (cI, 378, .inl sa)), (a2, .inl (cI, 378, .inl asd)), (a3, .inl (cI, 1512, .inl sv)), (a4, .inl (cI, 120, .inl mt))]) ⟨hx, hb, hml, hown, hts⟩ (cX6_fails_ok l G cI cG a0 a1 a2 a3 a4 (0 : Int32) sa asd sv sm mt ln nx cd dg pw hs (1 : Int32) x3 ex3) (cwV 1 hts gX6_next_X6_fails rfl rfl rfl hdX6_fails ⟨Nat.le_of_ble_eq_true rfl, Nat.le_of_ble_eq_true rfl⟩) hP hD hS hA hK 9 rfl rfl rfl [0, 1, 2, 3, 4] rfl rfl rfl rfl rfl rfl rfl rfl hl.1 (Nat.le_of_ble_eq_true rfl) dX6_next_17 ⟨Nat.zero_le _, Nat.zero_le _⟩ (fun H locs hP hD hS => ?_)
    obtain rfl := o_s h
    rw [hQ]
    exact end_i hx hb hr rfl hP hD hS dX6_next_20 hlocks
theorem hdX6_canEnd : yX6_canEnd.cls = RX6 ∧ yX6_canEnd.cls ≠ "java/lang/invoke/MethodHandle" ∧ yX6_canEnd.cls ≠ "java/lang/invoke/VarHandle" ∧ (parseMethodDescriptor yX6_canEnd.desc).map (fun d => d.parameters.length) = some 0 := by decide +kernel
set_option maxHeartbeats 4000000 in
set_option maxRecDepth 100000 in
theorem cX6_canEnd_ok (l : Launch) (G : va_G) (cI cG : ClassId) (a0 a1 a2 a3 a4 : Nat) (th : Int32) (sa : (Nat → Int32)) (asd : (Nat → Int32)) (sv : (Nat → Int32)) (sm : Int32) (mt : (Nat → Int32)) (ln : Int32) (nx : Int32) (cd : Int32) (dg : Int32) (pw : Int32) (hs : Int64) (out : Bool) (hf : fX6_canEnd sa = some out) : CI l G (tyz cI cG) yX6_canEnd wsX6_canEnd ({ frames := 0, cells := 0, slots := 0, locals := 0 } : Room) [.ref a0] [(a0, .inr (9, [.int th, .ref a1, .ref a2, .ref a3, .int sm, .ref a4, .int ln, .int nx, .int cd, .int dg, .int pw, .long hs])), (a1, .inl (cI, 378, .inl sa)), (a2, .inl (cI, 378, .inl asd)), (a3, .inl (cI, 1512, .inl sv)), (a4, .inl (cI, 120, .inl mt))] (bI out) [(a0, .inr (9, [.int th, .ref a1, .ref a2, .ref a3, .int sm, .ref a4, .int ln, .int nx, .int cd, .int dg, .int pw, .long hs])), (a1, .inl (cI, 378, .inl sa)), (a2, .inl (cI, 378, .inl asd)), (a3, .inl (cI, 1512, .inl sv)), (a4, .inl (cI, 120, .inl mt))] := by
  intro sz
  refine Met.ofW (cc := cX6_canEnd) (maxL := 1) (ret := (some .boolean)) (by decide) rfl ?_
  intro p e s m args below meth c s₁ B hml hv
  obtain ⟨rfl, hsz, hP, hK, hD0⟩ := hv
  have hx := B.exec
  have hb := B.bytes
  have hr := B.returns
  have hts := atoms_spec (ws := wsX6_canEnd) B.pre
  have hown : s.vm.findClass RX6 = some m.cls := findClass_of_methodNamed B.named
  have hlocks := B.notSynchronized
  subst hsz
  have hD := hD0.self (sz := s.heap.size)
  generalize hAe : va_A [(a0, .inr (9, [.int th, .ref a1, .ref a2, .ref a3, .int sm, .ref a4, .int ln, .int nx, .int cd, .int dg, .int pw, .long hs])), (a1, .inl (cI, 378, .inl sa)), (a2, .inl (cI, 378, .inl asd)), (a3, .inl (cI, 1512, .inl sv)), (a4, .inl (cI, 120, .inl mt))] s.heap.size = A at hD ⊢
  have hA : ∀ q : Nat, s.heap.size ≤ q → A q := fun q h => by rw [← hAe]; exact Or.inr h
  have hS : va_S A s.heap s.heap [] := va_S.rf
  have hw0 := hts (.fieldLink RX6 7 "SpeedTurnsModel" "s" "[I") (List.mem_of_getElem? (i := 1) rfl)
  have hin6 : ∀ w ∈ u_ws RX6 TX6 12, w ∈ wsX6_canEnd := by decide +kernel
  show W p l e ({ frames := 0, cells := 0, slots := 0, locals := 0 } : Room) s m _ below meth c s.heap [] 0 0 _ _
  refine W_genQ (fun Q hQ => ?_)
  have h := hf
  rw [fX6_canEnd] at h
  have hl := lv_entry ([.ref a0]) (n := 1) (Nat.le_of_ble_eq_true rfl)
  rw [lg_entry_eq]
  generalize (lg_sl ([.ref a0]) ++ List.replicate (1 - (lg_sl ([.ref a0])).length) Slot.unset).toArray = ls at hl ⊢
  have hl : lv_has ls 1 [(0, .ref a0)] := hl
  refine lv_aload_n hx hb dX6_canEnd_0 rfl (lv_at hl 0 rfl) ?_
  refine va_get (D := G) (ci := 9) (v := .ref a1) (C := RX6) (T := TX6) (N := 12) hx hb hts hin6 hown hK.1 hP 0 rfl rfl 1 (by decide) hw0 (fun _ h9 => h9) rfl dX6_canEnd_1 ?_
  refine lv_iconst (v := 4) hx hb dX6_canEnd_4 (by decide) ?_
  obtain ⟨hin, h⟩ := o_g h
  refine va_iald hx hb hK.1 hP 1 0 rfl rfl hin dX6_canEnd_5 ?_
  refine lv_iconst (v := (-1)) hx hb dX6_canEnd_6 (by decide) ?_
  refine lv_icmp_eq (tgt := 24) hx hb dX6_canEnd_7 (by decide) (fun hc => ?_) (fun hc => ?_)
  · have h := o_t h hc
    refine lv_iconst (v := 0) hx hb dX6_canEnd_24 (by decide) ?_
    obtain rfl := o_s h
    rw [hQ]
    exact end_z hx hb hr rfl rfl hP hD hS dX6_canEnd_25 hlocks
  · have h := o_f h hc
    refine lv_aload_n hx hb dX6_canEnd_10 rfl (lv_at hl 0 rfl) ?_
    refine va_get (D := G) (ci := 9) (v := .ref a1) (C := RX6) (T := TX6) (N := 12) hx hb hts hin6 hown hK.1 hP 0 rfl rfl 1 (by decide) hw0 (fun _ h9 => h9) rfl dX6_canEnd_11 ?_
    refine lv_bipush (v := 8) hx hb dX6_canEnd_14 (by decide) ?_
    obtain ⟨hin, h⟩ := o_g h
    refine va_iald hx hb hK.1 hP 1 0 rfl rfl hin dX6_canEnd_16 ?_
    refine lv_if_ne (tgt := 24) hx hb dX6_canEnd_17 (by decide) (fun hc => ?_) (fun hc => ?_)
    · have h := o_f h hc
      refine lv_iconst (v := 0) hx hb dX6_canEnd_24 (by decide) ?_
      obtain rfl := o_s h
      rw [hQ]
      exact end_z hx hb hr rfl rfl hP hD hS dX6_canEnd_25 hlocks
    · have h := o_t h hc
      refine lv_iconst (v := 1) hx hb dX6_canEnd_20 (by decide) ?_
      refine lv_goto (tgt := 25) hx hb dX6_canEnd_21 (by decide) ?_
      obtain rfl := o_s h
      rw [hQ]
      exact end_z hx hb hr rfl rfl hP hD hS dX6_canEnd_25 hlocks
theorem hdX6_end : yX6_end.cls = RX6 ∧ yX6_end.cls ≠ "java/lang/invoke/MethodHandle" ∧ yX6_end.cls ≠ "java/lang/invoke/VarHandle" ∧ (parseMethodDescriptor yX6_end.desc).map (fun d => d.parameters.length) = some 0 := by decide +kernel
set_option maxHeartbeats 4000000 in
set_option maxRecDepth 100000 in
theorem cX6_end_ok (l : Launch) (G : va_G) (cI cG : ClassId) (a0 a1 a2 a3 a4 : Nat) (fu : Nat) (th : Int32) (sa : (Nat → Int32)) (asd : (Nat → Int32)) (sv : (Nat → Int32)) (sm : Int32) (mt : (Nat → Int32)) (ln : Int32) (nx : Int32) (cd : Int32) (dg : Int32) (pw : Int32) (hs : Int64) (out : Int32 × Int32 × (Nat → Int32) × (Nat → Int32) × Int32) (hf : fX6_end fu th sa sv sm = some out) : CI l G (tyz cI cG) yX6_end wsX6_end ({ frames := 2, cells := 0, slots := 0, locals := 46 } : Room) [.ref a0] [(a0, .inr (9, [.int th, .ref a1, .ref a2, .ref a3, .int sm, .ref a4, .int ln, .int nx, .int cd, .int dg, .int pw, .long hs])), (a1, .inl (cI, 378, .inl sa)), (a2, .inl (cI, 378, .inl asd)), (a3, .inl (cI, 1512, .inl sv)), (a4, .inl (cI, 120, .inl mt))] out.1 [(a0, .inr (9, [.int out.2.1, .ref a1, .ref a2, .ref a3, .int out.2.2.2.2, .ref a4, .int ln, .int nx, .int cd, .int dg, .int pw, .long hs])), (a1, .inl (cI, 378, .inl out.2.2.1)), (a2, .inl (cI, 378, .inl asd)), (a3, .inl (cI, 1512, .inl out.2.2.2.1)), (a4, .inl (cI, 120, .inl mt))] := by
  intro sz
  refine Met.ofW (cc := cX6_end) (maxL := 1) (ret := (some .int)) (by decide) rfl ?_
  intro p e s m args below meth c s₁ B hml hv
  obtain ⟨rfl, hsz, hP, hK, hD0⟩ := hv
  have hx := B.exec
  have hb := B.bytes
  have hr := B.returns
  have hts := atoms_spec (ws := wsX6_end) B.pre
  have hown : s.vm.findClass RX6 = some m.cls := findClass_of_methodNamed B.named
  have hlocks := B.notSynchronized
  subst hsz
  have hD := hD0.self (sz := s.heap.size)
  generalize hAe : va_A [(a0, .inr (9, [.int th, .ref a1, .ref a2, .ref a3, .int sm, .ref a4, .int ln, .int nx, .int cd, .int dg, .int pw, .long hs])), (a1, .inl (cI, 378, .inl sa)), (a2, .inl (cI, 378, .inl asd)), (a3, .inl (cI, 1512, .inl sv)), (a4, .inl (cI, 120, .inl mt))] s.heap.size = A at hD ⊢
  have hA : ∀ q : Nat, s.heap.size ≤ q → A q := fun q h => by rw [← hAe]; exact Or.inr h
  have hS : va_S A s.heap s.heap [] := va_S.rf
  have hw0 := hts (.fieldLink RX6 22 "SpeedTurnsModel" "thrown" "I") (List.mem_of_getElem? (i := 1) rfl)
  have hin6 : ∀ w ∈ u_ws RX6 TX6 12, w ∈ wsX6_end := by decide +kernel
  show W p l e ({ frames := 2, cells := 0, slots := 0, locals := 46 } : Room) s m _ below meth c s.heap [] 0 0 _ _
  refine W_genQ (fun Q hQ => ?_)
  have h := hf
  rw [fX6_end] at h
  have hl := lv_entry ([.ref a0]) (n := 1) (Nat.le_of_ble_eq_true rfl)
  rw [lg_entry_eq]
  generalize (lg_sl ([.ref a0]) ++ List.replicate (1 - (lg_sl ([.ref a0])).length) Slot.unset).toArray = ls at hl ⊢
  have hl : lv_has ls 1 [(0, .ref a0)] := hl
  refine lv_aload_n hx hb dX6_end_0 rfl (lv_at hl 0 rfl) ?_
  refine lv_iconst (v := 0) hx hb dX6_end_1 (by decide) ?_
  refine va_put (D := G) (ci := 9) (v := .int (0 : Int32)) (ty := .int) (C := RX6) (T := TX6) (N := 12) hx hb hts hin6 tyX6 tyX6_ok nmX6 hown hK.1 hP hD hS 0 rfl rfl 0 (by decide) hw0 (fun _ h9 => h9) rfl (by decide +kernel) rfl rfl (Nat.le_of_ble_eq_true rfl) dX6_end_2 (fun H locs hP hD hS => ?_)
  have hP : va_P G vwCl [(a0, .inr (9, [.int (0 : Int32), .ref a1, .ref a2, .ref a3, .int sm, .ref a4, .int ln, .int nx, .int cd, .int dg, .int pw, .long hs])), (a1, .inl (cI, 378, .inl sa)), (a2, .inl (cI, 378, .inl asd)), (a3, .inl (cI, 1512, .inl sv)), (a4, .inl (cI, 120, .inl mt))] H := hP
  have hD : va_D A [(a0, .inr (9, [.int (0 : Int32), .ref a1, .ref a2, .ref a3, .int sm, .ref a4, .int ln, .int nx, .int cd, .int dg, .int pw, .long hs])), (a1, .inl (cI, 378, .inl sa)), (a2, .inl (cI, 378, .inl asd)), (a3, .inl (cI, 1512, .inl sv)), (a4, .inl (cI, 120, .inl mt))] := hD
  refine lv_aload_n hx hb dX6_end_5 rfl (lv_at hl 0 rfl) ?_
  obtain ⟨x1, ex1, h⟩ := o_b h
  refine call_iV (As := []) (rest := []) (ws2 := [(a0, .inr (9, [.int (0 : Int32), .ref a1, .ref a2, .ref a3, .int sm, .ref a4, .int ln, .int nx, .int cd, .int dg, .int pw, .long hs])), (a1, .inl (cI, 378, .inl sa)), (a2, .inl (cI, 378, .inl asd)), (a3, .inl (cI, 1512, .inl sv)), (a4, .inl (cI, 120, .inl mt))]) ⟨hx, hb, hml, hown, hts⟩ (cX6_canEnd_ok l G cI cG a0 a1 a2 a3 a4 (0 : Int32) sa asd sv sm mt ln nx cd dg pw hs x1 ex1) (cwV 0 hts gX6_end_X6_canEnd rfl rfl rfl hdX6_canEnd ⟨Nat.le_of_ble_eq_true rfl, Nat.le_of_ble_eq_true rfl⟩) hP hD hS hA hK 9 rfl rfl rfl [0, 1, 2, 3, 4] rfl rfl rfl rfl rfl rfl rfl rfl hl.1 (Nat.le_of_ble_eq_true rfl) dX6_end_6 ⟨Nat.zero_le _, Nat.zero_le _⟩ (fun H locs hP hD hS => ?_)
  refine lv_if_ne (tgt := 18) hx hb dX6_end_9 (by decide) (fun hc => ?_) (fun hc => ?_)
  · have h := o_f h hc
    refine lv_aload_n hx hb dX6_end_18 rfl (lv_at hl 0 rfl) ?_
    obtain ⟨x2, ex2, h⟩ := o_b h
    refine call_vV (As := []) (rest := []) (ws2 := [(a0, .inr (9, [.int (0 : Int32), .ref a1, .ref a2, .ref a3, .int x2.2, .ref a4, .int ln, .int nx, .int cd, .int dg, .int pw, .long hs])), (a1, .inl (cI, 378, .inl sa)), (a2, .inl (cI, 378, .inl asd)), (a3, .inl (cI, 1512, .inl x2.1)), (a4, .inl (cI, 120, .inl mt))]) ⟨hx, hb, hml, hown, hts⟩ (cX6_save_ok l G cI cG a0 a1 a2 a3 a4 fu (0 : Int32) sa asd sv sm mt ln nx cd dg pw hs x2 ex2) (cwV 0 hts gX6_end_X6_save rfl rfl rfl hdX6_save ⟨Nat.le_of_ble_eq_true rfl, Nat.le_of_ble_eq_true rfl⟩) hP hD hS hA hK 9 rfl rfl rfl [0, 1, 2, 3, 4] rfl rfl rfl rfl rfl rfl rfl rfl hl.1 (Nat.le_of_ble_eq_true rfl) dX6_end_19 ⟨Nat.zero_le _, Nat.zero_le _⟩ (fun H locs hP hD hS => ?_)
    refine lv_aload_n hx hb dX6_end_22 rfl (lv_at hl 0 rfl) ?_
    obtain ⟨x3, ex3, h⟩ := o_b h
    refine call_iV (As := []) (rest := []) (ws2 := [(a0, .inr (9, [.int (0 : Int32), .ref a1, .ref a2, .ref a3, .int x2.2, .ref a4, .int ln, .int nx, .int cd, .int dg, .int pw, .long hs])), (a1, .inl (cI, 378, .inl x3.2)), (a2, .inl (cI, 378, .inl asd)), (a3, .inl (cI, 1512, .inl x2.1)), (a4, .inl (cI, 120, .inl mt))]) ⟨hx, hb, hml, hown, hts⟩ (cX6_ends_ok l G cI cG a0 a1 a2 a3 a4 fu (0 : Int32) sa asd x2.1 x2.2 mt ln nx cd dg pw hs x3 ex3) (cwV 0 hts gX6_end_X6_ends rfl rfl rfl hdX6_ends ⟨Nat.le_of_ble_eq_true rfl, Nat.le_of_ble_eq_true rfl⟩) hP hD hS hA hK 9 rfl rfl rfl [0, 1, 2, 3, 4] rfl rfl rfl rfl rfl rfl rfl rfl hl.1 (Nat.le_of_ble_eq_true rfl) dX6_end_23 ⟨Nat.zero_le _, Nat.zero_le _⟩ (fun H locs hP hD hS => ?_)
    obtain rfl := o_s h
    rw [hQ]
    exact end_i hx hb hr rfl hP hD hS dX6_end_26 hlocks
  · have h := o_t h hc
    refine lv_aload_n hx hb dX6_end_12 rfl (lv_at hl 0 rfl) ?_
    refine lv_iconst (v := 1) hx hb dX6_end_13 (by decide) ?_
    obtain ⟨x4, ex4, h⟩ := o_b h
    refine call_iV (As := [.int (1 : Int32)]) (rest := []) (ws2 := [(a0, .inr (9, [.int x4.2, .ref a1, .ref a2, .ref a3, .int sm, .ref a4, .int ln, .int nx, .int cd, .int dg, .int pw, .long hs])), (a1, .inl (cI, 378, .inl sa)), (a2, .inl (cI, 378, .inl asd)), (a3, .inl (cI, 1512, .inl sv)), (a4, .inl (cI, 120, .inl mt))]) ⟨hx, hb, hml, hown, hts⟩ (cX6_fails_ok l G cI cG a0 a1 a2 a3 a4 (0 : Int32) sa asd sv sm mt ln nx cd dg pw hs (1 : Int32) x4 ex4) (cwV 1 hts gX6_end_X6_fails rfl rfl rfl hdX6_fails ⟨Nat.le_of_ble_eq_true rfl, Nat.le_of_ble_eq_true rfl⟩) hP hD hS hA hK 9 rfl rfl rfl [0, 1, 2, 3, 4] rfl rfl rfl rfl rfl rfl rfl rfl hl.1 (Nat.le_of_ble_eq_true rfl) dX6_end_14 ⟨Nat.zero_le _, Nat.zero_le _⟩ (fun H locs hP hD hS => ?_)
    obtain rfl := o_s h
    rw [hQ]
    exact end_i hx hb hr rfl hP hD hS dX6_end_17 hlocks
theorem hdX6_delay : yX6_delay.cls = RX6 ∧ yX6_delay.cls ≠ "java/lang/invoke/MethodHandle" ∧ yX6_delay.cls ≠ "java/lang/invoke/VarHandle" ∧ (parseMethodDescriptor yX6_delay.desc).map (fun d => d.parameters.length) = some 0 := by decide +kernel
set_option maxHeartbeats 4000000 in
set_option maxRecDepth 100000 in
theorem cX6_delay_ok (l : Launch) (G : va_G) (cI cG : ClassId) (a0 a1 a2 a3 a4 : Nat) (fu : Nat) (th : Int32) (sa : (Nat → Int32)) (asd : (Nat → Int32)) (sv : (Nat → Int32)) (sm : Int32) (mt : (Nat → Int32)) (ln : Int32) (nx : Int32) (cd : Int32) (dg : Int32) (pw : Int32) (hs : Int64) (out : Int32 × Int32 × (Nat → Int32) × (Nat → Int32) × Int32) (hf : fX6_delay fu th sa sv sm = some out) : CI l G (tyz cI cG) yX6_delay wsX6_delay ({ frames := 2, cells := 0, slots := 0, locals := 44 } : Room) [.ref a0] [(a0, .inr (9, [.int th, .ref a1, .ref a2, .ref a3, .int sm, .ref a4, .int ln, .int nx, .int cd, .int dg, .int pw, .long hs])), (a1, .inl (cI, 378, .inl sa)), (a2, .inl (cI, 378, .inl asd)), (a3, .inl (cI, 1512, .inl sv)), (a4, .inl (cI, 120, .inl mt))] out.1 [(a0, .inr (9, [.int out.2.1, .ref a1, .ref a2, .ref a3, .int out.2.2.2.2, .ref a4, .int ln, .int nx, .int cd, .int dg, .int pw, .long hs])), (a1, .inl (cI, 378, .inl out.2.2.1)), (a2, .inl (cI, 378, .inl asd)), (a3, .inl (cI, 1512, .inl out.2.2.2.1)), (a4, .inl (cI, 120, .inl mt))] := by
  intro sz
  refine Met.ofW (cc := cX6_delay) (maxL := 1) (ret := (some .int)) (by decide) rfl ?_
  intro p e s m args below meth c s₁ B hml hv
  obtain ⟨rfl, hsz, hP, hK, hD0⟩ := hv
  have hx := B.exec
  have hb := B.bytes
  have hr := B.returns
  have hts := atoms_spec (ws := wsX6_delay) B.pre
  have hown : s.vm.findClass RX6 = some m.cls := findClass_of_methodNamed B.named
  have hlocks := B.notSynchronized
  subst hsz
  have hD := hD0.self (sz := s.heap.size)
  generalize hAe : va_A [(a0, .inr (9, [.int th, .ref a1, .ref a2, .ref a3, .int sm, .ref a4, .int ln, .int nx, .int cd, .int dg, .int pw, .long hs])), (a1, .inl (cI, 378, .inl sa)), (a2, .inl (cI, 378, .inl asd)), (a3, .inl (cI, 1512, .inl sv)), (a4, .inl (cI, 120, .inl mt))] s.heap.size = A at hD ⊢
  have hA : ∀ q : Nat, s.heap.size ≤ q → A q := fun q h => by rw [← hAe]; exact Or.inr h
  have hS : va_S A s.heap s.heap [] := va_S.rf
  have hw0 := hts (.fieldLink RX6 22 "SpeedTurnsModel" "thrown" "I") (List.mem_of_getElem? (i := 1) rfl)
  have hin6 : ∀ w ∈ u_ws RX6 TX6 12, w ∈ wsX6_delay := by decide +kernel
  show W p l e ({ frames := 2, cells := 0, slots := 0, locals := 44 } : Room) s m _ below meth c s.heap [] 0 0 _ _
  refine W_genQ (fun Q hQ => ?_)
  have h := hf
  rw [fX6_delay] at h
  have hl := lv_entry ([.ref a0]) (n := 1) (Nat.le_of_ble_eq_true rfl)
  rw [lg_entry_eq]
  generalize (lg_sl ([.ref a0]) ++ List.replicate (1 - (lg_sl ([.ref a0])).length) Slot.unset).toArray = ls at hl ⊢
  have hl : lv_has ls 1 [(0, .ref a0)] := hl
  refine lv_aload_n hx hb dX6_delay_0 rfl (lv_at hl 0 rfl) ?_
  refine lv_iconst (v := 0) hx hb dX6_delay_1 (by decide) ?_
  refine va_put (D := G) (ci := 9) (v := .int (0 : Int32)) (ty := .int) (C := RX6) (T := TX6) (N := 12) hx hb hts hin6 tyX6 tyX6_ok nmX6 hown hK.1 hP hD hS 0 rfl rfl 0 (by decide) hw0 (fun _ h9 => h9) rfl (by decide +kernel) rfl rfl (Nat.le_of_ble_eq_true rfl) dX6_delay_2 (fun H locs hP hD hS => ?_)
  have hP : va_P G vwCl [(a0, .inr (9, [.int (0 : Int32), .ref a1, .ref a2, .ref a3, .int sm, .ref a4, .int ln, .int nx, .int cd, .int dg, .int pw, .long hs])), (a1, .inl (cI, 378, .inl sa)), (a2, .inl (cI, 378, .inl asd)), (a3, .inl (cI, 1512, .inl sv)), (a4, .inl (cI, 120, .inl mt))] H := hP
  have hD : va_D A [(a0, .inr (9, [.int (0 : Int32), .ref a1, .ref a2, .ref a3, .int sm, .ref a4, .int ln, .int nx, .int cd, .int dg, .int pw, .long hs])), (a1, .inl (cI, 378, .inl sa)), (a2, .inl (cI, 378, .inl asd)), (a3, .inl (cI, 1512, .inl sv)), (a4, .inl (cI, 120, .inl mt))] := hD
  refine lv_aload_n hx hb dX6_delay_5 rfl (lv_at hl 0 rfl) ?_
  obtain ⟨x1, ex1, h⟩ := o_b h
  refine call_iV (As := []) (rest := []) (ws2 := [(a0, .inr (9, [.int (0 : Int32), .ref a1, .ref a2, .ref a3, .int sm, .ref a4, .int ln, .int nx, .int cd, .int dg, .int pw, .long hs])), (a1, .inl (cI, 378, .inl sa)), (a2, .inl (cI, 378, .inl asd)), (a3, .inl (cI, 1512, .inl sv)), (a4, .inl (cI, 120, .inl mt))]) ⟨hx, hb, hml, hown, hts⟩ (cX6_canDelay_ok l G cI cG a0 a1 a2 a3 a4 (0 : Int32) sa asd sv sm mt ln nx cd dg pw hs x1 ex1) (cwV 0 hts gX6_delay_X6_canDelay rfl rfl rfl hdX6_canDelay ⟨Nat.le_of_ble_eq_true rfl, Nat.le_of_ble_eq_true rfl⟩) hP hD hS hA hK 9 rfl rfl rfl [0, 1, 2, 3, 4] rfl rfl rfl rfl rfl rfl rfl rfl hl.1 (Nat.le_of_ble_eq_true rfl) dX6_delay_6 ⟨Nat.zero_le _, Nat.zero_le _⟩ (fun H locs hP hD hS => ?_)
  refine lv_if_ne (tgt := 18) hx hb dX6_delay_9 (by decide) (fun hc => ?_) (fun hc => ?_)
  · have h := o_f h hc
    refine lv_aload_n hx hb dX6_delay_18 rfl (lv_at hl 0 rfl) ?_
    obtain ⟨x2, ex2, h⟩ := o_b h
    refine call_vV (As := []) (rest := []) (ws2 := [(a0, .inr (9, [.int (0 : Int32), .ref a1, .ref a2, .ref a3, .int x2.2, .ref a4, .int ln, .int nx, .int cd, .int dg, .int pw, .long hs])), (a1, .inl (cI, 378, .inl sa)), (a2, .inl (cI, 378, .inl asd)), (a3, .inl (cI, 1512, .inl x2.1)), (a4, .inl (cI, 120, .inl mt))]) ⟨hx, hb, hml, hown, hts⟩ (cX6_save_ok l G cI cG a0 a1 a2 a3 a4 fu (0 : Int32) sa asd sv sm mt ln nx cd dg pw hs x2 ex2) (cwV 0 hts gX6_delay_X6_save rfl rfl rfl hdX6_save ⟨Nat.le_of_ble_eq_true rfl, Nat.le_of_ble_eq_true rfl⟩) hP hD hS hA hK 9 rfl rfl rfl [0, 1, 2, 3, 4] rfl rfl rfl rfl rfl rfl rfl rfl hl.1 (Nat.le_of_ble_eq_true rfl) dX6_delay_19 ⟨Nat.zero_le _, Nat.zero_le _⟩ (fun H locs hP hD hS => ?_)
    refine lv_aload_n hx hb dX6_delay_22 rfl (lv_at hl 0 rfl) ?_
    obtain ⟨x3, ex3, h⟩ := o_b h
    refine call_iV (As := []) (rest := []) (ws2 := [(a0, .inr (9, [.int (0 : Int32), .ref a1, .ref a2, .ref a3, .int x2.2, .ref a4, .int ln, .int nx, .int cd, .int dg, .int pw, .long hs])), (a1, .inl (cI, 378, .inl x3.2)), (a2, .inl (cI, 378, .inl asd)), (a3, .inl (cI, 1512, .inl x2.1)), (a4, .inl (cI, 120, .inl mt))]) ⟨hx, hb, hml, hown, hts⟩ (cX6_delays_ok l G cI cG a0 a1 a2 a3 a4 (0 : Int32) sa asd x2.1 x2.2 mt ln nx cd dg pw hs x3 ex3) (cwV 0 hts gX6_delay_X6_delays rfl rfl rfl hdX6_delays ⟨Nat.le_of_ble_eq_true rfl, Nat.le_of_ble_eq_true rfl⟩) hP hD hS hA hK 9 rfl rfl rfl [0, 1, 2, 3, 4] rfl rfl rfl rfl rfl rfl rfl rfl hl.1 (Nat.le_of_ble_eq_true rfl) dX6_delay_23 ⟨Nat.zero_le _, Nat.zero_le _⟩ (fun H locs hP hD hS => ?_)
    obtain rfl := o_s h
    rw [hQ]
    exact end_i hx hb hr rfl hP hD hS dX6_delay_26 hlocks
  · have h := o_t h hc
    refine lv_aload_n hx hb dX6_delay_12 rfl (lv_at hl 0 rfl) ?_
    refine lv_iconst (v := 1) hx hb dX6_delay_13 (by decide) ?_
    obtain ⟨x4, ex4, h⟩ := o_b h
    refine call_iV (As := [.int (1 : Int32)]) (rest := []) (ws2 := [(a0, .inr (9, [.int x4.2, .ref a1, .ref a2, .ref a3, .int sm, .ref a4, .int ln, .int nx, .int cd, .int dg, .int pw, .long hs])), (a1, .inl (cI, 378, .inl sa)), (a2, .inl (cI, 378, .inl asd)), (a3, .inl (cI, 1512, .inl sv)), (a4, .inl (cI, 120, .inl mt))]) ⟨hx, hb, hml, hown, hts⟩ (cX6_fails_ok l G cI cG a0 a1 a2 a3 a4 (0 : Int32) sa asd sv sm mt ln nx cd dg pw hs (1 : Int32) x4 ex4) (cwV 1 hts gX6_delay_X6_fails rfl rfl rfl hdX6_fails ⟨Nat.le_of_ble_eq_true rfl, Nat.le_of_ble_eq_true rfl⟩) hP hD hS hA hK 9 rfl rfl rfl [0, 1, 2, 3, 4] rfl rfl rfl rfl rfl rfl rfl rfl hl.1 (Nat.le_of_ble_eq_true rfl) dX6_delay_14 ⟨Nat.zero_le _, Nat.zero_le _⟩ (fun H locs hP hD hS => ?_)
    obtain rfl := o_s h
    rw [hQ]
    exact end_i hx hb hr rfl hP hD hS dX6_delay_17 hlocks
theorem hdX6_comeIn : yX6_comeIn.cls = RX6 ∧ yX6_comeIn.cls ≠ "java/lang/invoke/MethodHandle" ∧ yX6_comeIn.cls ≠ "java/lang/invoke/VarHandle" ∧ (parseMethodDescriptor yX6_comeIn.desc).map (fun d => d.parameters.length) = some 1 := by decide +kernel
set_option maxHeartbeats 4000000 in
set_option maxRecDepth 100000 in
theorem cX6_comeIn_ok (l : Launch) (G : va_G) (cI cG : ClassId) (a0 a1 a2 a3 a4 : Nat) (fu : Nat) (th : Int32) (sa : (Nat → Int32)) (asd : (Nat → Int32)) (sv : (Nat → Int32)) (sm : Int32) (mt : (Nat → Int32)) (ln : Int32) (nx : Int32) (cd : Int32) (dg : Int32) (pw : Int32) (hs : Int64) (p1 : Int32) (out : Int32 × Int32 × (Nat → Int32) × (Nat → Int32) × Int32) (hf : fX6_comeIn fu th sa sv sm p1 = some out) : CI l G (tyz cI cG) yX6_comeIn wsX6_comeIn ({ frames := 3, cells := 0, slots := 0, locals := 67 } : Room) [.ref a0, .int p1] [(a0, .inr (9, [.int th, .ref a1, .ref a2, .ref a3, .int sm, .ref a4, .int ln, .int nx, .int cd, .int dg, .int pw, .long hs])), (a1, .inl (cI, 378, .inl sa)), (a2, .inl (cI, 378, .inl asd)), (a3, .inl (cI, 1512, .inl sv)), (a4, .inl (cI, 120, .inl mt))] out.1 [(a0, .inr (9, [.int out.2.1, .ref a1, .ref a2, .ref a3, .int out.2.2.2.2, .ref a4, .int ln, .int nx, .int cd, .int dg, .int pw, .long hs])), (a1, .inl (cI, 378, .inl out.2.2.1)), (a2, .inl (cI, 378, .inl asd)), (a3, .inl (cI, 1512, .inl out.2.2.2.1)), (a4, .inl (cI, 120, .inl mt))] := by
  intro sz
  refine Met.ofW (cc := cX6_comeIn) (maxL := 2) (ret := (some .int)) (by decide) rfl ?_
  intro p e s m args below meth c s₁ B hml hv
  obtain ⟨rfl, hsz, hP, hK, hD0⟩ := hv
  have hx := B.exec
  have hb := B.bytes
  have hr := B.returns
  have hts := atoms_spec (ws := wsX6_comeIn) B.pre
  have hown : s.vm.findClass RX6 = some m.cls := findClass_of_methodNamed B.named
  have hlocks := B.notSynchronized
  subst hsz
  have hD := hD0.self (sz := s.heap.size)
  generalize hAe : va_A [(a0, .inr (9, [.int th, .ref a1, .ref a2, .ref a3, .int sm, .ref a4, .int ln, .int nx, .int cd, .int dg, .int pw, .long hs])), (a1, .inl (cI, 378, .inl sa)), (a2, .inl (cI, 378, .inl asd)), (a3, .inl (cI, 1512, .inl sv)), (a4, .inl (cI, 120, .inl mt))] s.heap.size = A at hD ⊢
  have hA : ∀ q : Nat, s.heap.size ≤ q → A q := fun q h => by rw [← hAe]; exact Or.inr h
  have hS : va_S A s.heap s.heap [] := va_S.rf
  have hw0 := hts (.fieldLink RX6 22 "SpeedTurnsModel" "thrown" "I") (List.mem_of_getElem? (i := 1) rfl)
  have hin6 : ∀ w ∈ u_ws RX6 TX6 12, w ∈ wsX6_comeIn := by decide +kernel
  show W p l e ({ frames := 3, cells := 0, slots := 0, locals := 67 } : Room) s m _ below meth c s.heap [] 0 0 _ _
  refine W_genQ (fun Q hQ => ?_)
  have h := hf
  rw [fX6_comeIn] at h
  have hl := lv_entry ([.ref a0, .int p1]) (n := 2) (Nat.le_of_ble_eq_true rfl)
  rw [lg_entry_eq]
  generalize (lg_sl ([.ref a0, .int p1]) ++ List.replicate (2 - (lg_sl ([.ref a0, .int p1])).length) Slot.unset).toArray = ls at hl ⊢
  have hl : lv_has ls 2 [(0, .ref a0), (1, .int p1)] := hl
  refine lv_aload_n hx hb dX6_comeIn_0 rfl (lv_at hl 0 rfl) ?_
  refine lv_iconst (v := 0) hx hb dX6_comeIn_1 (by decide) ?_
  refine va_put (D := G) (ci := 9) (v := .int (0 : Int32)) (ty := .int) (C := RX6) (T := TX6) (N := 12) hx hb hts hin6 tyX6 tyX6_ok nmX6 hown hK.1 hP hD hS 0 rfl rfl 0 (by decide) hw0 (fun _ h9 => h9) rfl (by decide +kernel) rfl rfl (Nat.le_of_ble_eq_true rfl) dX6_comeIn_2 (fun H locs hP hD hS => ?_)
  have hP : va_P G vwCl [(a0, .inr (9, [.int (0 : Int32), .ref a1, .ref a2, .ref a3, .int sm, .ref a4, .int ln, .int nx, .int cd, .int dg, .int pw, .long hs])), (a1, .inl (cI, 378, .inl sa)), (a2, .inl (cI, 378, .inl asd)), (a3, .inl (cI, 1512, .inl sv)), (a4, .inl (cI, 120, .inl mt))] H := hP
  have hD : va_D A [(a0, .inr (9, [.int (0 : Int32), .ref a1, .ref a2, .ref a3, .int sm, .ref a4, .int ln, .int nx, .int cd, .int dg, .int pw, .long hs])), (a1, .inl (cI, 378, .inl sa)), (a2, .inl (cI, 378, .inl asd)), (a3, .inl (cI, 1512, .inl sv)), (a4, .inl (cI, 120, .inl mt))] := hD
  refine lv_aload_n hx hb dX6_comeIn_5 rfl (lv_at hl 0 rfl) ?_
  refine lv_iload_n hx hb dX6_comeIn_6 rfl (lv_at hl 1 rfl) ?_
  obtain ⟨x1, ex1, h⟩ := o_b h
  refine call_iV (As := [.int p1]) (rest := []) (ws2 := [(a0, .inr (9, [.int (0 : Int32), .ref a1, .ref a2, .ref a3, .int sm, .ref a4, .int ln, .int nx, .int cd, .int dg, .int pw, .long hs])), (a1, .inl (cI, 378, .inl sa)), (a2, .inl (cI, 378, .inl asd)), (a3, .inl (cI, 1512, .inl sv)), (a4, .inl (cI, 120, .inl mt))]) ⟨hx, hb, hml, hown, hts⟩ (cX6_isFighter_ok l G cI cG a0 a1 a2 a3 a4 (0 : Int32) sa asd sv sm mt ln nx cd dg pw hs p1 x1 ex1) (cwV 1 hts gX6_comeIn_X6_isFighter rfl rfl rfl hdX6_isFighter ⟨Nat.le_of_ble_eq_true rfl, Nat.le_of_ble_eq_true rfl⟩) hP hD hS hA hK 9 rfl rfl rfl [0, 1, 2, 3, 4] rfl rfl rfl rfl rfl rfl rfl rfl hl.1 (Nat.le_of_ble_eq_true rfl) dX6_comeIn_7 ⟨Nat.zero_le _, Nat.zero_le _⟩ (fun H locs hP hD hS => ?_)
  refine lv_if_ne (tgt := 19) hx hb dX6_comeIn_10 (by decide) (fun hc => ?_) (fun hc => ?_)
  · have h := o_f h hc
    refine lv_aload_n hx hb dX6_comeIn_19 rfl (lv_at hl 0 rfl) ?_
    refine lv_iload_n hx hb dX6_comeIn_20 rfl (lv_at hl 1 rfl) ?_
    obtain ⟨x2, ex2, h⟩ := o_b h
    refine call_iV (As := [.int p1]) (rest := []) (ws2 := [(a0, .inr (9, [.int (0 : Int32), .ref a1, .ref a2, .ref a3, .int sm, .ref a4, .int ln, .int nx, .int cd, .int dg, .int pw, .long hs])), (a1, .inl (cI, 378, .inl sa)), (a2, .inl (cI, 378, .inl asd)), (a3, .inl (cI, 1512, .inl sv)), (a4, .inl (cI, 120, .inl mt))]) ⟨hx, hb, hml, hown, hts⟩ (cX6_canComeIn_ok l G cI cG a0 a1 a2 a3 a4 (0 : Int32) sa asd sv sm mt ln nx cd dg pw hs p1 x2 ex2) (cwV 1 hts gX6_comeIn_X6_canComeIn rfl rfl rfl hdX6_canComeIn ⟨Nat.le_of_ble_eq_true rfl, Nat.le_of_ble_eq_true rfl⟩) hP hD hS hA hK 9 rfl rfl rfl [0, 1, 2, 3, 4] rfl rfl rfl rfl rfl rfl rfl rfl hl.1 (Nat.le_of_ble_eq_true rfl) dX6_comeIn_21 ⟨Nat.zero_le _, Nat.zero_le _⟩ (fun H locs hP hD hS => ?_)
    refine lv_if_ne (tgt := 33) hx hb dX6_comeIn_24 (by decide) (fun hc => ?_) (fun hc => ?_)
    · have h := o_f h hc
      refine lv_aload_n hx hb dX6_comeIn_33 rfl (lv_at hl 0 rfl) ?_
      obtain ⟨x3, ex3, h⟩ := o_b h
      refine call_vV (As := []) (rest := []) (ws2 := [(a0, .inr (9, [.int (0 : Int32), .ref a1, .ref a2, .ref a3, .int x3.2, .ref a4, .int ln, .int nx, .int cd, .int dg, .int pw, .long hs])), (a1, .inl (cI, 378, .inl sa)), (a2, .inl (cI, 378, .inl asd)), (a3, .inl (cI, 1512, .inl x3.1)), (a4, .inl (cI, 120, .inl mt))]) ⟨hx, hb, hml, hown, hts⟩ (cX6_save_ok l G cI cG a0 a1 a2 a3 a4 fu (0 : Int32) sa asd sv sm mt ln nx cd dg pw hs x3 ex3) (cwV 0 hts gX6_comeIn_X6_save rfl rfl rfl hdX6_save ⟨Nat.le_of_ble_eq_true rfl, Nat.le_of_ble_eq_true rfl⟩) hP hD hS hA hK 9 rfl rfl rfl [0, 1, 2, 3, 4] rfl rfl rfl rfl rfl rfl rfl rfl hl.1 (Nat.le_of_ble_eq_true rfl) dX6_comeIn_34 ⟨Nat.zero_le _, Nat.zero_le _⟩ (fun H locs hP hD hS => ?_)
      refine lv_aload_n hx hb dX6_comeIn_37 rfl (lv_at hl 0 rfl) ?_
      refine lv_iload_n hx hb dX6_comeIn_38 rfl (lv_at hl 1 rfl) ?_
      obtain ⟨x4, ex4, h⟩ := o_b h
      refine call_iV (As := [.int p1]) (rest := []) (ws2 := [(a0, .inr (9, [.int (0 : Int32), .ref a1, .ref a2, .ref a3, .int x3.2, .ref a4, .int ln, .int nx, .int cd, .int dg, .int pw, .long hs])), (a1, .inl (cI, 378, .inl x4.2)), (a2, .inl (cI, 378, .inl asd)), (a3, .inl (cI, 1512, .inl x3.1)), (a4, .inl (cI, 120, .inl mt))]) ⟨hx, hb, hml, hown, hts⟩ (cX6_comesIn_ok l G cI cG a0 a1 a2 a3 a4 fu (0 : Int32) sa asd x3.1 x3.2 mt ln nx cd dg pw hs p1 x4 ex4) (cwV 1 hts gX6_comeIn_X6_comesIn rfl rfl rfl hdX6_comesIn ⟨Nat.le_of_ble_eq_true rfl, Nat.le_of_ble_eq_true rfl⟩) hP hD hS hA hK 9 rfl rfl rfl [0, 1, 2, 3, 4] rfl rfl rfl rfl rfl rfl rfl rfl hl.1 (Nat.le_of_ble_eq_true rfl) dX6_comeIn_39 ⟨Nat.zero_le _, Nat.zero_le _⟩ (fun H locs hP hD hS => ?_)
      obtain rfl := o_s h
      rw [hQ]
      exact end_i hx hb hr rfl hP hD hS dX6_comeIn_42 hlocks
    · have h := o_t h hc
      refine lv_aload_n hx hb dX6_comeIn_27 rfl (lv_at hl 0 rfl) ?_
      refine lv_iconst (v := 2) hx hb dX6_comeIn_28 (by decide) ?_
      obtain ⟨x5, ex5, h⟩ := o_b h
      refine call_iV (As := [.int (2 : Int32)]) (rest := []) (ws2 := [(a0, .inr (9, [.int x5.2, .ref a1, .ref a2, .ref a3, .int sm, .ref a4, .int ln, .int nx, .int cd, .int dg, .int pw, .long hs])), (a1, .inl (cI, 378, .inl sa)), (a2, .inl (cI, 378, .inl asd)), (a3, .inl (cI, 1512, .inl sv)), (a4, .inl (cI, 120, .inl mt))]) ⟨hx, hb, hml, hown, hts⟩ (cX6_fails_ok l G cI cG a0 a1 a2 a3 a4 (0 : Int32) sa asd sv sm mt ln nx cd dg pw hs (2 : Int32) x5 ex5) (cwV 1 hts gX6_comeIn_X6_fails rfl rfl rfl hdX6_fails ⟨Nat.le_of_ble_eq_true rfl, Nat.le_of_ble_eq_true rfl⟩) hP hD hS hA hK 9 rfl rfl rfl [0, 1, 2, 3, 4] rfl rfl rfl rfl rfl rfl rfl rfl hl.1 (Nat.le_of_ble_eq_true rfl) dX6_comeIn_29 ⟨Nat.zero_le _, Nat.zero_le _⟩ (fun H locs hP hD hS => ?_)
      obtain rfl := o_s h
      rw [hQ]
      exact end_i hx hb hr rfl hP hD hS dX6_comeIn_32 hlocks
  · have h := o_t h hc
    refine lv_aload_n hx hb dX6_comeIn_13 rfl (lv_at hl 0 rfl) ?_
    refine lv_iconst (v := 1) hx hb dX6_comeIn_14 (by decide) ?_
    obtain ⟨x6, ex6, h⟩ := o_b h
    refine call_iV (As := [.int (1 : Int32)]) (rest := []) (ws2 := [(a0, .inr (9, [.int x6.2, .ref a1, .ref a2, .ref a3, .int sm, .ref a4, .int ln, .int nx, .int cd, .int dg, .int pw, .long hs])), (a1, .inl (cI, 378, .inl sa)), (a2, .inl (cI, 378, .inl asd)), (a3, .inl (cI, 1512, .inl sv)), (a4, .inl (cI, 120, .inl mt))]) ⟨hx, hb, hml, hown, hts⟩ (cX6_fails_ok l G cI cG a0 a1 a2 a3 a4 (0 : Int32) sa asd sv sm mt ln nx cd dg pw hs (1 : Int32) x6 ex6) (cwV 1 hts gX6_comeIn_X6_fails rfl rfl rfl hdX6_fails ⟨Nat.le_of_ble_eq_true rfl, Nat.le_of_ble_eq_true rfl⟩) hP hD hS hA hK 9 rfl rfl rfl [0, 1, 2, 3, 4] rfl rfl rfl rfl rfl rfl rfl rfl hl.1 (Nat.le_of_ble_eq_true rfl) dX6_comeIn_15 ⟨Nat.zero_le _, Nat.zero_le _⟩ (fun H locs hP hD hS => ?_)
    obtain rfl := o_s h
    rw [hQ]
    exact end_i hx hb hr rfl hP hD hS dX6_comeIn_18 hlocks
theorem hdX6_act : yX6_act.cls = RX6 ∧ yX6_act.cls ≠ "java/lang/invoke/MethodHandle" ∧ yX6_act.cls ≠ "java/lang/invoke/VarHandle" ∧ (parseMethodDescriptor yX6_act.desc).map (fun d => d.parameters.length) = some 4 := by decide +kernel
set_option maxHeartbeats 4000000 in
set_option maxRecDepth 100000 in
theorem cX6_act_ok (l : Launch) (G : va_G) (cI cG : ClassId) (a0 a1 a2 a3 a4 : Nat) (fu : Nat) (th : Int32) (sa : (Nat → Int32)) (asd : (Nat → Int32)) (sv : (Nat → Int32)) (sm : Int32) (mt : (Nat → Int32)) (ln : Int32) (nx : Int32) (cd : Int32) (dg : Int32) (pw : Int32) (hs : Int64) (p1 : Int32) (p2 : Int32) (p3 : Int32) (p4 : Int32) (out : Int32 × Int32 × (Nat → Int32) × (Nat → Int32) × Int32) (hf : fX6_act fu th sa sv sm p1 p2 p3 p4 = some out) : CI l G (tyz cI cG) yX6_act wsX6_act ({ frames := 4, cells := 0, slots := 0, locals := 86 } : Room) [.ref a0, .int p1, .int p2, .int p3, .int p4] [(a0, .inr (9, [.int th, .ref a1, .ref a2, .ref a3, .int sm, .ref a4, .int ln, .int nx, .int cd, .int dg, .int pw, .long hs])), (a1, .inl (cI, 378, .inl sa)), (a2, .inl (cI, 378, .inl asd)), (a3, .inl (cI, 1512, .inl sv)), (a4, .inl (cI, 120, .inl mt))] out.1 [(a0, .inr (9, [.int out.2.1, .ref a1, .ref a2, .ref a3, .int out.2.2.2.2, .ref a4, .int ln, .int nx, .int cd, .int dg, .int pw, .long hs])), (a1, .inl (cI, 378, .inl out.2.2.1)), (a2, .inl (cI, 378, .inl asd)), (a3, .inl (cI, 1512, .inl out.2.2.2.1)), (a4, .inl (cI, 120, .inl mt))] := by
  intro sz
  refine Met.ofW (cc := cX6_act) (maxL := 5) (ret := (some .int)) (by decide) rfl ?_
  intro p e s m args below meth c s₁ B hml hv
  obtain ⟨rfl, hsz, hP, hK, hD0⟩ := hv
  have hx := B.exec
  have hb := B.bytes
  have hr := B.returns
  have hts := atoms_spec (ws := wsX6_act) B.pre
  have hown : s.vm.findClass RX6 = some m.cls := findClass_of_methodNamed B.named
  have hlocks := B.notSynchronized
  subst hsz
  have hD := hD0.self (sz := s.heap.size)
  generalize hAe : va_A [(a0, .inr (9, [.int th, .ref a1, .ref a2, .ref a3, .int sm, .ref a4, .int ln, .int nx, .int cd, .int dg, .int pw, .long hs])), (a1, .inl (cI, 378, .inl sa)), (a2, .inl (cI, 378, .inl asd)), (a3, .inl (cI, 1512, .inl sv)), (a4, .inl (cI, 120, .inl mt))] s.heap.size = A at hD ⊢
  have hA : ∀ q : Nat, s.heap.size ≤ q → A q := fun q h => by rw [← hAe]; exact Or.inr h
  have hS : va_S A s.heap s.heap [] := va_S.rf
  have hw0 := hts (.fieldLink RX6 22 "SpeedTurnsModel" "thrown" "I") (List.mem_of_getElem? (i := 1) rfl)
  have hin6 : ∀ w ∈ u_ws RX6 TX6 12, w ∈ wsX6_act := by decide +kernel
  show W p l e ({ frames := 4, cells := 0, slots := 0, locals := 86 } : Room) s m _ below meth c s.heap [] 0 0 _ _
  refine W_genQ (fun Q hQ => ?_)
  have h := hf
  rw [fX6_act] at h
  have hl := lv_entry ([.ref a0, .int p1, .int p2, .int p3, .int p4]) (n := 5) (Nat.le_of_ble_eq_true rfl)
  rw [lg_entry_eq]
  generalize (lg_sl ([.ref a0, .int p1, .int p2, .int p3, .int p4]) ++ List.replicate (5 - (lg_sl ([.ref a0, .int p1, .int p2, .int p3, .int p4])).length) Slot.unset).toArray = ls at hl ⊢
  have hl : lv_has ls 5 [(0, .ref a0), (1, .int p1), (2, .int p2), (3, .int p3), (4, .int p4)] := hl
  refine lv_aload_n hx hb dX6_act_0 rfl (lv_at hl 0 rfl) ?_
  refine lv_iconst (v := 0) hx hb dX6_act_1 (by decide) ?_
  refine va_put (D := G) (ci := 9) (v := .int (0 : Int32)) (ty := .int) (C := RX6) (T := TX6) (N := 12) hx hb hts hin6 tyX6 tyX6_ok nmX6 hown hK.1 hP hD hS 0 rfl rfl 0 (by decide) hw0 (fun _ h9 => h9) rfl (by decide +kernel) rfl rfl (Nat.le_of_ble_eq_true rfl) dX6_act_2 (fun H locs hP hD hS => ?_)
  have hP : va_P G vwCl [(a0, .inr (9, [.int (0 : Int32), .ref a1, .ref a2, .ref a3, .int sm, .ref a4, .int ln, .int nx, .int cd, .int dg, .int pw, .long hs])), (a1, .inl (cI, 378, .inl sa)), (a2, .inl (cI, 378, .inl asd)), (a3, .inl (cI, 1512, .inl sv)), (a4, .inl (cI, 120, .inl mt))] H := hP
  have hD : va_D A [(a0, .inr (9, [.int (0 : Int32), .ref a1, .ref a2, .ref a3, .int sm, .ref a4, .int ln, .int nx, .int cd, .int dg, .int pw, .long hs])), (a1, .inl (cI, 378, .inl sa)), (a2, .inl (cI, 378, .inl asd)), (a3, .inl (cI, 1512, .inl sv)), (a4, .inl (cI, 120, .inl mt))] := hD
  refine lv_aload_n hx hb dX6_act_5 rfl (lv_at hl 0 rfl) ?_
  refine lv_iload_n hx hb dX6_act_6 rfl (lv_at hl 1 rfl) ?_
  obtain ⟨x1, ex1, h⟩ := o_b h
  refine call_iV (As := [.int p1]) (rest := []) (ws2 := [(a0, .inr (9, [.int (0 : Int32), .ref a1, .ref a2, .ref a3, .int sm, .ref a4, .int ln, .int nx, .int cd, .int dg, .int pw, .long hs])), (a1, .inl (cI, 378, .inl sa)), (a2, .inl (cI, 378, .inl asd)), (a3, .inl (cI, 1512, .inl sv)), (a4, .inl (cI, 120, .inl mt))]) ⟨hx, hb, hml, hown, hts⟩ (cX6_isFighter_ok l G cI cG a0 a1 a2 a3 a4 (0 : Int32) sa asd sv sm mt ln nx cd dg pw hs p1 x1 ex1) (cwV 1 hts gX6_act_X6_isFighter rfl rfl rfl hdX6_isFighter ⟨Nat.le_of_ble_eq_true rfl, Nat.le_of_ble_eq_true rfl⟩) hP hD hS hA hK 9 rfl rfl rfl [0, 1, 2, 3, 4] rfl rfl rfl rfl rfl rfl rfl rfl hl.1 (Nat.le_of_ble_eq_true rfl) dX6_act_7 ⟨Nat.zero_le _, Nat.zero_le _⟩ (fun H locs hP hD hS => ?_)
  refine lv_if_eq (tgt := 21) hx hb dX6_act_10 (by decide) (fun hc => ?_) (fun hc => ?_)
  · have h := o_t h hc
    refine lv_aload_n hx hb dX6_act_21 rfl (lv_at hl 0 rfl) ?_
    refine lv_iconst (v := 1) hx hb dX6_act_22 (by decide) ?_
    obtain ⟨x2, ex2, h⟩ := o_b h
    refine call_iV (As := [.int (1 : Int32)]) (rest := []) (ws2 := [(a0, .inr (9, [.int x2.2, .ref a1, .ref a2, .ref a3, .int sm, .ref a4, .int ln, .int nx, .int cd, .int dg, .int pw, .long hs])), (a1, .inl (cI, 378, .inl sa)), (a2, .inl (cI, 378, .inl asd)), (a3, .inl (cI, 1512, .inl sv)), (a4, .inl (cI, 120, .inl mt))]) ⟨hx, hb, hml, hown, hts⟩ (cX6_fails_ok l G cI cG a0 a1 a2 a3 a4 (0 : Int32) sa asd sv sm mt ln nx cd dg pw hs (1 : Int32) x2 ex2) (cwV 1 hts gX6_act_X6_fails rfl rfl rfl hdX6_fails ⟨Nat.le_of_ble_eq_true rfl, Nat.le_of_ble_eq_true rfl⟩) hP hD hS hA hK 9 rfl rfl rfl [0, 1, 2, 3, 4] rfl rfl rfl rfl rfl rfl rfl rfl hl.1 (Nat.le_of_ble_eq_true rfl) dX6_act_23 ⟨Nat.zero_le _, Nat.zero_le _⟩ (fun H locs hP hD hS => ?_)
    obtain rfl := o_s h
    rw [hQ]
    exact end_i hx hb hr rfl hP hD hS dX6_act_26 hlocks
  · have h := o_f h hc
    refine lv_aload_n hx hb dX6_act_13 rfl (lv_at hl 0 rfl) ?_
    refine lv_iload_n hx hb dX6_act_14 rfl (lv_at hl 3 rfl) ?_
    obtain ⟨x3, ex3, h⟩ := o_b h
    refine call_iV (As := [.int p3]) (rest := []) (ws2 := [(a0, .inr (9, [.int (0 : Int32), .ref a1, .ref a2, .ref a3, .int sm, .ref a4, .int ln, .int nx, .int cd, .int dg, .int pw, .long hs])), (a1, .inl (cI, 378, .inl sa)), (a2, .inl (cI, 378, .inl asd)), (a3, .inl (cI, 1512, .inl sv)), (a4, .inl (cI, 120, .inl mt))]) ⟨hx, hb, hml, hown, hts⟩ (cX6_isFighter_ok l G cI cG a0 a1 a2 a3 a4 (0 : Int32) sa asd sv sm mt ln nx cd dg pw hs p3 x3 ex3) (cwV 1 hts gX6_act_X6_isFighter rfl rfl rfl hdX6_isFighter ⟨Nat.le_of_ble_eq_true rfl, Nat.le_of_ble_eq_true rfl⟩) hP hD hS hA hK 9 rfl rfl rfl [0, 1, 2, 3, 4] rfl rfl rfl rfl rfl rfl rfl rfl hl.1 (Nat.le_of_ble_eq_true rfl) dX6_act_15 ⟨Nat.zero_le _, Nat.zero_le _⟩ (fun H locs hP hD hS => ?_)
    refine lv_if_ne (tgt := 27) hx hb dX6_act_18 (by decide) (fun hc => ?_) (fun hc => ?_)
    · have h := o_f h hc
      refine lv_iload_n hx hb dX6_act_27 rfl (lv_at hl 2 rfl) ?_
      refine lv_iconst (v := 0) hx hb dX6_act_28 (by decide) ?_
      refine lv_iconst (v := 3) hx hb dX6_act_29 (by decide) ?_
      obtain ⟨x4, ex4, h⟩ := o_b h
      refine call_iS (As := [.int p2, .int (0 : Int32), .int (3 : Int32)]) (rest := []) (ws2 := [(a0, .inr (9, [.int (0 : Int32), .ref a1, .ref a2, .ref a3, .int sm, .ref a4, .int ln, .int nx, .int cd, .int dg, .int pw, .long hs])), (a1, .inl (cI, 378, .inl sa)), (a2, .inl (cI, 378, .inl asd)), (a3, .inl (cI, 1512, .inl sv)), (a4, .inl (cI, 120, .inl mt))]) ⟨hx, hb, hml, hown, hts⟩ (cX6_in_ok l G cI cG p2 (0 : Int32) (3 : Int32) x4 ex4) (va_cwS 3 hts gX6_act_X6_in rfl rfl rfl hdX6_in ⟨Nat.le_of_ble_eq_true rfl, Nat.le_of_ble_eq_true rfl⟩) hP hD hS hA hK [] rfl rfl rfl rfl rfl rfl rfl rfl hl.1 (Nat.le_of_ble_eq_true rfl) dX6_act_30 ⟨Nat.zero_le _, Nat.zero_le _⟩ (fun H locs hP hD hS => ?_)
      refine lv_if_eq (tgt := 52) hx hb dX6_act_33 (by decide) (fun hc => ?_) (fun hc => ?_)
      · have h := o_t h hc
        refine lv_aload_n hx hb dX6_act_52 rfl (lv_at hl 0 rfl) ?_
        refine lv_iconst (v := 2) hx hb dX6_act_53 (by decide) ?_
        obtain ⟨x5, ex5, h⟩ := o_b h
        refine call_iV (As := [.int (2 : Int32)]) (rest := []) (ws2 := [(a0, .inr (9, [.int x5.2, .ref a1, .ref a2, .ref a3, .int sm, .ref a4, .int ln, .int nx, .int cd, .int dg, .int pw, .long hs])), (a1, .inl (cI, 378, .inl sa)), (a2, .inl (cI, 378, .inl asd)), (a3, .inl (cI, 1512, .inl sv)), (a4, .inl (cI, 120, .inl mt))]) ⟨hx, hb, hml, hown, hts⟩ (cX6_fails_ok l G cI cG a0 a1 a2 a3 a4 (0 : Int32) sa asd sv sm mt ln nx cd dg pw hs (2 : Int32) x5 ex5) (cwV 1 hts gX6_act_X6_fails rfl rfl rfl hdX6_fails ⟨Nat.le_of_ble_eq_true rfl, Nat.le_of_ble_eq_true rfl⟩) hP hD hS hA hK 9 rfl rfl rfl [0, 1, 2, 3, 4] rfl rfl rfl rfl rfl rfl rfl rfl hl.1 (Nat.le_of_ble_eq_true rfl) dX6_act_54 ⟨Nat.zero_le _, Nat.zero_le _⟩ (fun H locs hP hD hS => ?_)
        obtain rfl := o_s h
        rw [hQ]
        exact end_i hx hb hr rfl hP hD hS dX6_act_57 hlocks
      · have h := o_f h hc
        refine lv_iload_n hx hb dX6_act_36 rfl (lv_at hl 2 rfl) ?_
        refine lv_iconst (v := 2) hx hb dX6_act_37 (by decide) ?_
        refine lv_icmp_eq (tgt := 52) hx hb dX6_act_38 (by decide) (fun hc => ?_) (fun hc => ?_)
        · have h := o_t h hc
          refine lv_aload_n hx hb dX6_act_52 rfl (lv_at hl 0 rfl) ?_
          refine lv_iconst (v := 2) hx hb dX6_act_53 (by decide) ?_
          obtain ⟨x6, ex6, h⟩ := o_b h
          refine call_iV (As := [.int (2 : Int32)]) (rest := []) (ws2 := [(a0, .inr (9, [.int x6.2, .ref a1, .ref a2, .ref a3, .int sm, .ref a4, .int ln, .int nx, .int cd, .int dg, .int pw, .long hs])), (a1, .inl (cI, 378, .inl sa)), (a2, .inl (cI, 378, .inl asd)), (a3, .inl (cI, 1512, .inl sv)), (a4, .inl (cI, 120, .inl mt))]) ⟨hx, hb, hml, hown, hts⟩ (cX6_fails_ok l G cI cG a0 a1 a2 a3 a4 (0 : Int32) sa asd sv sm mt ln nx cd dg pw hs (2 : Int32) x6 ex6) (cwV 1 hts gX6_act_X6_fails rfl rfl rfl hdX6_fails ⟨Nat.le_of_ble_eq_true rfl, Nat.le_of_ble_eq_true rfl⟩) hP hD hS hA hK 9 rfl rfl rfl [0, 1, 2, 3, 4] rfl rfl rfl rfl rfl rfl rfl rfl hl.1 (Nat.le_of_ble_eq_true rfl) dX6_act_54 ⟨Nat.zero_le _, Nat.zero_le _⟩ (fun H locs hP hD hS => ?_)
          obtain rfl := o_s h
          rw [hQ]
          exact end_i hx hb hr rfl hP hD hS dX6_act_57 hlocks
        · have h := o_f h hc
          refine lv_iload hx hb dX6_act_41 (lv_at hl 4 rfl) ?_
          refine lv_iconst (v := 1) hx hb dX6_act_43 (by decide) ?_
          refine lv_bipush (v := 60) hx hb dX6_act_44 (by decide) ?_
          obtain ⟨x7, ex7, h⟩ := o_b h
          refine call_iS (As := [.int p4, .int (1 : Int32), .int (60 : Int32)]) (rest := []) (ws2 := [(a0, .inr (9, [.int (0 : Int32), .ref a1, .ref a2, .ref a3, .int sm, .ref a4, .int ln, .int nx, .int cd, .int dg, .int pw, .long hs])), (a1, .inl (cI, 378, .inl sa)), (a2, .inl (cI, 378, .inl asd)), (a3, .inl (cI, 1512, .inl sv)), (a4, .inl (cI, 120, .inl mt))]) ⟨hx, hb, hml, hown, hts⟩ (cX6_in_ok l G cI cG p4 (1 : Int32) (60 : Int32) x7 ex7) (va_cwS 3 hts gX6_act_X6_in rfl rfl rfl hdX6_in ⟨Nat.le_of_ble_eq_true rfl, Nat.le_of_ble_eq_true rfl⟩) hP hD hS hA hK [] rfl rfl rfl rfl rfl rfl rfl rfl hl.1 (Nat.le_of_ble_eq_true rfl) dX6_act_46 ⟨Nat.zero_le _, Nat.zero_le _⟩ (fun H locs hP hD hS => ?_)
          refine lv_if_ne (tgt := 58) hx hb dX6_act_49 (by decide) (fun hc => ?_) (fun hc => ?_)
          · have h := o_f h hc
            refine lv_aload_n hx hb dX6_act_58 rfl (lv_at hl 0 rfl) ?_
            refine lv_iload_n hx hb dX6_act_59 rfl (lv_at hl 1 rfl) ?_
            refine lv_iload_n hx hb dX6_act_60 rfl (lv_at hl 2 rfl) ?_
            obtain ⟨x8, ex8, h⟩ := o_b h
            refine call_iV (As := [.int p1, .int p2]) (rest := []) (ws2 := [(a0, .inr (9, [.int (0 : Int32), .ref a1, .ref a2, .ref a3, .int sm, .ref a4, .int ln, .int nx, .int cd, .int dg, .int pw, .long hs])), (a1, .inl (cI, 378, .inl sa)), (a2, .inl (cI, 378, .inl asd)), (a3, .inl (cI, 1512, .inl sv)), (a4, .inl (cI, 120, .inl mt))]) ⟨hx, hb, hml, hown, hts⟩ (cX6_canAct_ok l G cI cG a0 a1 a2 a3 a4 (0 : Int32) sa asd sv sm mt ln nx cd dg pw hs p1 p2 x8 ex8) (cwV 2 hts gX6_act_X6_canAct rfl rfl rfl hdX6_canAct ⟨Nat.le_of_ble_eq_true rfl, Nat.le_of_ble_eq_true rfl⟩) hP hD hS hA hK 9 rfl rfl rfl [0, 1, 2, 3, 4] rfl rfl rfl rfl rfl rfl rfl rfl hl.1 (Nat.le_of_ble_eq_true rfl) dX6_act_61 ⟨Nat.zero_le _, Nat.zero_le _⟩ (fun H locs hP hD hS => ?_)
            refine lv_if_ne (tgt := 73) hx hb dX6_act_64 (by decide) (fun hc => ?_) (fun hc => ?_)
            · have h := o_f h hc
              refine lv_aload_n hx hb dX6_act_73 rfl (lv_at hl 0 rfl) ?_
              obtain ⟨x9, ex9, h⟩ := o_b h
              refine call_vV (As := []) (rest := []) (ws2 := [(a0, .inr (9, [.int (0 : Int32), .ref a1, .ref a2, .ref a3, .int x9.2, .ref a4, .int ln, .int nx, .int cd, .int dg, .int pw, .long hs])), (a1, .inl (cI, 378, .inl sa)), (a2, .inl (cI, 378, .inl asd)), (a3, .inl (cI, 1512, .inl x9.1)), (a4, .inl (cI, 120, .inl mt))]) ⟨hx, hb, hml, hown, hts⟩ (cX6_save_ok l G cI cG a0 a1 a2 a3 a4 fu (0 : Int32) sa asd sv sm mt ln nx cd dg pw hs x9 ex9) (cwV 0 hts gX6_act_X6_save rfl rfl rfl hdX6_save ⟨Nat.le_of_ble_eq_true rfl, Nat.le_of_ble_eq_true rfl⟩) hP hD hS hA hK 9 rfl rfl rfl [0, 1, 2, 3, 4] rfl rfl rfl rfl rfl rfl rfl rfl hl.1 (Nat.le_of_ble_eq_true rfl) dX6_act_74 ⟨Nat.zero_le _, Nat.zero_le _⟩ (fun H locs hP hD hS => ?_)
              refine lv_aload_n hx hb dX6_act_77 rfl (lv_at hl 0 rfl) ?_
              refine lv_iload_n hx hb dX6_act_78 rfl (lv_at hl 2 rfl) ?_
              refine lv_iload_n hx hb dX6_act_79 rfl (lv_at hl 1 rfl) ?_
              refine lv_iload_n hx hb dX6_act_80 rfl (lv_at hl 3 rfl) ?_
              refine lv_iload hx hb dX6_act_81 (lv_at hl 4 rfl) ?_
              refine lv_iconst (v := 0) hx hb dX6_act_83 (by decide) ?_
              refine lv_iconst (v := 0) hx hb dX6_act_84 (by decide) ?_
              refine lv_iconst (v := 0) hx hb dX6_act_85 (by decide) ?_
              obtain ⟨x10, ex10, h⟩ := o_b h
              refine call_iV (As := [.int p2, .int p1, .int p3, .int p4, .int (0 : Int32), .int (0 : Int32), .int (0 : Int32)]) (rest := []) (ws2 := [(a0, .inr (9, [.int (0 : Int32), .ref a1, .ref a2, .ref a3, .int x9.2, .ref a4, .int ln, .int nx, .int cd, .int dg, .int pw, .long hs])), (a1, .inl (cI, 378, .inl x10.2)), (a2, .inl (cI, 378, .inl asd)), (a3, .inl (cI, 1512, .inl x9.1)), (a4, .inl (cI, 120, .inl mt))]) ⟨hx, hb, hml, hown, hts⟩ (cX6_pushes_ok l G cI cG a0 a1 a2 a3 a4 (0 : Int32) sa asd x9.1 x9.2 mt ln nx cd dg pw hs p2 p1 p3 p4 (0 : Int32) (0 : Int32) (0 : Int32) x10 ex10) (cwV 7 hts gX6_act_X6_pushes rfl rfl rfl hdX6_pushes ⟨Nat.le_of_ble_eq_true rfl, Nat.le_of_ble_eq_true rfl⟩) hP hD hS hA hK 9 rfl rfl rfl [0, 1, 2, 3, 4] rfl rfl rfl rfl rfl rfl rfl rfl hl.1 (Nat.le_of_ble_eq_true rfl) dX6_act_86 ⟨Nat.zero_le _, Nat.zero_le _⟩ (fun H locs hP hD hS => ?_)
              obtain rfl := o_s h
              rw [hQ]
              exact end_i hx hb hr rfl hP hD hS dX6_act_89 hlocks
            · have h := o_t h hc
              refine lv_aload_n hx hb dX6_act_67 rfl (lv_at hl 0 rfl) ?_
              refine lv_iconst (v := 3) hx hb dX6_act_68 (by decide) ?_
              obtain ⟨x11, ex11, h⟩ := o_b h
              refine call_iV (As := [.int (3 : Int32)]) (rest := []) (ws2 := [(a0, .inr (9, [.int x11.2, .ref a1, .ref a2, .ref a3, .int sm, .ref a4, .int ln, .int nx, .int cd, .int dg, .int pw, .long hs])), (a1, .inl (cI, 378, .inl sa)), (a2, .inl (cI, 378, .inl asd)), (a3, .inl (cI, 1512, .inl sv)), (a4, .inl (cI, 120, .inl mt))]) ⟨hx, hb, hml, hown, hts⟩ (cX6_fails_ok l G cI cG a0 a1 a2 a3 a4 (0 : Int32) sa asd sv sm mt ln nx cd dg pw hs (3 : Int32) x11 ex11) (cwV 1 hts gX6_act_X6_fails rfl rfl rfl hdX6_fails ⟨Nat.le_of_ble_eq_true rfl, Nat.le_of_ble_eq_true rfl⟩) hP hD hS hA hK 9 rfl rfl rfl [0, 1, 2, 3, 4] rfl rfl rfl rfl rfl rfl rfl rfl hl.1 (Nat.le_of_ble_eq_true rfl) dX6_act_69 ⟨Nat.zero_le _, Nat.zero_le _⟩ (fun H locs hP hD hS => ?_)
              obtain rfl := o_s h
              rw [hQ]
              exact end_i hx hb hr rfl hP hD hS dX6_act_72 hlocks
          · have h := o_t h hc
            refine lv_aload_n hx hb dX6_act_52 rfl (lv_at hl 0 rfl) ?_
            refine lv_iconst (v := 2) hx hb dX6_act_53 (by decide) ?_
            obtain ⟨x12, ex12, h⟩ := o_b h
            refine call_iV (As := [.int (2 : Int32)]) (rest := []) (ws2 := [(a0, .inr (9, [.int x12.2, .ref a1, .ref a2, .ref a3, .int sm, .ref a4, .int ln, .int nx, .int cd, .int dg, .int pw, .long hs])), (a1, .inl (cI, 378, .inl sa)), (a2, .inl (cI, 378, .inl asd)), (a3, .inl (cI, 1512, .inl sv)), (a4, .inl (cI, 120, .inl mt))]) ⟨hx, hb, hml, hown, hts⟩ (cX6_fails_ok l G cI cG a0 a1 a2 a3 a4 (0 : Int32) sa asd sv sm mt ln nx cd dg pw hs (2 : Int32) x12 ex12) (cwV 1 hts gX6_act_X6_fails rfl rfl rfl hdX6_fails ⟨Nat.le_of_ble_eq_true rfl, Nat.le_of_ble_eq_true rfl⟩) hP hD hS hA hK 9 rfl rfl rfl [0, 1, 2, 3, 4] rfl rfl rfl rfl rfl rfl rfl rfl hl.1 (Nat.le_of_ble_eq_true rfl) dX6_act_54 ⟨Nat.zero_le _, Nat.zero_le _⟩ (fun H locs hP hD hS => ?_)
            obtain rfl := o_s h
            rw [hQ]
            exact end_i hx hb hr rfl hP hD hS dX6_act_57 hlocks
    · have h := o_t h hc
      refine lv_aload_n hx hb dX6_act_21 rfl (lv_at hl 0 rfl) ?_
      refine lv_iconst (v := 1) hx hb dX6_act_22 (by decide) ?_
      obtain ⟨x13, ex13, h⟩ := o_b h
      refine call_iV (As := [.int (1 : Int32)]) (rest := []) (ws2 := [(a0, .inr (9, [.int x13.2, .ref a1, .ref a2, .ref a3, .int sm, .ref a4, .int ln, .int nx, .int cd, .int dg, .int pw, .long hs])), (a1, .inl (cI, 378, .inl sa)), (a2, .inl (cI, 378, .inl asd)), (a3, .inl (cI, 1512, .inl sv)), (a4, .inl (cI, 120, .inl mt))]) ⟨hx, hb, hml, hown, hts⟩ (cX6_fails_ok l G cI cG a0 a1 a2 a3 a4 (0 : Int32) sa asd sv sm mt ln nx cd dg pw hs (1 : Int32) x13 ex13) (cwV 1 hts gX6_act_X6_fails rfl rfl rfl hdX6_fails ⟨Nat.le_of_ble_eq_true rfl, Nat.le_of_ble_eq_true rfl⟩) hP hD hS hA hK 9 rfl rfl rfl [0, 1, 2, 3, 4] rfl rfl rfl rfl rfl rfl rfl rfl hl.1 (Nat.le_of_ble_eq_true rfl) dX6_act_23 ⟨Nat.zero_le _, Nat.zero_le _⟩ (fun H locs hP hD hS => ?_)
      obtain rfl := o_s h
      rw [hQ]
      exact end_i hx hb hr rfl hP hD hS dX6_act_26 hlocks
theorem hdX6_cast : yX6_cast.cls = RX6 ∧ yX6_cast.cls ≠ "java/lang/invoke/MethodHandle" ∧ yX6_cast.cls ≠ "java/lang/invoke/VarHandle" ∧ (parseMethodDescriptor yX6_cast.desc).map (fun d => d.parameters.length) = some 6 := by decide +kernel
set_option maxHeartbeats 4000000 in
set_option maxRecDepth 100000 in
theorem cX6_cast_ok (l : Launch) (G : va_G) (cI cG : ClassId) (a0 a1 a2 a3 a4 : Nat) (fu : Nat) (th : Int32) (sa : (Nat → Int32)) (asd : (Nat → Int32)) (sv : (Nat → Int32)) (sm : Int32) (mt : (Nat → Int32)) (ln : Int32) (nx : Int32) (cd : Int32) (dg : Int32) (pw : Int32) (hs : Int64) (p1 : Int32) (p2 : Int32) (p3 : Int32) (p4 : Int32) (p5 : Int32) (p6 : Int32) (out : Int32 × Int32 × (Nat → Int32) × (Nat → Int32) × Int32) (hf : fX6_cast fu th sa sv sm p1 p2 p3 p4 p5 p6 = some out) : CI l G (tyz cI cG) yX6_cast wsX6_cast ({ frames := 4, cells := 0, slots := 0, locals := 86 } : Room) [.ref a0, .int p1, .int p2, .int p3, .int p4, .int p5, .int p6] [(a0, .inr (9, [.int th, .ref a1, .ref a2, .ref a3, .int sm, .ref a4, .int ln, .int nx, .int cd, .int dg, .int pw, .long hs])), (a1, .inl (cI, 378, .inl sa)), (a2, .inl (cI, 378, .inl asd)), (a3, .inl (cI, 1512, .inl sv)), (a4, .inl (cI, 120, .inl mt))] out.1 [(a0, .inr (9, [.int out.2.1, .ref a1, .ref a2, .ref a3, .int out.2.2.2.2, .ref a4, .int ln, .int nx, .int cd, .int dg, .int pw, .long hs])), (a1, .inl (cI, 378, .inl out.2.2.1)), (a2, .inl (cI, 378, .inl asd)), (a3, .inl (cI, 1512, .inl out.2.2.2.1)), (a4, .inl (cI, 120, .inl mt))] := by
  intro sz
  refine Met.ofW (cc := cX6_cast) (maxL := 7) (ret := (some .int)) (by decide) rfl ?_
  intro p e s m args below meth c s₁ B hml hv
  obtain ⟨rfl, hsz, hP, hK, hD0⟩ := hv
  have hx := B.exec
  have hb := B.bytes
  have hr := B.returns
  have hts := atoms_spec (ws := wsX6_cast) B.pre
  have hown : s.vm.findClass RX6 = some m.cls := findClass_of_methodNamed B.named
  have hlocks := B.notSynchronized
  subst hsz
  have hD := hD0.self (sz := s.heap.size)
  generalize hAe : va_A [(a0, .inr (9, [.int th, .ref a1, .ref a2, .ref a3, .int sm, .ref a4, .int ln, .int nx, .int cd, .int dg, .int pw, .long hs])), (a1, .inl (cI, 378, .inl sa)), (a2, .inl (cI, 378, .inl asd)), (a3, .inl (cI, 1512, .inl sv)), (a4, .inl (cI, 120, .inl mt))] s.heap.size = A at hD ⊢
  have hA : ∀ q : Nat, s.heap.size ≤ q → A q := fun q h => by rw [← hAe]; exact Or.inr h
  have hS : va_S A s.heap s.heap [] := va_S.rf
  have hw0 := hts (.fieldLink RX6 22 "SpeedTurnsModel" "thrown" "I") (List.mem_of_getElem? (i := 1) rfl)
  have hin6 : ∀ w ∈ u_ws RX6 TX6 12, w ∈ wsX6_cast := by decide +kernel
  show W p l e ({ frames := 4, cells := 0, slots := 0, locals := 86 } : Room) s m _ below meth c s.heap [] 0 0 _ _
  refine W_genQ (fun Q hQ => ?_)
  have h := hf
  rw [fX6_cast] at h
  have hl := lv_entry ([.ref a0, .int p1, .int p2, .int p3, .int p4, .int p5, .int p6]) (n := 7) (Nat.le_of_ble_eq_true rfl)
  rw [lg_entry_eq]
  generalize (lg_sl ([.ref a0, .int p1, .int p2, .int p3, .int p4, .int p5, .int p6]) ++ List.replicate (7 - (lg_sl ([.ref a0, .int p1, .int p2, .int p3, .int p4, .int p5, .int p6])).length) Slot.unset).toArray = ls at hl ⊢
  have hl : lv_has ls 7 [(0, .ref a0), (1, .int p1), (2, .int p2), (3, .int p3), (4, .int p4), (5, .int p5), (6, .int p6)] := hl
  refine lv_aload_n hx hb dX6_cast_0 rfl (lv_at hl 0 rfl) ?_
  refine lv_iconst (v := 0) hx hb dX6_cast_1 (by decide) ?_
  refine va_put (D := G) (ci := 9) (v := .int (0 : Int32)) (ty := .int) (C := RX6) (T := TX6) (N := 12) hx hb hts hin6 tyX6 tyX6_ok nmX6 hown hK.1 hP hD hS 0 rfl rfl 0 (by decide) hw0 (fun _ h9 => h9) rfl (by decide +kernel) rfl rfl (Nat.le_of_ble_eq_true rfl) dX6_cast_2 (fun H locs hP hD hS => ?_)
  have hP : va_P G vwCl [(a0, .inr (9, [.int (0 : Int32), .ref a1, .ref a2, .ref a3, .int sm, .ref a4, .int ln, .int nx, .int cd, .int dg, .int pw, .long hs])), (a1, .inl (cI, 378, .inl sa)), (a2, .inl (cI, 378, .inl asd)), (a3, .inl (cI, 1512, .inl sv)), (a4, .inl (cI, 120, .inl mt))] H := hP
  have hD : va_D A [(a0, .inr (9, [.int (0 : Int32), .ref a1, .ref a2, .ref a3, .int sm, .ref a4, .int ln, .int nx, .int cd, .int dg, .int pw, .long hs])), (a1, .inl (cI, 378, .inl sa)), (a2, .inl (cI, 378, .inl asd)), (a3, .inl (cI, 1512, .inl sv)), (a4, .inl (cI, 120, .inl mt))] := hD
  refine lv_aload_n hx hb dX6_cast_5 rfl (lv_at hl 0 rfl) ?_
  refine lv_iload_n hx hb dX6_cast_6 rfl (lv_at hl 1 rfl) ?_
  obtain ⟨x1, ex1, h⟩ := o_b h
  refine call_iV (As := [.int p1]) (rest := []) (ws2 := [(a0, .inr (9, [.int (0 : Int32), .ref a1, .ref a2, .ref a3, .int sm, .ref a4, .int ln, .int nx, .int cd, .int dg, .int pw, .long hs])), (a1, .inl (cI, 378, .inl sa)), (a2, .inl (cI, 378, .inl asd)), (a3, .inl (cI, 1512, .inl sv)), (a4, .inl (cI, 120, .inl mt))]) ⟨hx, hb, hml, hown, hts⟩ (cX6_isFighter_ok l G cI cG a0 a1 a2 a3 a4 (0 : Int32) sa asd sv sm mt ln nx cd dg pw hs p1 x1 ex1) (cwV 1 hts gX6_cast_X6_isFighter rfl rfl rfl hdX6_isFighter ⟨Nat.le_of_ble_eq_true rfl, Nat.le_of_ble_eq_true rfl⟩) hP hD hS hA hK 9 rfl rfl rfl [0, 1, 2, 3, 4] rfl rfl rfl rfl rfl rfl rfl rfl hl.1 (Nat.le_of_ble_eq_true rfl) dX6_cast_7 ⟨Nat.zero_le _, Nat.zero_le _⟩ (fun H locs hP hD hS => ?_)
  refine lv_if_eq (tgt := 21) hx hb dX6_cast_10 (by decide) (fun hc => ?_) (fun hc => ?_)
  · have h := o_t h hc
    refine lv_aload_n hx hb dX6_cast_21 rfl (lv_at hl 0 rfl) ?_
    refine lv_iconst (v := 1) hx hb dX6_cast_22 (by decide) ?_
    obtain ⟨x2, ex2, h⟩ := o_b h
    refine call_iV (As := [.int (1 : Int32)]) (rest := []) (ws2 := [(a0, .inr (9, [.int x2.2, .ref a1, .ref a2, .ref a3, .int sm, .ref a4, .int ln, .int nx, .int cd, .int dg, .int pw, .long hs])), (a1, .inl (cI, 378, .inl sa)), (a2, .inl (cI, 378, .inl asd)), (a3, .inl (cI, 1512, .inl sv)), (a4, .inl (cI, 120, .inl mt))]) ⟨hx, hb, hml, hown, hts⟩ (cX6_fails_ok l G cI cG a0 a1 a2 a3 a4 (0 : Int32) sa asd sv sm mt ln nx cd dg pw hs (1 : Int32) x2 ex2) (cwV 1 hts gX6_cast_X6_fails rfl rfl rfl hdX6_fails ⟨Nat.le_of_ble_eq_true rfl, Nat.le_of_ble_eq_true rfl⟩) hP hD hS hA hK 9 rfl rfl rfl [0, 1, 2, 3, 4] rfl rfl rfl rfl rfl rfl rfl rfl hl.1 (Nat.le_of_ble_eq_true rfl) dX6_cast_23 ⟨Nat.zero_le _, Nat.zero_le _⟩ (fun H locs hP hD hS => ?_)
    obtain rfl := o_s h
    rw [hQ]
    exact end_i hx hb hr rfl hP hD hS dX6_cast_26 hlocks
  · have h := o_f h hc
    refine lv_aload_n hx hb dX6_cast_13 rfl (lv_at hl 0 rfl) ?_
    refine lv_iload_n hx hb dX6_cast_14 rfl (lv_at hl 2 rfl) ?_
    obtain ⟨x3, ex3, h⟩ := o_b h
    refine call_iV (As := [.int p2]) (rest := []) (ws2 := [(a0, .inr (9, [.int (0 : Int32), .ref a1, .ref a2, .ref a3, .int sm, .ref a4, .int ln, .int nx, .int cd, .int dg, .int pw, .long hs])), (a1, .inl (cI, 378, .inl sa)), (a2, .inl (cI, 378, .inl asd)), (a3, .inl (cI, 1512, .inl sv)), (a4, .inl (cI, 120, .inl mt))]) ⟨hx, hb, hml, hown, hts⟩ (cX6_isFighter_ok l G cI cG a0 a1 a2 a3 a4 (0 : Int32) sa asd sv sm mt ln nx cd dg pw hs p2 x3 ex3) (cwV 1 hts gX6_cast_X6_isFighter rfl rfl rfl hdX6_isFighter ⟨Nat.le_of_ble_eq_true rfl, Nat.le_of_ble_eq_true rfl⟩) hP hD hS hA hK 9 rfl rfl rfl [0, 1, 2, 3, 4] rfl rfl rfl rfl rfl rfl rfl rfl hl.1 (Nat.le_of_ble_eq_true rfl) dX6_cast_15 ⟨Nat.zero_le _, Nat.zero_le _⟩ (fun H locs hP hD hS => ?_)
    refine lv_if_ne (tgt := 27) hx hb dX6_cast_18 (by decide) (fun hc => ?_) (fun hc => ?_)
    · have h := o_f h hc
      refine lv_iload_n hx hb dX6_cast_27 rfl (lv_at hl 3 rfl) ?_
      refine lv_iconst (v := 0) hx hb dX6_cast_28 (by decide) ?_
      refine lv_iconst (v := 4) hx hb dX6_cast_29 (by decide) ?_
      obtain ⟨x4, ex4, h⟩ := o_b h
      refine call_iS (As := [.int p3, .int (0 : Int32), .int (4 : Int32)]) (rest := []) (ws2 := [(a0, .inr (9, [.int (0 : Int32), .ref a1, .ref a2, .ref a3, .int sm, .ref a4, .int ln, .int nx, .int cd, .int dg, .int pw, .long hs])), (a1, .inl (cI, 378, .inl sa)), (a2, .inl (cI, 378, .inl asd)), (a3, .inl (cI, 1512, .inl sv)), (a4, .inl (cI, 120, .inl mt))]) ⟨hx, hb, hml, hown, hts⟩ (cX6_in_ok l G cI cG p3 (0 : Int32) (4 : Int32) x4 ex4) (va_cwS 3 hts gX6_cast_X6_in rfl rfl rfl hdX6_in ⟨Nat.le_of_ble_eq_true rfl, Nat.le_of_ble_eq_true rfl⟩) hP hD hS hA hK [] rfl rfl rfl rfl rfl rfl rfl rfl hl.1 (Nat.le_of_ble_eq_true rfl) dX6_cast_30 ⟨Nat.zero_le _, Nat.zero_le _⟩ (fun H locs hP hD hS => ?_)
      refine lv_if_eq (tgt := 68) hx hb dX6_cast_33 (by decide) (fun hc => ?_) (fun hc => ?_)
      · have h := o_t h hc
        refine lv_aload_n hx hb dX6_cast_68 rfl (lv_at hl 0 rfl) ?_
        refine lv_iconst (v := 2) hx hb dX6_cast_69 (by decide) ?_
        obtain ⟨x5, ex5, h⟩ := o_b h
        refine call_iV (As := [.int (2 : Int32)]) (rest := []) (ws2 := [(a0, .inr (9, [.int x5.2, .ref a1, .ref a2, .ref a3, .int sm, .ref a4, .int ln, .int nx, .int cd, .int dg, .int pw, .long hs])), (a1, .inl (cI, 378, .inl sa)), (a2, .inl (cI, 378, .inl asd)), (a3, .inl (cI, 1512, .inl sv)), (a4, .inl (cI, 120, .inl mt))]) ⟨hx, hb, hml, hown, hts⟩ (cX6_fails_ok l G cI cG a0 a1 a2 a3 a4 (0 : Int32) sa asd sv sm mt ln nx cd dg pw hs (2 : Int32) x5 ex5) (cwV 1 hts gX6_cast_X6_fails rfl rfl rfl hdX6_fails ⟨Nat.le_of_ble_eq_true rfl, Nat.le_of_ble_eq_true rfl⟩) hP hD hS hA hK 9 rfl rfl rfl [0, 1, 2, 3, 4] rfl rfl rfl rfl rfl rfl rfl rfl hl.1 (Nat.le_of_ble_eq_true rfl) dX6_cast_70 ⟨Nat.zero_le _, Nat.zero_le _⟩ (fun H locs hP hD hS => ?_)
        obtain rfl := o_s h
        rw [hQ]
        exact end_i hx hb hr rfl hP hD hS dX6_cast_73 hlocks
      · have h := o_f h hc
        refine lv_iload hx hb dX6_cast_36 (lv_at hl 4 rfl) ?_
        refine lv_iconst (v := 1) hx hb dX6_cast_38 (by decide) ?_
        refine lv_bipush (v := 20) hx hb dX6_cast_39 (by decide) ?_
        obtain ⟨x6, ex6, h⟩ := o_b h
        refine call_iS (As := [.int p4, .int (1 : Int32), .int (20 : Int32)]) (rest := []) (ws2 := [(a0, .inr (9, [.int (0 : Int32), .ref a1, .ref a2, .ref a3, .int sm, .ref a4, .int ln, .int nx, .int cd, .int dg, .int pw, .long hs])), (a1, .inl (cI, 378, .inl sa)), (a2, .inl (cI, 378, .inl asd)), (a3, .inl (cI, 1512, .inl sv)), (a4, .inl (cI, 120, .inl mt))]) ⟨hx, hb, hml, hown, hts⟩ (cX6_in_ok l G cI cG p4 (1 : Int32) (20 : Int32) x6 ex6) (va_cwS 3 hts gX6_cast_X6_in rfl rfl rfl hdX6_in ⟨Nat.le_of_ble_eq_true rfl, Nat.le_of_ble_eq_true rfl⟩) hP hD hS hA hK [] rfl rfl rfl rfl rfl rfl rfl rfl hl.1 (Nat.le_of_ble_eq_true rfl) dX6_cast_41 ⟨Nat.zero_le _, Nat.zero_le _⟩ (fun H locs hP hD hS => ?_)
        refine lv_if_eq (tgt := 68) hx hb dX6_cast_44 (by decide) (fun hc => ?_) (fun hc => ?_)
        · have h := o_t h hc
          refine lv_aload_n hx hb dX6_cast_68 rfl (lv_at hl 0 rfl) ?_
          refine lv_iconst (v := 2) hx hb dX6_cast_69 (by decide) ?_
          obtain ⟨x7, ex7, h⟩ := o_b h
          refine call_iV (As := [.int (2 : Int32)]) (rest := []) (ws2 := [(a0, .inr (9, [.int x7.2, .ref a1, .ref a2, .ref a3, .int sm, .ref a4, .int ln, .int nx, .int cd, .int dg, .int pw, .long hs])), (a1, .inl (cI, 378, .inl sa)), (a2, .inl (cI, 378, .inl asd)), (a3, .inl (cI, 1512, .inl sv)), (a4, .inl (cI, 120, .inl mt))]) ⟨hx, hb, hml, hown, hts⟩ (cX6_fails_ok l G cI cG a0 a1 a2 a3 a4 (0 : Int32) sa asd sv sm mt ln nx cd dg pw hs (2 : Int32) x7 ex7) (cwV 1 hts gX6_cast_X6_fails rfl rfl rfl hdX6_fails ⟨Nat.le_of_ble_eq_true rfl, Nat.le_of_ble_eq_true rfl⟩) hP hD hS hA hK 9 rfl rfl rfl [0, 1, 2, 3, 4] rfl rfl rfl rfl rfl rfl rfl rfl hl.1 (Nat.le_of_ble_eq_true rfl) dX6_cast_70 ⟨Nat.zero_le _, Nat.zero_le _⟩ (fun H locs hP hD hS => ?_)
          obtain rfl := o_s h
          rw [hQ]
          exact end_i hx hb hr rfl hP hD hS dX6_cast_73 hlocks
        · have h := o_f h hc
          refine lv_iload hx hb dX6_cast_47 (lv_at hl 5 rfl) ?_
          refine lv_iconst (v := 1) hx hb dX6_cast_49 (by decide) ?_
          refine lv_bipush (v := 20) hx hb dX6_cast_50 (by decide) ?_
          obtain ⟨x8, ex8, h⟩ := o_b h
          refine call_iS (As := [.int p5, .int (1 : Int32), .int (20 : Int32)]) (rest := []) (ws2 := [(a0, .inr (9, [.int (0 : Int32), .ref a1, .ref a2, .ref a3, .int sm, .ref a4, .int ln, .int nx, .int cd, .int dg, .int pw, .long hs])), (a1, .inl (cI, 378, .inl sa)), (a2, .inl (cI, 378, .inl asd)), (a3, .inl (cI, 1512, .inl sv)), (a4, .inl (cI, 120, .inl mt))]) ⟨hx, hb, hml, hown, hts⟩ (cX6_in_ok l G cI cG p5 (1 : Int32) (20 : Int32) x8 ex8) (va_cwS 3 hts gX6_cast_X6_in rfl rfl rfl hdX6_in ⟨Nat.le_of_ble_eq_true rfl, Nat.le_of_ble_eq_true rfl⟩) hP hD hS hA hK [] rfl rfl rfl rfl rfl rfl rfl rfl hl.1 (Nat.le_of_ble_eq_true rfl) dX6_cast_52 ⟨Nat.zero_le _, Nat.zero_le _⟩ (fun H locs hP hD hS => ?_)
          refine lv_if_eq (tgt := 68) hx hb dX6_cast_55 (by decide) (fun hc => ?_) (fun hc => ?_)
          · have h := o_t h hc
            refine lv_aload_n hx hb dX6_cast_68 rfl (lv_at hl 0 rfl) ?_
            refine lv_iconst (v := 2) hx hb dX6_cast_69 (by decide) ?_
            obtain ⟨x9, ex9, h⟩ := o_b h
            refine call_iV (As := [.int (2 : Int32)]) (rest := []) (ws2 := [(a0, .inr (9, [.int x9.2, .ref a1, .ref a2, .ref a3, .int sm, .ref a4, .int ln, .int nx, .int cd, .int dg, .int pw, .long hs])), (a1, .inl (cI, 378, .inl sa)), (a2, .inl (cI, 378, .inl asd)), (a3, .inl (cI, 1512, .inl sv)), (a4, .inl (cI, 120, .inl mt))]) ⟨hx, hb, hml, hown, hts⟩ (cX6_fails_ok l G cI cG a0 a1 a2 a3 a4 (0 : Int32) sa asd sv sm mt ln nx cd dg pw hs (2 : Int32) x9 ex9) (cwV 1 hts gX6_cast_X6_fails rfl rfl rfl hdX6_fails ⟨Nat.le_of_ble_eq_true rfl, Nat.le_of_ble_eq_true rfl⟩) hP hD hS hA hK 9 rfl rfl rfl [0, 1, 2, 3, 4] rfl rfl rfl rfl rfl rfl rfl rfl hl.1 (Nat.le_of_ble_eq_true rfl) dX6_cast_70 ⟨Nat.zero_le _, Nat.zero_le _⟩ (fun H locs hP hD hS => ?_)
            obtain rfl := o_s h
            rw [hQ]
            exact end_i hx hb hr rfl hP hD hS dX6_cast_73 hlocks
          · have h := o_f h hc
            refine lv_iload hx hb dX6_cast_58 (lv_at hl 6 rfl) ?_
            refine lv_iconst (v := 0) hx hb dX6_cast_60 (by decide) ?_
            refine lv_iconst (v := 3) hx hb dX6_cast_61 (by decide) ?_
            obtain ⟨x10, ex10, h⟩ := o_b h
            refine call_iS (As := [.int p6, .int (0 : Int32), .int (3 : Int32)]) (rest := []) (ws2 := [(a0, .inr (9, [.int (0 : Int32), .ref a1, .ref a2, .ref a3, .int sm, .ref a4, .int ln, .int nx, .int cd, .int dg, .int pw, .long hs])), (a1, .inl (cI, 378, .inl sa)), (a2, .inl (cI, 378, .inl asd)), (a3, .inl (cI, 1512, .inl sv)), (a4, .inl (cI, 120, .inl mt))]) ⟨hx, hb, hml, hown, hts⟩ (cX6_in_ok l G cI cG p6 (0 : Int32) (3 : Int32) x10 ex10) (va_cwS 3 hts gX6_cast_X6_in rfl rfl rfl hdX6_in ⟨Nat.le_of_ble_eq_true rfl, Nat.le_of_ble_eq_true rfl⟩) hP hD hS hA hK [] rfl rfl rfl rfl rfl rfl rfl rfl hl.1 (Nat.le_of_ble_eq_true rfl) dX6_cast_62 ⟨Nat.zero_le _, Nat.zero_le _⟩ (fun H locs hP hD hS => ?_)
            refine lv_if_ne (tgt := 74) hx hb dX6_cast_65 (by decide) (fun hc => ?_) (fun hc => ?_)
            · have h := o_f h hc
              refine lv_aload_n hx hb dX6_cast_74 rfl (lv_at hl 0 rfl) ?_
              refine lv_iload_n hx hb dX6_cast_75 rfl (lv_at hl 1 rfl) ?_
              refine lv_iconst (v := 2) hx hb dX6_cast_76 (by decide) ?_
              obtain ⟨x11, ex11, h⟩ := o_b h
              refine call_iV (As := [.int p1, .int (2 : Int32)]) (rest := []) (ws2 := [(a0, .inr (9, [.int (0 : Int32), .ref a1, .ref a2, .ref a3, .int sm, .ref a4, .int ln, .int nx, .int cd, .int dg, .int pw, .long hs])), (a1, .inl (cI, 378, .inl sa)), (a2, .inl (cI, 378, .inl asd)), (a3, .inl (cI, 1512, .inl sv)), (a4, .inl (cI, 120, .inl mt))]) ⟨hx, hb, hml, hown, hts⟩ (cX6_canAct_ok l G cI cG a0 a1 a2 a3 a4 (0 : Int32) sa asd sv sm mt ln nx cd dg pw hs p1 (2 : Int32) x11 ex11) (cwV 2 hts gX6_cast_X6_canAct rfl rfl rfl hdX6_canAct ⟨Nat.le_of_ble_eq_true rfl, Nat.le_of_ble_eq_true rfl⟩) hP hD hS hA hK 9 rfl rfl rfl [0, 1, 2, 3, 4] rfl rfl rfl rfl rfl rfl rfl rfl hl.1 (Nat.le_of_ble_eq_true rfl) dX6_cast_77 ⟨Nat.zero_le _, Nat.zero_le _⟩ (fun H locs hP hD hS => ?_)
              refine lv_if_ne (tgt := 89) hx hb dX6_cast_80 (by decide) (fun hc => ?_) (fun hc => ?_)
              · have h := o_f h hc
                refine lv_aload_n hx hb dX6_cast_89 rfl (lv_at hl 0 rfl) ?_
                obtain ⟨x12, ex12, h⟩ := o_b h
                refine call_vV (As := []) (rest := []) (ws2 := [(a0, .inr (9, [.int (0 : Int32), .ref a1, .ref a2, .ref a3, .int x12.2, .ref a4, .int ln, .int nx, .int cd, .int dg, .int pw, .long hs])), (a1, .inl (cI, 378, .inl sa)), (a2, .inl (cI, 378, .inl asd)), (a3, .inl (cI, 1512, .inl x12.1)), (a4, .inl (cI, 120, .inl mt))]) ⟨hx, hb, hml, hown, hts⟩ (cX6_save_ok l G cI cG a0 a1 a2 a3 a4 fu (0 : Int32) sa asd sv sm mt ln nx cd dg pw hs x12 ex12) (cwV 0 hts gX6_cast_X6_save rfl rfl rfl hdX6_save ⟨Nat.le_of_ble_eq_true rfl, Nat.le_of_ble_eq_true rfl⟩) hP hD hS hA hK 9 rfl rfl rfl [0, 1, 2, 3, 4] rfl rfl rfl rfl rfl rfl rfl rfl hl.1 (Nat.le_of_ble_eq_true rfl) dX6_cast_90 ⟨Nat.zero_le _, Nat.zero_le _⟩ (fun H locs hP hD hS => ?_)
                refine lv_aload_n hx hb dX6_cast_93 rfl (lv_at hl 0 rfl) ?_
                refine lv_iconst (v := 2) hx hb dX6_cast_94 (by decide) ?_
                refine lv_iload_n hx hb dX6_cast_95 rfl (lv_at hl 1 rfl) ?_
                refine lv_iload_n hx hb dX6_cast_96 rfl (lv_at hl 2 rfl) ?_
                refine lv_iload hx hb dX6_cast_97 (lv_at hl 4 rfl) ?_
                refine lv_iload_n hx hb dX6_cast_99 rfl (lv_at hl 3 rfl) ?_
                refine lv_iload hx hb dX6_cast_100 (lv_at hl 5 rfl) ?_
                refine lv_iload hx hb dX6_cast_102 (lv_at hl 6 rfl) ?_
                obtain ⟨x13, ex13, h⟩ := o_b h
                refine call_iV (As := [.int (2 : Int32), .int p1, .int p2, .int p4, .int p3, .int p5, .int p6]) (rest := []) (ws2 := [(a0, .inr (9, [.int (0 : Int32), .ref a1, .ref a2, .ref a3, .int x12.2, .ref a4, .int ln, .int nx, .int cd, .int dg, .int pw, .long hs])), (a1, .inl (cI, 378, .inl x13.2)), (a2, .inl (cI, 378, .inl asd)), (a3, .inl (cI, 1512, .inl x12.1)), (a4, .inl (cI, 120, .inl mt))]) ⟨hx, hb, hml, hown, hts⟩ (cX6_pushes_ok l G cI cG a0 a1 a2 a3 a4 (0 : Int32) sa asd x12.1 x12.2 mt ln nx cd dg pw hs (2 : Int32) p1 p2 p4 p3 p5 p6 x13 ex13) (cwV 7 hts gX6_cast_X6_pushes rfl rfl rfl hdX6_pushes ⟨Nat.le_of_ble_eq_true rfl, Nat.le_of_ble_eq_true rfl⟩) hP hD hS hA hK 9 rfl rfl rfl [0, 1, 2, 3, 4] rfl rfl rfl rfl rfl rfl rfl rfl hl.1 (Nat.le_of_ble_eq_true rfl) dX6_cast_104 ⟨Nat.zero_le _, Nat.zero_le _⟩ (fun H locs hP hD hS => ?_)
                obtain rfl := o_s h
                rw [hQ]
                exact end_i hx hb hr rfl hP hD hS dX6_cast_107 hlocks
              · have h := o_t h hc
                refine lv_aload_n hx hb dX6_cast_83 rfl (lv_at hl 0 rfl) ?_
                refine lv_iconst (v := 3) hx hb dX6_cast_84 (by decide) ?_
                obtain ⟨x14, ex14, h⟩ := o_b h
                refine call_iV (As := [.int (3 : Int32)]) (rest := []) (ws2 := [(a0, .inr (9, [.int x14.2, .ref a1, .ref a2, .ref a3, .int sm, .ref a4, .int ln, .int nx, .int cd, .int dg, .int pw, .long hs])), (a1, .inl (cI, 378, .inl sa)), (a2, .inl (cI, 378, .inl asd)), (a3, .inl (cI, 1512, .inl sv)), (a4, .inl (cI, 120, .inl mt))]) ⟨hx, hb, hml, hown, hts⟩ (cX6_fails_ok l G cI cG a0 a1 a2 a3 a4 (0 : Int32) sa asd sv sm mt ln nx cd dg pw hs (3 : Int32) x14 ex14) (cwV 1 hts gX6_cast_X6_fails rfl rfl rfl hdX6_fails ⟨Nat.le_of_ble_eq_true rfl, Nat.le_of_ble_eq_true rfl⟩) hP hD hS hA hK 9 rfl rfl rfl [0, 1, 2, 3, 4] rfl rfl rfl rfl rfl rfl rfl rfl hl.1 (Nat.le_of_ble_eq_true rfl) dX6_cast_85 ⟨Nat.zero_le _, Nat.zero_le _⟩ (fun H locs hP hD hS => ?_)
                obtain rfl := o_s h
                rw [hQ]
                exact end_i hx hb hr rfl hP hD hS dX6_cast_88 hlocks
            · have h := o_t h hc
              refine lv_aload_n hx hb dX6_cast_68 rfl (lv_at hl 0 rfl) ?_
              refine lv_iconst (v := 2) hx hb dX6_cast_69 (by decide) ?_
              obtain ⟨x15, ex15, h⟩ := o_b h
              refine call_iV (As := [.int (2 : Int32)]) (rest := []) (ws2 := [(a0, .inr (9, [.int x15.2, .ref a1, .ref a2, .ref a3, .int sm, .ref a4, .int ln, .int nx, .int cd, .int dg, .int pw, .long hs])), (a1, .inl (cI, 378, .inl sa)), (a2, .inl (cI, 378, .inl asd)), (a3, .inl (cI, 1512, .inl sv)), (a4, .inl (cI, 120, .inl mt))]) ⟨hx, hb, hml, hown, hts⟩ (cX6_fails_ok l G cI cG a0 a1 a2 a3 a4 (0 : Int32) sa asd sv sm mt ln nx cd dg pw hs (2 : Int32) x15 ex15) (cwV 1 hts gX6_cast_X6_fails rfl rfl rfl hdX6_fails ⟨Nat.le_of_ble_eq_true rfl, Nat.le_of_ble_eq_true rfl⟩) hP hD hS hA hK 9 rfl rfl rfl [0, 1, 2, 3, 4] rfl rfl rfl rfl rfl rfl rfl rfl hl.1 (Nat.le_of_ble_eq_true rfl) dX6_cast_70 ⟨Nat.zero_le _, Nat.zero_le _⟩ (fun H locs hP hD hS => ?_)
              obtain rfl := o_s h
              rw [hQ]
              exact end_i hx hb hr rfl hP hD hS dX6_cast_73 hlocks
    · have h := o_t h hc
      refine lv_aload_n hx hb dX6_cast_21 rfl (lv_at hl 0 rfl) ?_
      refine lv_iconst (v := 1) hx hb dX6_cast_22 (by decide) ?_
      obtain ⟨x16, ex16, h⟩ := o_b h
      refine call_iV (As := [.int (1 : Int32)]) (rest := []) (ws2 := [(a0, .inr (9, [.int x16.2, .ref a1, .ref a2, .ref a3, .int sm, .ref a4, .int ln, .int nx, .int cd, .int dg, .int pw, .long hs])), (a1, .inl (cI, 378, .inl sa)), (a2, .inl (cI, 378, .inl asd)), (a3, .inl (cI, 1512, .inl sv)), (a4, .inl (cI, 120, .inl mt))]) ⟨hx, hb, hml, hown, hts⟩ (cX6_fails_ok l G cI cG a0 a1 a2 a3 a4 (0 : Int32) sa asd sv sm mt ln nx cd dg pw hs (1 : Int32) x16 ex16) (cwV 1 hts gX6_cast_X6_fails rfl rfl rfl hdX6_fails ⟨Nat.le_of_ble_eq_true rfl, Nat.le_of_ble_eq_true rfl⟩) hP hD hS hA hK 9 rfl rfl rfl [0, 1, 2, 3, 4] rfl rfl rfl rfl rfl rfl rfl rfl hl.1 (Nat.le_of_ble_eq_true rfl) dX6_cast_23 ⟨Nat.zero_le _, Nat.zero_le _⟩ (fun H locs hP hD hS => ?_)
      obtain rfl := o_s h
      rw [hQ]
      exact end_i hx hb hr rfl hP hD hS dX6_cast_26 hlocks
theorem hdX6_settle : yX6_settle.cls = RX6 ∧ yX6_settle.cls ≠ "java/lang/invoke/MethodHandle" ∧ yX6_settle.cls ≠ "java/lang/invoke/VarHandle" ∧ (parseMethodDescriptor yX6_settle.desc).map (fun d => d.parameters.length) = some 0 := by decide +kernel
set_option maxHeartbeats 4000000 in
set_option maxRecDepth 100000 in
theorem cX6_settle_ok (l : Launch) (G : va_G) (cI cG : ClassId) (a0 a1 a2 a3 a4 : Nat) (fu : Nat) (th : Int32) (sa : (Nat → Int32)) (asd : (Nat → Int32)) (sv : (Nat → Int32)) (sm : Int32) (mt : (Nat → Int32)) (ln : Int32) (nx : Int32) (cd : Int32) (dg : Int32) (pw : Int32) (hs : Int64) (out : Int32 × Int32 × (Nat → Int32) × (Nat → Int32) × Int32) (hf : fX6_settle fu th sa sv sm = some out) : CI l G (tyz cI cG) yX6_settle wsX6_settle ({ frames := 6, cells := 0, slots := 0, locals := 137 } : Room) [.ref a0] [(a0, .inr (9, [.int th, .ref a1, .ref a2, .ref a3, .int sm, .ref a4, .int ln, .int nx, .int cd, .int dg, .int pw, .long hs])), (a1, .inl (cI, 378, .inl sa)), (a2, .inl (cI, 378, .inl asd)), (a3, .inl (cI, 1512, .inl sv)), (a4, .inl (cI, 120, .inl mt))] out.1 [(a0, .inr (9, [.int out.2.1, .ref a1, .ref a2, .ref a3, .int out.2.2.2.2, .ref a4, .int ln, .int nx, .int cd, .int dg, .int pw, .long hs])), (a1, .inl (cI, 378, .inl out.2.2.1)), (a2, .inl (cI, 378, .inl asd)), (a3, .inl (cI, 1512, .inl out.2.2.2.1)), (a4, .inl (cI, 120, .inl mt))] := by
  intro sz
  refine Met.ofW (cc := cX6_settle) (maxL := 1) (ret := (some .int)) (by decide) rfl ?_
  intro p e s m args below meth c s₁ B hml hv
  obtain ⟨rfl, hsz, hP, hK, hD0⟩ := hv
  have hx := B.exec
  have hb := B.bytes
  have hr := B.returns
  have hts := atoms_spec (ws := wsX6_settle) B.pre
  have hown : s.vm.findClass RX6 = some m.cls := findClass_of_methodNamed B.named
  have hlocks := B.notSynchronized
  subst hsz
  have hD := hD0.self (sz := s.heap.size)
  generalize hAe : va_A [(a0, .inr (9, [.int th, .ref a1, .ref a2, .ref a3, .int sm, .ref a4, .int ln, .int nx, .int cd, .int dg, .int pw, .long hs])), (a1, .inl (cI, 378, .inl sa)), (a2, .inl (cI, 378, .inl asd)), (a3, .inl (cI, 1512, .inl sv)), (a4, .inl (cI, 120, .inl mt))] s.heap.size = A at hD ⊢
  have hA : ∀ q : Nat, s.heap.size ≤ q → A q := fun q h => by rw [← hAe]; exact Or.inr h
  have hS : va_S A s.heap s.heap [] := va_S.rf
  have hw0 := hts (.fieldLink RX6 22 "SpeedTurnsModel" "thrown" "I") (List.mem_of_getElem? (i := 1) rfl)
  have hin6 : ∀ w ∈ u_ws RX6 TX6 12, w ∈ wsX6_settle := by decide +kernel
  have hw2 := hts (.fieldLink RX6 7 "SpeedTurnsModel" "s" "[I") (List.mem_of_getElem? (i := 2) rfl)
  show W p l e ({ frames := 6, cells := 0, slots := 0, locals := 137 } : Room) s m _ below meth c s.heap [] 0 0 _ _
  refine W_genQ (fun Q hQ => ?_)
  have h := hf
  rw [fX6_settle] at h
  have hl := lv_entry ([.ref a0]) (n := 1) (Nat.le_of_ble_eq_true rfl)
  rw [lg_entry_eq]
  generalize (lg_sl ([.ref a0]) ++ List.replicate (1 - (lg_sl ([.ref a0])).length) Slot.unset).toArray = ls at hl ⊢
  have hl : lv_has ls 1 [(0, .ref a0)] := hl
  refine lv_aload_n hx hb dX6_settle_0 rfl (lv_at hl 0 rfl) ?_
  refine lv_iconst (v := 0) hx hb dX6_settle_1 (by decide) ?_
  refine va_put (D := G) (ci := 9) (v := .int (0 : Int32)) (ty := .int) (C := RX6) (T := TX6) (N := 12) hx hb hts hin6 tyX6 tyX6_ok nmX6 hown hK.1 hP hD hS 0 rfl rfl 0 (by decide) hw0 (fun _ h9 => h9) rfl (by decide +kernel) rfl rfl (Nat.le_of_ble_eq_true rfl) dX6_settle_2 (fun H locs hP hD hS => ?_)
  have hP : va_P G vwCl [(a0, .inr (9, [.int (0 : Int32), .ref a1, .ref a2, .ref a3, .int sm, .ref a4, .int ln, .int nx, .int cd, .int dg, .int pw, .long hs])), (a1, .inl (cI, 378, .inl sa)), (a2, .inl (cI, 378, .inl asd)), (a3, .inl (cI, 1512, .inl sv)), (a4, .inl (cI, 120, .inl mt))] H := hP
  have hD : va_D A [(a0, .inr (9, [.int (0 : Int32), .ref a1, .ref a2, .ref a3, .int sm, .ref a4, .int ln, .int nx, .int cd, .int dg, .int pw, .long hs])), (a1, .inl (cI, 378, .inl sa)), (a2, .inl (cI, 378, .inl asd)), (a3, .inl (cI, 1512, .inl sv)), (a4, .inl (cI, 120, .inl mt))] := hD
  refine lv_aload_n hx hb dX6_settle_5 rfl (lv_at hl 0 rfl) ?_
  refine va_get (D := G) (ci := 9) (v := .ref a1) (C := RX6) (T := TX6) (N := 12) hx hb hts hin6 hown hK.1 hP 0 rfl rfl 1 (by decide) hw2 (fun _ h9 => h9) rfl dX6_settle_6 ?_
  refine lv_bipush (v := 8) hx hb dX6_settle_9 (by decide) ?_
  obtain ⟨hin, h⟩ := o_g h
  refine va_iald hx hb hK.1 hP 1 0 rfl rfl hin dX6_settle_11 ?_
  refine lv_if_ne (tgt := 21) hx hb dX6_settle_12 (by decide) (fun hc => ?_) (fun hc => ?_)
  · have h := o_f h hc
    refine lv_aload_n hx hb dX6_settle_21 rfl (lv_at hl 0 rfl) ?_
    obtain ⟨x1, ex1, h⟩ := o_b h
    refine call_vV (As := []) (rest := []) (ws2 := [(a0, .inr (9, [.int (0 : Int32), .ref a1, .ref a2, .ref a3, .int x1.2, .ref a4, .int ln, .int nx, .int cd, .int dg, .int pw, .long hs])), (a1, .inl (cI, 378, .inl sa)), (a2, .inl (cI, 378, .inl asd)), (a3, .inl (cI, 1512, .inl x1.1)), (a4, .inl (cI, 120, .inl mt))]) ⟨hx, hb, hml, hown, hts⟩ (cX6_save_ok l G cI cG a0 a1 a2 a3 a4 fu (0 : Int32) sa asd sv sm mt ln nx cd dg pw hs x1 ex1) (cwV 0 hts gX6_settle_X6_save rfl rfl rfl hdX6_save ⟨Nat.le_of_ble_eq_true rfl, Nat.le_of_ble_eq_true rfl⟩) hP hD hS hA hK 9 rfl rfl rfl [0, 1, 2, 3, 4] rfl rfl rfl rfl rfl rfl rfl rfl hl.1 (Nat.le_of_ble_eq_true rfl) dX6_settle_22 ⟨Nat.zero_le _, Nat.zero_le _⟩ (fun H locs hP hD hS => ?_)
    refine lv_aload_n hx hb dX6_settle_25 rfl (lv_at hl 0 rfl) ?_
    obtain ⟨x2, ex2, h⟩ := o_b h
    refine call_iV (As := []) (rest := []) (ws2 := [(a0, .inr (9, [.int (0 : Int32), .ref a1, .ref a2, .ref a3, .int x1.2, .ref a4, .int ln, .int nx, .int cd, .int dg, .int pw, .long hs])), (a1, .inl (cI, 378, .inl x2.2)), (a2, .inl (cI, 378, .inl asd)), (a3, .inl (cI, 1512, .inl x1.1)), (a4, .inl (cI, 120, .inl mt))]) ⟨hx, hb, hml, hown, hts⟩ (cX6_settles_ok l G cI cG a0 a1 a2 a3 a4 fu (0 : Int32) sa asd x1.1 x1.2 mt ln nx cd dg pw hs x2 ex2) (cwV 0 hts gX6_settle_X6_settles rfl rfl rfl hdX6_settles ⟨Nat.le_of_ble_eq_true rfl, Nat.le_of_ble_eq_true rfl⟩) hP hD hS hA hK 9 rfl rfl rfl [0, 1, 2, 3, 4] rfl rfl rfl rfl rfl rfl rfl rfl hl.1 (Nat.le_of_ble_eq_true rfl) dX6_settle_26 ⟨Nat.zero_le _, Nat.zero_le _⟩ (fun H locs hP hD hS => ?_)
    obtain rfl := o_s h
    rw [hQ]
    exact end_i hx hb hr rfl hP hD hS dX6_settle_29 hlocks
  · have h := o_t h hc
    refine lv_aload_n hx hb dX6_settle_15 rfl (lv_at hl 0 rfl) ?_
    refine lv_iconst (v := 1) hx hb dX6_settle_16 (by decide) ?_
    obtain ⟨x3, ex3, h⟩ := o_b h
    refine call_iV (As := [.int (1 : Int32)]) (rest := []) (ws2 := [(a0, .inr (9, [.int x3.2, .ref a1, .ref a2, .ref a3, .int sm, .ref a4, .int ln, .int nx, .int cd, .int dg, .int pw, .long hs])), (a1, .inl (cI, 378, .inl sa)), (a2, .inl (cI, 378, .inl asd)), (a3, .inl (cI, 1512, .inl sv)), (a4, .inl (cI, 120, .inl mt))]) ⟨hx, hb, hml, hown, hts⟩ (cX6_fails_ok l G cI cG a0 a1 a2 a3 a4 (0 : Int32) sa asd sv sm mt ln nx cd dg pw hs (1 : Int32) x3 ex3) (cwV 1 hts gX6_settle_X6_fails rfl rfl rfl hdX6_fails ⟨Nat.le_of_ble_eq_true rfl, Nat.le_of_ble_eq_true rfl⟩) hP hD hS hA hK 9 rfl rfl rfl [0, 1, 2, 3, 4] rfl rfl rfl rfl rfl rfl rfl rfl hl.1 (Nat.le_of_ble_eq_true rfl) dX6_settle_17 ⟨Nat.zero_le _, Nat.zero_le _⟩ (fun H locs hP hD hS => ?_)
    obtain rfl := o_s h
    rw [hQ]
    exact end_i hx hb hr rfl hP hD hS dX6_settle_20 hlocks
theorem hdX6_stacked : yX6_stacked.cls = RX6 ∧ yX6_stacked.cls ≠ "java/lang/invoke/MethodHandle" ∧ yX6_stacked.cls ≠ "java/lang/invoke/VarHandle" ∧ (parseMethodDescriptor yX6_stacked.desc).map (fun d => d.parameters.length) = some 2 := by decide +kernel
set_option maxHeartbeats 4000000 in
set_option maxRecDepth 100000 in
theorem cX6_stacked_ok (l : Launch) (G : va_G) (cI cG : ClassId) (a0 a1 a2 a3 a4 : Nat) (th : Int32) (sa : (Nat → Int32)) (asd : (Nat → Int32)) (sv : (Nat → Int32)) (sm : Int32) (mt : (Nat → Int32)) (ln : Int32) (nx : Int32) (cd : Int32) (dg : Int32) (pw : Int32) (hs : Int64) (p1 : Int32) (p2 : Int32) (out : Int32 × Int32) (hf : fX6_stacked th sa p1 p2 = some out) : CI l G (tyz cI cG) yX6_stacked wsX6_stacked ({ frames := 1, cells := 0, slots := 0, locals := 22 } : Room) [.ref a0, .int p1, .int p2] [(a0, .inr (9, [.int th, .ref a1, .ref a2, .ref a3, .int sm, .ref a4, .int ln, .int nx, .int cd, .int dg, .int pw, .long hs])), (a1, .inl (cI, 378, .inl sa)), (a2, .inl (cI, 378, .inl asd)), (a3, .inl (cI, 1512, .inl sv)), (a4, .inl (cI, 120, .inl mt))] out.1 [(a0, .inr (9, [.int out.2, .ref a1, .ref a2, .ref a3, .int sm, .ref a4, .int ln, .int nx, .int cd, .int dg, .int pw, .long hs])), (a1, .inl (cI, 378, .inl sa)), (a2, .inl (cI, 378, .inl asd)), (a3, .inl (cI, 1512, .inl sv)), (a4, .inl (cI, 120, .inl mt))] := by
  intro sz
  refine Met.ofW (cc := cX6_stacked) (maxL := 3) (ret := (some .int)) (by decide) rfl ?_
  intro p e s m args below meth c s₁ B hml hv
  obtain ⟨rfl, hsz, hP, hK, hD0⟩ := hv
  have hx := B.exec
  have hb := B.bytes
  have hr := B.returns
  have hts := atoms_spec (ws := wsX6_stacked) B.pre
  have hown : s.vm.findClass RX6 = some m.cls := findClass_of_methodNamed B.named
  have hlocks := B.notSynchronized
  subst hsz
  have hD := hD0.self (sz := s.heap.size)
  generalize hAe : va_A [(a0, .inr (9, [.int th, .ref a1, .ref a2, .ref a3, .int sm, .ref a4, .int ln, .int nx, .int cd, .int dg, .int pw, .long hs])), (a1, .inl (cI, 378, .inl sa)), (a2, .inl (cI, 378, .inl asd)), (a3, .inl (cI, 1512, .inl sv)), (a4, .inl (cI, 120, .inl mt))] s.heap.size = A at hD ⊢
  have hA : ∀ q : Nat, s.heap.size ≤ q → A q := fun q h => by rw [← hAe]; exact Or.inr h
  have hS : va_S A s.heap s.heap [] := va_S.rf
  have hw0 := hts (.fieldLink RX6 22 "SpeedTurnsModel" "thrown" "I") (List.mem_of_getElem? (i := 1) rfl)
  have hin6 : ∀ w ∈ u_ws RX6 TX6 12, w ∈ wsX6_stacked := by decide +kernel
  have hw2 := hts (.fieldLink RX6 7 "SpeedTurnsModel" "s" "[I") (List.mem_of_getElem? (i := 2) rfl)
  show W p l e ({ frames := 1, cells := 0, slots := 0, locals := 22 } : Room) s m _ below meth c s.heap [] 0 0 _ _
  refine W_genQ (fun Q hQ => ?_)
  have h := hf
  rw [fX6_stacked] at h
  have hl := lv_entry ([.ref a0, .int p1, .int p2]) (n := 3) (Nat.le_of_ble_eq_true rfl)
  rw [lg_entry_eq]
  generalize (lg_sl ([.ref a0, .int p1, .int p2]) ++ List.replicate (3 - (lg_sl ([.ref a0, .int p1, .int p2])).length) Slot.unset).toArray = ls at hl ⊢
  have hl : lv_has ls 3 [(0, .ref a0), (1, .int p1), (2, .int p2)] := hl
  refine lv_aload_n hx hb dX6_stacked_0 rfl (lv_at hl 0 rfl) ?_
  refine lv_iconst (v := 0) hx hb dX6_stacked_1 (by decide) ?_
  refine va_put (D := G) (ci := 9) (v := .int (0 : Int32)) (ty := .int) (C := RX6) (T := TX6) (N := 12) hx hb hts hin6 tyX6 tyX6_ok nmX6 hown hK.1 hP hD hS 0 rfl rfl 0 (by decide) hw0 (fun _ h9 => h9) rfl (by decide +kernel) rfl rfl (Nat.le_of_ble_eq_true rfl) dX6_stacked_2 (fun H locs hP hD hS => ?_)
  have hP : va_P G vwCl [(a0, .inr (9, [.int (0 : Int32), .ref a1, .ref a2, .ref a3, .int sm, .ref a4, .int ln, .int nx, .int cd, .int dg, .int pw, .long hs])), (a1, .inl (cI, 378, .inl sa)), (a2, .inl (cI, 378, .inl asd)), (a3, .inl (cI, 1512, .inl sv)), (a4, .inl (cI, 120, .inl mt))] H := hP
  have hD : va_D A [(a0, .inr (9, [.int (0 : Int32), .ref a1, .ref a2, .ref a3, .int sm, .ref a4, .int ln, .int nx, .int cd, .int dg, .int pw, .long hs])), (a1, .inl (cI, 378, .inl sa)), (a2, .inl (cI, 378, .inl asd)), (a3, .inl (cI, 1512, .inl sv)), (a4, .inl (cI, 120, .inl mt))] := hD
  refine lv_iload_n hx hb dX6_stacked_5 rfl (lv_at hl 1 rfl) ?_
  refine lv_iconst (v := 0) hx hb dX6_stacked_6 (by decide) ?_
  refine lv_aload_n hx hb dX6_stacked_7 rfl (lv_at hl 0 rfl) ?_
  refine va_get (D := G) (ci := 9) (v := .ref a1) (C := RX6) (T := TX6) (N := 12) hx hb hts hin6 hown hK.1 hP 0 rfl rfl 1 (by decide) hw2 (fun _ h9 => h9) rfl dX6_stacked_8 ?_
  refine lv_bipush (v := 8) hx hb dX6_stacked_11 (by decide) ?_
  obtain ⟨hin, h⟩ := o_g h
  refine va_iald hx hb hK.1 hP 1 0 rfl rfl hin dX6_stacked_13 ?_
  refine lv_iconst (v := 1) hx hb dX6_stacked_14 (by decide) ?_
  refine lv_isub hx hb dX6_stacked_15 ?_
  obtain ⟨x1, ex1, h⟩ := o_b h
  refine call_iS (As := [.int p1, .int (0 : Int32), .int ((sa ((8 : Int32)).toNatClampNeg) - (1 : Int32))]) (rest := []) (ws2 := [(a0, .inr (9, [.int (0 : Int32), .ref a1, .ref a2, .ref a3, .int sm, .ref a4, .int ln, .int nx, .int cd, .int dg, .int pw, .long hs])), (a1, .inl (cI, 378, .inl sa)), (a2, .inl (cI, 378, .inl asd)), (a3, .inl (cI, 1512, .inl sv)), (a4, .inl (cI, 120, .inl mt))]) ⟨hx, hb, hml, hown, hts⟩ (cX6_in_ok l G cI cG p1 (0 : Int32) ((sa ((8 : Int32)).toNatClampNeg) - (1 : Int32)) x1 ex1) (va_cwS 3 hts gX6_stacked_X6_in rfl rfl rfl hdX6_in ⟨Nat.le_of_ble_eq_true rfl, Nat.le_of_ble_eq_true rfl⟩) hP hD hS hA hK [] rfl rfl rfl rfl rfl rfl rfl rfl hl.1 (Nat.le_of_ble_eq_true rfl) dX6_stacked_16 ⟨Nat.zero_le _, Nat.zero_le _⟩ (fun H locs hP hD hS => ?_)
  refine lv_if_ne (tgt := 28) hx hb dX6_stacked_19 (by decide) (fun hc => ?_) (fun hc => ?_)
  · have h := o_f h hc
    refine lv_iload_n hx hb dX6_stacked_28 rfl (lv_at hl 2 rfl) ?_
    refine lv_iconst (v := 0) hx hb dX6_stacked_29 (by decide) ?_
    refine lv_iconst (v := 3) hx hb dX6_stacked_30 (by decide) ?_
    obtain ⟨x2, ex2, h⟩ := o_b h
    refine call_iS (As := [.int p2, .int (0 : Int32), .int (3 : Int32)]) (rest := []) (ws2 := [(a0, .inr (9, [.int (0 : Int32), .ref a1, .ref a2, .ref a3, .int sm, .ref a4, .int ln, .int nx, .int cd, .int dg, .int pw, .long hs])), (a1, .inl (cI, 378, .inl sa)), (a2, .inl (cI, 378, .inl asd)), (a3, .inl (cI, 1512, .inl sv)), (a4, .inl (cI, 120, .inl mt))]) ⟨hx, hb, hml, hown, hts⟩ (cX6_in_ok l G cI cG p2 (0 : Int32) (3 : Int32) x2 ex2) (va_cwS 3 hts gX6_stacked_X6_in rfl rfl rfl hdX6_in ⟨Nat.le_of_ble_eq_true rfl, Nat.le_of_ble_eq_true rfl⟩) hP hD hS hA hK [] rfl rfl rfl rfl rfl rfl rfl rfl hl.1 (Nat.le_of_ble_eq_true rfl) dX6_stacked_31 ⟨Nat.zero_le _, Nat.zero_le _⟩ (fun H locs hP hD hS => ?_)
    refine lv_if_eq (tgt := 56) hx hb dX6_stacked_34 (by decide) (fun hc => ?_) (fun hc => ?_)
    · have h := o_t h hc
      refine lv_aload_n hx hb dX6_stacked_56 rfl (lv_at hl 0 rfl) ?_
      refine lv_iconst (v := 2) hx hb dX6_stacked_57 (by decide) ?_
      obtain ⟨x3, ex3, h⟩ := o_b h
      refine call_iV (As := [.int (2 : Int32)]) (rest := []) (ws2 := [(a0, .inr (9, [.int x3.2, .ref a1, .ref a2, .ref a3, .int sm, .ref a4, .int ln, .int nx, .int cd, .int dg, .int pw, .long hs])), (a1, .inl (cI, 378, .inl sa)), (a2, .inl (cI, 378, .inl asd)), (a3, .inl (cI, 1512, .inl sv)), (a4, .inl (cI, 120, .inl mt))]) ⟨hx, hb, hml, hown, hts⟩ (cX6_fails_ok l G cI cG a0 a1 a2 a3 a4 (0 : Int32) sa asd sv sm mt ln nx cd dg pw hs (2 : Int32) x3 ex3) (cwV 1 hts gX6_stacked_X6_fails rfl rfl rfl hdX6_fails ⟨Nat.le_of_ble_eq_true rfl, Nat.le_of_ble_eq_true rfl⟩) hP hD hS hA hK 9 rfl rfl rfl [0, 1, 2, 3, 4] rfl rfl rfl rfl rfl rfl rfl rfl hl.1 (Nat.le_of_ble_eq_true rfl) dX6_stacked_58 ⟨Nat.zero_le _, Nat.zero_le _⟩ (fun H locs hP hD hS => ?_)
      obtain rfl := o_s h
      rw [hQ]
      exact end_i hx hb hr rfl hP hD hS dX6_stacked_61 hlocks
    · have h := o_f h hc
      refine lv_aload_n hx hb dX6_stacked_37 rfl (lv_at hl 0 rfl) ?_
      refine lv_aload_n hx hb dX6_stacked_38 rfl (lv_at hl 0 rfl) ?_
      refine va_get (D := G) (ci := 9) (v := .ref a1) (C := RX6) (T := TX6) (N := 12) hx hb hts hin6 hown hK.1 hP 0 rfl rfl 1 (by decide) hw2 (fun _ h9 => h9) rfl dX6_stacked_39 ?_
      refine lv_bipush (v := 8) hx hb dX6_stacked_42 (by decide) ?_
      obtain ⟨hin, h⟩ := o_g h
      refine va_iald hx hb hK.1 hP 1 0 rfl rfl hin dX6_stacked_44 ?_
      refine lv_iconst (v := 1) hx hb dX6_stacked_45 (by decide) ?_
      refine lv_isub hx hb dX6_stacked_46 ?_
      refine lv_iload_n hx hb dX6_stacked_47 rfl (lv_at hl 1 rfl) ?_
      refine lv_isub hx hb dX6_stacked_48 ?_
      refine lv_iload_n hx hb dX6_stacked_49 rfl (lv_at hl 2 rfl) ?_
      obtain ⟨x4, ex4, h⟩ := o_b h
      refine call_iV (As := [.int (((sa ((8 : Int32)).toNatClampNeg) - (1 : Int32)) - p1), .int p2]) (rest := []) (ws2 := [(a0, .inr (9, [.int (0 : Int32), .ref a1, .ref a2, .ref a3, .int sm, .ref a4, .int ln, .int nx, .int cd, .int dg, .int pw, .long hs])), (a1, .inl (cI, 378, .inl sa)), (a2, .inl (cI, 378, .inl asd)), (a3, .inl (cI, 1512, .inl sv)), (a4, .inl (cI, 120, .inl mt))]) ⟨hx, hb, hml, hown, hts⟩ (cX6_ofAct_ok l G cI cG a0 a1 a2 a3 a4 (0 : Int32) sa asd sv sm mt ln nx cd dg pw hs (((sa ((8 : Int32)).toNatClampNeg) - (1 : Int32)) - p1) p2 x4 ex4) (cwV 2 hts gX6_stacked_X6_ofAct rfl rfl rfl hdX6_ofAct ⟨Nat.le_of_ble_eq_true rfl, Nat.le_of_ble_eq_true rfl⟩) hP hD hS hA hK 9 rfl rfl rfl [0, 1, 2, 3, 4] rfl rfl rfl rfl rfl rfl rfl rfl hl.1 (Nat.le_of_ble_eq_true rfl) dX6_stacked_50 ⟨Nat.zero_le _, Nat.zero_le _⟩ (fun H locs hP hD hS => ?_)
      refine lv_goto (tgt := 61) hx hb dX6_stacked_53 (by decide) ?_
      obtain rfl := o_s h
      rw [hQ]
      exact end_i hx hb hr rfl hP hD hS dX6_stacked_61 hlocks
  · have h := o_t h hc
    refine lv_aload_n hx hb dX6_stacked_22 rfl (lv_at hl 0 rfl) ?_
    refine lv_iconst (v := 1) hx hb dX6_stacked_23 (by decide) ?_
    obtain ⟨x5, ex5, h⟩ := o_b h
    refine call_iV (As := [.int (1 : Int32)]) (rest := []) (ws2 := [(a0, .inr (9, [.int x5.2, .ref a1, .ref a2, .ref a3, .int sm, .ref a4, .int ln, .int nx, .int cd, .int dg, .int pw, .long hs])), (a1, .inl (cI, 378, .inl sa)), (a2, .inl (cI, 378, .inl asd)), (a3, .inl (cI, 1512, .inl sv)), (a4, .inl (cI, 120, .inl mt))]) ⟨hx, hb, hml, hown, hts⟩ (cX6_fails_ok l G cI cG a0 a1 a2 a3 a4 (0 : Int32) sa asd sv sm mt ln nx cd dg pw hs (1 : Int32) x5 ex5) (cwV 1 hts gX6_stacked_X6_fails rfl rfl rfl hdX6_fails ⟨Nat.le_of_ble_eq_true rfl, Nat.le_of_ble_eq_true rfl⟩) hP hD hS hA hK 9 rfl rfl rfl [0, 1, 2, 3, 4] rfl rfl rfl rfl rfl rfl rfl rfl hl.1 (Nat.le_of_ble_eq_true rfl) dX6_stacked_24 ⟨Nat.zero_le _, Nat.zero_le _⟩ (fun H locs hP hD hS => ?_)
    obtain rfl := o_s h
    rw [hQ]
    exact end_i hx hb hr rfl hP hD hS dX6_stacked_27 hlocks
theorem hdX6_mayAnswer : yX6_mayAnswer.cls = RX6 ∧ yX6_mayAnswer.cls ≠ "java/lang/invoke/MethodHandle" ∧ yX6_mayAnswer.cls ≠ "java/lang/invoke/VarHandle" ∧ (parseMethodDescriptor yX6_mayAnswer.desc).map (fun d => d.parameters.length) = some 1 := by decide +kernel
set_option maxHeartbeats 4000000 in
set_option maxRecDepth 100000 in
theorem cX6_mayAnswer_ok (l : Launch) (G : va_G) (cI cG : ClassId) (a0 a1 a2 a3 a4 : Nat) (th : Int32) (sa : (Nat → Int32)) (asd : (Nat → Int32)) (sv : (Nat → Int32)) (sm : Int32) (mt : (Nat → Int32)) (ln : Int32) (nx : Int32) (cd : Int32) (dg : Int32) (pw : Int32) (hs : Int64) (p1 : Int32) (out : Bool × Int32) (hf : fX6_mayAnswer th sa p1 = some out) : CI l G (tyz cI cG) yX6_mayAnswer wsX6_mayAnswer ({ frames := 3, cells := 0, slots := 0, locals := 64 } : Room) [.ref a0, .int p1] [(a0, .inr (9, [.int th, .ref a1, .ref a2, .ref a3, .int sm, .ref a4, .int ln, .int nx, .int cd, .int dg, .int pw, .long hs])), (a1, .inl (cI, 378, .inl sa)), (a2, .inl (cI, 378, .inl asd)), (a3, .inl (cI, 1512, .inl sv)), (a4, .inl (cI, 120, .inl mt))] (bI out.1) [(a0, .inr (9, [.int out.2, .ref a1, .ref a2, .ref a3, .int sm, .ref a4, .int ln, .int nx, .int cd, .int dg, .int pw, .long hs])), (a1, .inl (cI, 378, .inl sa)), (a2, .inl (cI, 378, .inl asd)), (a3, .inl (cI, 1512, .inl sv)), (a4, .inl (cI, 120, .inl mt))] := by
  intro sz
  refine Met.ofW (cc := cX6_mayAnswer) (maxL := 2) (ret := (some .boolean)) (by decide) rfl ?_
  intro p e s m args below meth c s₁ B hml hv
  obtain ⟨rfl, hsz, hP, hK, hD0⟩ := hv
  have hx := B.exec
  have hb := B.bytes
  have hr := B.returns
  have hts := atoms_spec (ws := wsX6_mayAnswer) B.pre
  have hown : s.vm.findClass RX6 = some m.cls := findClass_of_methodNamed B.named
  have hlocks := B.notSynchronized
  subst hsz
  have hD := hD0.self (sz := s.heap.size)
  generalize hAe : va_A [(a0, .inr (9, [.int th, .ref a1, .ref a2, .ref a3, .int sm, .ref a4, .int ln, .int nx, .int cd, .int dg, .int pw, .long hs])), (a1, .inl (cI, 378, .inl sa)), (a2, .inl (cI, 378, .inl asd)), (a3, .inl (cI, 1512, .inl sv)), (a4, .inl (cI, 120, .inl mt))] s.heap.size = A at hD ⊢
  have hA : ∀ q : Nat, s.heap.size ≤ q → A q := fun q h => by rw [← hAe]; exact Or.inr h
  have hS : va_S A s.heap s.heap [] := va_S.rf
  have hw0 := hts (.fieldLink RX6 22 "SpeedTurnsModel" "thrown" "I") (List.mem_of_getElem? (i := 1) rfl)
  have hin6 : ∀ w ∈ u_ws RX6 TX6 12, w ∈ wsX6_mayAnswer := by decide +kernel
  show W p l e ({ frames := 3, cells := 0, slots := 0, locals := 64 } : Room) s m _ below meth c s.heap [] 0 0 _ _
  refine W_genQ (fun Q hQ => ?_)
  have h := hf
  rw [fX6_mayAnswer] at h
  have hl := lv_entry ([.ref a0, .int p1]) (n := 2) (Nat.le_of_ble_eq_true rfl)
  rw [lg_entry_eq]
  generalize (lg_sl ([.ref a0, .int p1]) ++ List.replicate (2 - (lg_sl ([.ref a0, .int p1])).length) Slot.unset).toArray = ls at hl ⊢
  have hl : lv_has ls 2 [(0, .ref a0), (1, .int p1)] := hl
  refine lv_aload_n hx hb dX6_mayAnswer_0 rfl (lv_at hl 0 rfl) ?_
  refine lv_iconst (v := 0) hx hb dX6_mayAnswer_1 (by decide) ?_
  refine va_put (D := G) (ci := 9) (v := .int (0 : Int32)) (ty := .int) (C := RX6) (T := TX6) (N := 12) hx hb hts hin6 tyX6 tyX6_ok nmX6 hown hK.1 hP hD hS 0 rfl rfl 0 (by decide) hw0 (fun _ h9 => h9) rfl (by decide +kernel) rfl rfl (Nat.le_of_ble_eq_true rfl) dX6_mayAnswer_2 (fun H locs hP hD hS => ?_)
  have hP : va_P G vwCl [(a0, .inr (9, [.int (0 : Int32), .ref a1, .ref a2, .ref a3, .int sm, .ref a4, .int ln, .int nx, .int cd, .int dg, .int pw, .long hs])), (a1, .inl (cI, 378, .inl sa)), (a2, .inl (cI, 378, .inl asd)), (a3, .inl (cI, 1512, .inl sv)), (a4, .inl (cI, 120, .inl mt))] H := hP
  have hD : va_D A [(a0, .inr (9, [.int (0 : Int32), .ref a1, .ref a2, .ref a3, .int sm, .ref a4, .int ln, .int nx, .int cd, .int dg, .int pw, .long hs])), (a1, .inl (cI, 378, .inl sa)), (a2, .inl (cI, 378, .inl asd)), (a3, .inl (cI, 1512, .inl sv)), (a4, .inl (cI, 120, .inl mt))] := hD
  refine lv_aload_n hx hb dX6_mayAnswer_5 rfl (lv_at hl 0 rfl) ?_
  refine lv_iload_n hx hb dX6_mayAnswer_6 rfl (lv_at hl 1 rfl) ?_
  obtain ⟨x1, ex1, h⟩ := o_b h
  refine call_iV (As := [.int p1]) (rest := []) (ws2 := [(a0, .inr (9, [.int (0 : Int32), .ref a1, .ref a2, .ref a3, .int sm, .ref a4, .int ln, .int nx, .int cd, .int dg, .int pw, .long hs])), (a1, .inl (cI, 378, .inl sa)), (a2, .inl (cI, 378, .inl asd)), (a3, .inl (cI, 1512, .inl sv)), (a4, .inl (cI, 120, .inl mt))]) ⟨hx, hb, hml, hown, hts⟩ (cX6_isFighter_ok l G cI cG a0 a1 a2 a3 a4 (0 : Int32) sa asd sv sm mt ln nx cd dg pw hs p1 x1 ex1) (cwV 1 hts gX6_mayAnswer_X6_isFighter rfl rfl rfl hdX6_isFighter ⟨Nat.le_of_ble_eq_true rfl, Nat.le_of_ble_eq_true rfl⟩) hP hD hS hA hK 9 rfl rfl rfl [0, 1, 2, 3, 4] rfl rfl rfl rfl rfl rfl rfl rfl hl.1 (Nat.le_of_ble_eq_true rfl) dX6_mayAnswer_7 ⟨Nat.zero_le _, Nat.zero_le _⟩ (fun H locs hP hD hS => ?_)
  refine lv_if_ne (tgt := 20) hx hb dX6_mayAnswer_10 (by decide) (fun hc => ?_) (fun hc => ?_)
  · have h := o_f h hc
    refine lv_aload_n hx hb dX6_mayAnswer_20 rfl (lv_at hl 0 rfl) ?_
    refine lv_iload_n hx hb dX6_mayAnswer_21 rfl (lv_at hl 1 rfl) ?_
    obtain ⟨x2, ex2, h⟩ := o_b h
    refine call_iV (As := [.int p1]) (rest := []) (ws2 := [(a0, .inr (9, [.int (0 : Int32), .ref a1, .ref a2, .ref a3, .int sm, .ref a4, .int ln, .int nx, .int cd, .int dg, .int pw, .long hs])), (a1, .inl (cI, 378, .inl sa)), (a2, .inl (cI, 378, .inl asd)), (a3, .inl (cI, 1512, .inl sv)), (a4, .inl (cI, 120, .inl mt))]) ⟨hx, hb, hml, hown, hts⟩ (cX6_canAnswer_ok l G cI cG a0 a1 a2 a3 a4 (0 : Int32) sa asd sv sm mt ln nx cd dg pw hs p1 x2 ex2) (cwV 1 hts gX6_mayAnswer_X6_canAnswer rfl rfl rfl hdX6_canAnswer ⟨Nat.le_of_ble_eq_true rfl, Nat.le_of_ble_eq_true rfl⟩) hP hD hS hA hK 9 rfl rfl rfl [0, 1, 2, 3, 4] rfl rfl rfl rfl rfl rfl rfl rfl hl.1 (Nat.le_of_ble_eq_true rfl) dX6_mayAnswer_22 ⟨Nat.zero_le _, Nat.zero_le _⟩ (fun H locs hP hD hS => ?_)
    obtain rfl := o_s h
    rw [hQ]
    exact end_z hx hb hr rfl (bI_n _) hP hD hS dX6_mayAnswer_25 hlocks
  · have h := o_t h hc
    refine lv_aload_n hx hb dX6_mayAnswer_13 rfl (lv_at hl 0 rfl) ?_
    refine lv_iconst (v := 1) hx hb dX6_mayAnswer_14 (by decide) ?_
    refine va_put (D := G) (ci := 9) (v := .int (1 : Int32)) (ty := .int) (C := RX6) (T := TX6) (N := 12) hx hb hts hin6 tyX6 tyX6_ok nmX6 hown hK.1 hP hD hS 0 rfl rfl 0 (by decide) hw0 (fun _ h9 => h9) rfl (by decide +kernel) rfl rfl (Nat.le_of_ble_eq_true rfl) dX6_mayAnswer_15 (fun H locs hP hD hS => ?_)
    have hP : va_P G vwCl [(a0, .inr (9, [.int (1 : Int32), .ref a1, .ref a2, .ref a3, .int sm, .ref a4, .int ln, .int nx, .int cd, .int dg, .int pw, .long hs])), (a1, .inl (cI, 378, .inl sa)), (a2, .inl (cI, 378, .inl asd)), (a3, .inl (cI, 1512, .inl sv)), (a4, .inl (cI, 120, .inl mt))] H := hP
    have hD : va_D A [(a0, .inr (9, [.int (1 : Int32), .ref a1, .ref a2, .ref a3, .int sm, .ref a4, .int ln, .int nx, .int cd, .int dg, .int pw, .long hs])), (a1, .inl (cI, 378, .inl sa)), (a2, .inl (cI, 378, .inl asd)), (a3, .inl (cI, 1512, .inl sv)), (a4, .inl (cI, 120, .inl mt))] := hD
    refine lv_iconst (v := 0) hx hb dX6_mayAnswer_18 (by decide) ?_
    obtain rfl := o_s h
    rw [hQ]
    exact end_z hx hb hr rfl rfl hP hD hS dX6_mayAnswer_19 hlocks
theorem hdX6_clearTurn : yX6_clearTurn.cls = RX6 ∧ yX6_clearTurn.cls ≠ "java/lang/invoke/MethodHandle" ∧ yX6_clearTurn.cls ≠ "java/lang/invoke/VarHandle" ∧ (parseMethodDescriptor yX6_clearTurn.desc).map (fun d => d.parameters.length) = some 0 := by decide +kernel
set_option maxHeartbeats 4000000 in
set_option maxRecDepth 100000 in
theorem cX6_clearTurn_ok (l : Launch) (G : va_G) (cI cG : ClassId) (a0 a1 a2 a3 a4 : Nat) (fu : Nat) (th : Int32) (sa : (Nat → Int32)) (asd : (Nat → Int32)) (sv : (Nat → Int32)) (sm : Int32) (mt : (Nat → Int32)) (ln : Int32) (nx : Int32) (cd : Int32) (dg : Int32) (pw : Int32) (hs : Int64) (out : (Nat → Int32)) (hf : fX6_clearTurn fu sa = some out) : CV l G (tyz cI cG) yX6_clearTurn wsX6_clearTurn ({ frames := 2, cells := 0, slots := 0, locals := 46 } : Room) [.ref a0] [(a0, .inr (9, [.int th, .ref a1, .ref a2, .ref a3, .int sm, .ref a4, .int ln, .int nx, .int cd, .int dg, .int pw, .long hs])), (a1, .inl (cI, 378, .inl sa)), (a2, .inl (cI, 378, .inl asd)), (a3, .inl (cI, 1512, .inl sv)), (a4, .inl (cI, 120, .inl mt))] [(a0, .inr (9, [.int th, .ref a1, .ref a2, .ref a3, .int sm, .ref a4, .int ln, .int nx, .int cd, .int dg, .int pw, .long hs])), (a1, .inl (cI, 378, .inl out)), (a2, .inl (cI, 378, .inl asd)), (a3, .inl (cI, 1512, .inl sv)), (a4, .inl (cI, 120, .inl mt))] := by
  intro sz
  refine Met.ofW (cc := cX6_clearTurn) (maxL := 2) (ret := none) (by decide) rfl ?_
  intro p e s m args below meth c s₁ B hml hv
  obtain ⟨rfl, hsz, hP, hK, hD0⟩ := hv
  have hx := B.exec
  have hb := B.bytes
  have hr := B.returns
  have hts := atoms_spec (ws := wsX6_clearTurn) B.pre
  have hown : s.vm.findClass RX6 = some m.cls := findClass_of_methodNamed B.named
  have hlocks := B.notSynchronized
  subst hsz
  have hD := hD0.self (sz := s.heap.size)
  generalize hAe : va_A [(a0, .inr (9, [.int th, .ref a1, .ref a2, .ref a3, .int sm, .ref a4, .int ln, .int nx, .int cd, .int dg, .int pw, .long hs])), (a1, .inl (cI, 378, .inl sa)), (a2, .inl (cI, 378, .inl asd)), (a3, .inl (cI, 1512, .inl sv)), (a4, .inl (cI, 120, .inl mt))] s.heap.size = A at hD ⊢
  have hA : ∀ q : Nat, s.heap.size ≤ q → A q := fun q h => by rw [← hAe]; exact Or.inr h
  have hS : va_S A s.heap s.heap [] := va_S.rf
  have hw0 := hts (.fieldLink RX6 7 "SpeedTurnsModel" "s" "[I") (List.mem_of_getElem? (i := 1) rfl)
  have hin6 : ∀ w ∈ u_ws RX6 TX6 12, w ∈ wsX6_clearTurn := by decide +kernel
  show W p l e ({ frames := 2, cells := 0, slots := 0, locals := 46 } : Room) s m _ below meth c s.heap [] 0 0 _ _
  refine W_genQ (fun Q hQ => ?_)
  have h := hf
  rw [fX6_clearTurn] at h
  have hl := lv_entry ([.ref a0]) (n := 2) (Nat.le_of_ble_eq_true rfl)
  rw [lg_entry_eq]
  generalize (lg_sl ([.ref a0]) ++ List.replicate (2 - (lg_sl ([.ref a0])).length) Slot.unset).toArray = ls at hl ⊢
  have hl : lv_has ls 2 [(0, .ref a0)] := hl
  refine lv_aload_n hx hb dX6_clearTurn_0 rfl (lv_at hl 0 rfl) ?_
  refine va_get (D := G) (ci := 9) (v := .ref a1) (C := RX6) (T := TX6) (N := 12) hx hb hts hin6 hown hK.1 hP 0 rfl rfl 1 (by decide) hw0 (fun _ h9 => h9) rfl dX6_clearTurn_1 ?_
  refine lv_bipush (v := 8) hx hb dX6_clearTurn_4 (by decide) ?_
  refine lv_iconst (v := 0) hx hb dX6_clearTurn_6 (by decide) ?_
  obtain ⟨hin, h⟩ := o_g h
  refine va_iast hx hb hK.1 hP hD hS 1 0 rfl rfl hin dX6_clearTurn_7 (fun H locs hP hD hS => ?_)
  have hP : va_P G vwCl [(a0, .inr (9, [.int th, .ref a1, .ref a2, .ref a3, .int sm, .ref a4, .int ln, .int nx, .int cd, .int dg, .int pw, .long hs])), (a1, .inl (cI, 378, .inl (upd sa ((8 : Int32)).toNatClampNeg (0 : Int32)))), (a2, .inl (cI, 378, .inl asd)), (a3, .inl (cI, 1512, .inl sv)), (a4, .inl (cI, 120, .inl mt))] H := hP
  have hD : va_D A [(a0, .inr (9, [.int th, .ref a1, .ref a2, .ref a3, .int sm, .ref a4, .int ln, .int nx, .int cd, .int dg, .int pw, .long hs])), (a1, .inl (cI, 378, .inl (upd sa ((8 : Int32)).toNatClampNeg (0 : Int32)))), (a2, .inl (cI, 378, .inl asd)), (a3, .inl (cI, 1512, .inl sv)), (a4, .inl (cI, 120, .inl mt))] := hD
  refine lv_aload_n hx hb dX6_clearTurn_8 rfl (lv_at hl 0 rfl) ?_
  refine va_get (D := G) (ci := 9) (v := .ref a1) (C := RX6) (T := TX6) (N := 12) hx hb hts hin6 hown hK.1 hP 0 rfl rfl 1 (by decide) hw0 (fun _ h9 => h9) rfl dX6_clearTurn_9 ?_
  refine lv_iconst (v := 4) hx hb dX6_clearTurn_12 (by decide) ?_
  obtain ⟨hin, h⟩ := o_g h
  refine va_iald hx hb hK.1 hP 1 0 rfl rfl hin dX6_clearTurn_13 ?_
  refine lv_iconst (v := (-1)) hx hb dX6_clearTurn_14 (by decide) ?_
  refine lv_icmp_eq (tgt := 43) hx hb dX6_clearTurn_15 (by decide) (fun hc => ?_) (fun hc => ?_)
  · have h := o_t h hc
    obtain rfl := o_s h
    rw [hQ]
    exact end_v hx hb hr hP hD hS dX6_clearTurn_43 hlocks
  · have h := o_f h hc
    refine lv_aload_n hx hb dX6_clearTurn_18 rfl (lv_at hl 0 rfl) ?_
    obtain ⟨x1, ex1, h⟩ := o_b h
    refine call_iV (As := []) (rest := []) (ws2 := [(a0, .inr (9, [.int th, .ref a1, .ref a2, .ref a3, .int sm, .ref a4, .int ln, .int nx, .int cd, .int dg, .int pw, .long hs])), (a1, .inl (cI, 378, .inl x1.2)), (a2, .inl (cI, 378, .inl asd)), (a3, .inl (cI, 1512, .inl sv)), (a4, .inl (cI, 120, .inl mt))]) ⟨hx, hb, hml, hown, hts⟩ (cX6_ends_ok l G cI cG a0 a1 a2 a3 a4 fu th (upd sa ((8 : Int32)).toNatClampNeg (0 : Int32)) asd sv sm mt ln nx cd dg pw hs x1 ex1) (cwV 0 hts gX6_clearTurn_X6_ends rfl rfl rfl hdX6_ends ⟨Nat.le_of_ble_eq_true rfl, Nat.le_of_ble_eq_true rfl⟩) hP hD hS hA hK 9 rfl rfl rfl [0, 1, 2, 3, 4] rfl rfl rfl rfl rfl rfl rfl rfl hl.1 (Nat.le_of_ble_eq_true rfl) dX6_clearTurn_19 ⟨Nat.zero_le _, Nat.zero_le _⟩ (fun H locs hP hD hS => ?_)
    refine lv_istore_n (lv' := [(1, .int x1.1), (0, .ref a0)]) hx hb dX6_clearTurn_22 rfl hl (by decide) rfl (fun ls hl => ?_)
    refine lv_aload_n hx hb dX6_clearTurn_23 rfl (lv_at hl 1 rfl) ?_
    refine va_get (D := G) (ci := 9) (v := .ref a1) (C := RX6) (T := TX6) (N := 12) hx hb hts hin6 hown hK.1 hP 0 rfl rfl 1 (by decide) hw0 (fun _ h9 => h9) rfl dX6_clearTurn_24 ?_
    refine lv_iconst (v := 4) hx hb dX6_clearTurn_27 (by decide) ?_
    refine lv_iload_n hx hb dX6_clearTurn_28 rfl (lv_at hl 0 rfl) ?_
    refine lv_if_ge (tgt := 41) hx hb dX6_clearTurn_29 (by decide) (fun hc => ?_) (fun hc => ?_)
    · have h := o_t h hc
      refine lv_iconst (v := (-1)) hx hb dX6_clearTurn_41 (by decide) ?_
      obtain ⟨hin, h⟩ := o_g h
      refine va_iast hx hb hK.1 hP hD hS 1 0 rfl rfl hin dX6_clearTurn_42 (fun H locs hP hD hS => ?_)
      have hP : va_P G vwCl [(a0, .inr (9, [.int th, .ref a1, .ref a2, .ref a3, .int sm, .ref a4, .int ln, .int nx, .int cd, .int dg, .int pw, .long hs])), (a1, .inl (cI, 378, .inl (upd x1.2 ((4 : Int32)).toNatClampNeg (-1 : Int32)))), (a2, .inl (cI, 378, .inl asd)), (a3, .inl (cI, 1512, .inl sv)), (a4, .inl (cI, 120, .inl mt))] H := hP
      have hD : va_D A [(a0, .inr (9, [.int th, .ref a1, .ref a2, .ref a3, .int sm, .ref a4, .int ln, .int nx, .int cd, .int dg, .int pw, .long hs])), (a1, .inl (cI, 378, .inl (upd x1.2 ((4 : Int32)).toNatClampNeg (-1 : Int32)))), (a2, .inl (cI, 378, .inl asd)), (a3, .inl (cI, 1512, .inl sv)), (a4, .inl (cI, 120, .inl mt))] := hD
      obtain rfl := o_s h
      rw [hQ]
      exact end_v hx hb hr hP hD hS dX6_clearTurn_43 hlocks
    · have h := o_f h hc
      refine lv_aload_n hx hb dX6_clearTurn_32 rfl (lv_at hl 1 rfl) ?_
      refine va_get (D := G) (ci := 9) (v := .ref a1) (C := RX6) (T := TX6) (N := 12) hx hb hts hin6 hown hK.1 hP 0 rfl rfl 1 (by decide) hw0 (fun _ h9 => h9) rfl dX6_clearTurn_33 ?_
      refine lv_iconst (v := 4) hx hb dX6_clearTurn_36 (by decide) ?_
      obtain ⟨hin, h⟩ := o_g h
      refine va_iald hx hb hK.1 hP 1 0 rfl rfl hin dX6_clearTurn_37 ?_
      refine lv_goto (tgt := 42) hx hb dX6_clearTurn_38 (by decide) ?_
      obtain ⟨hin, h⟩ := o_g h
      refine va_iast hx hb hK.1 hP hD hS 1 0 rfl rfl hin dX6_clearTurn_42 (fun H locs hP hD hS => ?_)
      have hP : va_P G vwCl [(a0, .inr (9, [.int th, .ref a1, .ref a2, .ref a3, .int sm, .ref a4, .int ln, .int nx, .int cd, .int dg, .int pw, .long hs])), (a1, .inl (cI, 378, .inl (upd x1.2 ((4 : Int32)).toNatClampNeg (x1.2 ((4 : Int32)).toNatClampNeg)))), (a2, .inl (cI, 378, .inl asd)), (a3, .inl (cI, 1512, .inl sv)), (a4, .inl (cI, 120, .inl mt))] H := hP
      have hD : va_D A [(a0, .inr (9, [.int th, .ref a1, .ref a2, .ref a3, .int sm, .ref a4, .int ln, .int nx, .int cd, .int dg, .int pw, .long hs])), (a1, .inl (cI, 378, .inl (upd x1.2 ((4 : Int32)).toNatClampNeg (x1.2 ((4 : Int32)).toNatClampNeg)))), (a2, .inl (cI, 378, .inl asd)), (a3, .inl (cI, 1512, .inl sv)), (a4, .inl (cI, 120, .inl mt))] := hD
      obtain rfl := o_s h
      rw [hQ]
      exact end_v hx hb hr hP hD hS dX6_clearTurn_43 hlocks
theorem hdX6_passesTurn : yX6_passesTurn.cls = RX6 ∧ yX6_passesTurn.cls ≠ "java/lang/invoke/MethodHandle" ∧ yX6_passesTurn.cls ≠ "java/lang/invoke/VarHandle" ∧ (parseMethodDescriptor yX6_passesTurn.desc).map (fun d => d.parameters.length) = some 0 := by decide +kernel
set_option maxHeartbeats 4000000 in
set_option maxRecDepth 100000 in
theorem cX6_passesTurn_ok (l : Launch) (G : va_G) (cI cG : ClassId) (a0 a1 a2 a3 a4 : Nat) (fu : Nat) (th : Int32) (sa : (Nat → Int32)) (asd : (Nat → Int32)) (sv : (Nat → Int32)) (sm : Int32) (mt : (Nat → Int32)) (ln : Int32) (nx : Int32) (cd : Int32) (dg : Int32) (pw : Int32) (hs : Int64) (out : Int32 × (Nat → Int32)) (hf : fX6_passesTurn fu sa = some out) : CI l G (tyz cI cG) yX6_passesTurn wsX6_passesTurn ({ frames := 6, cells := 0, slots := 0, locals := 137 } : Room) [.ref a0] [(a0, .inr (9, [.int th, .ref a1, .ref a2, .ref a3, .int sm, .ref a4, .int ln, .int nx, .int cd, .int dg, .int pw, .long hs])), (a1, .inl (cI, 378, .inl sa)), (a2, .inl (cI, 378, .inl asd)), (a3, .inl (cI, 1512, .inl sv)), (a4, .inl (cI, 120, .inl mt))] out.1 [(a0, .inr (9, [.int th, .ref a1, .ref a2, .ref a3, .int sm, .ref a4, .int ln, .int nx, .int cd, .int dg, .int pw, .long hs])), (a1, .inl (cI, 378, .inl out.2)), (a2, .inl (cI, 378, .inl asd)), (a3, .inl (cI, 1512, .inl sv)), (a4, .inl (cI, 120, .inl mt))] := by
  intro sz
  refine Met.ofW (cc := cX6_passesTurn) (maxL := 3) (ret := (some .int)) (by decide) rfl ?_
  intro p e s m args below meth c s₁ B hml hv
  obtain ⟨rfl, hsz, hP, hK, hD0⟩ := hv
  have hx := B.exec
  have hb := B.bytes
  have hr := B.returns
  have hts := atoms_spec (ws := wsX6_passesTurn) B.pre
  have hown : s.vm.findClass RX6 = some m.cls := findClass_of_methodNamed B.named
  have hlocks := B.notSynchronized
  subst hsz
  have hD := hD0.self (sz := s.heap.size)
  generalize hAe : va_A [(a0, .inr (9, [.int th, .ref a1, .ref a2, .ref a3, .int sm, .ref a4, .int ln, .int nx, .int cd, .int dg, .int pw, .long hs])), (a1, .inl (cI, 378, .inl sa)), (a2, .inl (cI, 378, .inl asd)), (a3, .inl (cI, 1512, .inl sv)), (a4, .inl (cI, 120, .inl mt))] s.heap.size = A at hD ⊢
  have hA : ∀ q : Nat, s.heap.size ≤ q → A q := fun q h => by rw [← hAe]; exact Or.inr h
  have hS : va_S A s.heap s.heap [] := va_S.rf
  have hw0 := hts (.fieldLink RX6 7 "SpeedTurnsModel" "s" "[I") (List.mem_of_getElem? (i := 1) rfl)
  have hin6 : ∀ w ∈ u_ws RX6 TX6 12, w ∈ wsX6_passesTurn := by decide +kernel
  show W p l e ({ frames := 6, cells := 0, slots := 0, locals := 137 } : Room) s m _ below meth c s.heap [] 0 0 _ _
  refine W_genQ (fun Q hQ => ?_)
  have h := hf
  rw [fX6_passesTurn] at h
  have hl := lv_entry ([.ref a0]) (n := 3) (Nat.le_of_ble_eq_true rfl)
  rw [lg_entry_eq]
  generalize (lg_sl ([.ref a0]) ++ List.replicate (3 - (lg_sl ([.ref a0])).length) Slot.unset).toArray = ls at hl ⊢
  have hl : lv_has ls 3 [(0, .ref a0)] := hl
  refine lv_aload_n hx hb dX6_passesTurn_0 rfl (lv_at hl 0 rfl) ?_
  obtain ⟨x1, ex1, h⟩ := o_b h
  refine call_iV (As := []) (rest := []) (ws2 := [(a0, .inr (9, [.int th, .ref a1, .ref a2, .ref a3, .int sm, .ref a4, .int ln, .int nx, .int cd, .int dg, .int pw, .long hs])), (a1, .inl (cI, 378, .inl x1.2)), (a2, .inl (cI, 378, .inl asd)), (a3, .inl (cI, 1512, .inl sv)), (a4, .inl (cI, 120, .inl mt))]) ⟨hx, hb, hml, hown, hts⟩ (cX6_begins_ok l G cI cG a0 a1 a2 a3 a4 fu th sa asd sv sm mt ln nx cd dg pw hs x1 ex1) (cwV 0 hts gX6_passesTurn_X6_begins rfl rfl rfl hdX6_begins ⟨Nat.le_of_ble_eq_true rfl, Nat.le_of_ble_eq_true rfl⟩) hP hD hS hA hK 9 rfl rfl rfl [0, 1, 2, 3, 4] rfl rfl rfl rfl rfl rfl rfl rfl hl.1 (Nat.le_of_ble_eq_true rfl) dX6_passesTurn_1 ⟨Nat.zero_le _, Nat.zero_le _⟩ (fun H locs hP hD hS => ?_)
  refine lv_istore_n (lv' := [(1, .int x1.1), (0, .ref a0)]) hx hb dX6_passesTurn_4 rfl hl (by decide) rfl (fun ls hl => ?_)
  refine lv_aload_n hx hb dX6_passesTurn_5 rfl (lv_at hl 1 rfl) ?_
  refine va_get (D := G) (ci := 9) (v := .ref a1) (C := RX6) (T := TX6) (N := 12) hx hb hts hin6 hown hK.1 hP 0 rfl rfl 1 (by decide) hw0 (fun _ h9 => h9) rfl dX6_passesTurn_6 ?_
  refine lv_iconst (v := 4) hx hb dX6_passesTurn_9 (by decide) ?_
  obtain ⟨hin, h⟩ := o_g h
  refine va_iald hx hb hK.1 hP 1 0 rfl rfl hin dX6_passesTurn_10 ?_
  refine lv_iconst (v := (-1)) hx hb dX6_passesTurn_11 (by decide) ?_
  refine lv_icmp_eq (tgt := 40) hx hb dX6_passesTurn_12 (by decide) (fun hc => ?_) (fun hc => ?_)
  · have h := o_t h hc
    refine lv_iload_n hx hb dX6_passesTurn_40 rfl (lv_at hl 0 rfl) ?_
    obtain rfl := o_s h
    rw [hQ]
    exact end_i hx hb hr rfl hP hD hS dX6_passesTurn_41 hlocks
  · have h := o_f h hc
    refine lv_aload_n hx hb dX6_passesTurn_15 rfl (lv_at hl 1 rfl) ?_
    obtain ⟨x2, ex2, h⟩ := o_b h
    refine call_iV (As := []) (rest := []) (ws2 := [(a0, .inr (9, [.int th, .ref a1, .ref a2, .ref a3, .int sm, .ref a4, .int ln, .int nx, .int cd, .int dg, .int pw, .long hs])), (a1, .inl (cI, 378, .inl x2.2)), (a2, .inl (cI, 378, .inl asd)), (a3, .inl (cI, 1512, .inl sv)), (a4, .inl (cI, 120, .inl mt))]) ⟨hx, hb, hml, hown, hts⟩ (cX6_ends_ok l G cI cG a0 a1 a2 a3 a4 fu th x1.2 asd sv sm mt ln nx cd dg pw hs x2 ex2) (cwV 0 hts gX6_passesTurn_X6_ends rfl rfl rfl hdX6_ends ⟨Nat.le_of_ble_eq_true rfl, Nat.le_of_ble_eq_true rfl⟩) hP hD hS hA hK 9 rfl rfl rfl [0, 1, 2, 3, 4] rfl rfl rfl rfl rfl rfl rfl rfl hl.1 (Nat.le_of_ble_eq_true rfl) dX6_passesTurn_16 ⟨Nat.zero_le _, Nat.zero_le _⟩ (fun H locs hP hD hS => ?_)
    refine lv_istore_n (lv' := [(2, .int x2.1), (1, .int x1.1), (0, .ref a0)]) hx hb dX6_passesTurn_19 rfl hl (by decide) rfl (fun ls hl => ?_)
    refine lv_aload_n hx hb dX6_passesTurn_20 rfl (lv_at hl 2 rfl) ?_
    refine va_get (D := G) (ci := 9) (v := .ref a1) (C := RX6) (T := TX6) (N := 12) hx hb hts hin6 hown hK.1 hP 0 rfl rfl 1 (by decide) hw0 (fun _ h9 => h9) rfl dX6_passesTurn_21 ?_
    refine lv_iconst (v := 4) hx hb dX6_passesTurn_24 (by decide) ?_
    refine lv_iload_n hx hb dX6_passesTurn_25 rfl (lv_at hl 0 rfl) ?_
    refine lv_if_ge (tgt := 38) hx hb dX6_passesTurn_26 (by decide) (fun hc => ?_) (fun hc => ?_)
    · have h := o_t h hc
      refine lv_iconst (v := (-1)) hx hb dX6_passesTurn_38 (by decide) ?_
      obtain ⟨hin, h⟩ := o_g h
      refine va_iast hx hb hK.1 hP hD hS 1 0 rfl rfl hin dX6_passesTurn_39 (fun H locs hP hD hS => ?_)
      have hP : va_P G vwCl [(a0, .inr (9, [.int th, .ref a1, .ref a2, .ref a3, .int sm, .ref a4, .int ln, .int nx, .int cd, .int dg, .int pw, .long hs])), (a1, .inl (cI, 378, .inl (upd x2.2 ((4 : Int32)).toNatClampNeg (-1 : Int32)))), (a2, .inl (cI, 378, .inl asd)), (a3, .inl (cI, 1512, .inl sv)), (a4, .inl (cI, 120, .inl mt))] H := hP
      have hD : va_D A [(a0, .inr (9, [.int th, .ref a1, .ref a2, .ref a3, .int sm, .ref a4, .int ln, .int nx, .int cd, .int dg, .int pw, .long hs])), (a1, .inl (cI, 378, .inl (upd x2.2 ((4 : Int32)).toNatClampNeg (-1 : Int32)))), (a2, .inl (cI, 378, .inl asd)), (a3, .inl (cI, 1512, .inl sv)), (a4, .inl (cI, 120, .inl mt))] := hD
      refine lv_iload_n hx hb dX6_passesTurn_40 rfl (lv_at hl 1 rfl) ?_
      obtain rfl := o_s h
      rw [hQ]
      exact end_i hx hb hr rfl hP hD hS dX6_passesTurn_41 hlocks
    · have h := o_f h hc
      refine lv_aload_n hx hb dX6_passesTurn_29 rfl (lv_at hl 2 rfl) ?_
      refine va_get (D := G) (ci := 9) (v := .ref a1) (C := RX6) (T := TX6) (N := 12) hx hb hts hin6 hown hK.1 hP 0 rfl rfl 1 (by decide) hw0 (fun _ h9 => h9) rfl dX6_passesTurn_30 ?_
      refine lv_iconst (v := 4) hx hb dX6_passesTurn_33 (by decide) ?_
      obtain ⟨hin, h⟩ := o_g h
      refine va_iald hx hb hK.1 hP 1 0 rfl rfl hin dX6_passesTurn_34 ?_
      refine lv_goto (tgt := 39) hx hb dX6_passesTurn_35 (by decide) ?_
      obtain ⟨hin, h⟩ := o_g h
      refine va_iast hx hb hK.1 hP hD hS 1 0 rfl rfl hin dX6_passesTurn_39 (fun H locs hP hD hS => ?_)
      have hP : va_P G vwCl [(a0, .inr (9, [.int th, .ref a1, .ref a2, .ref a3, .int sm, .ref a4, .int ln, .int nx, .int cd, .int dg, .int pw, .long hs])), (a1, .inl (cI, 378, .inl (upd x2.2 ((4 : Int32)).toNatClampNeg (x2.2 ((4 : Int32)).toNatClampNeg)))), (a2, .inl (cI, 378, .inl asd)), (a3, .inl (cI, 1512, .inl sv)), (a4, .inl (cI, 120, .inl mt))] H := hP
      have hD : va_D A [(a0, .inr (9, [.int th, .ref a1, .ref a2, .ref a3, .int sm, .ref a4, .int ln, .int nx, .int cd, .int dg, .int pw, .long hs])), (a1, .inl (cI, 378, .inl (upd x2.2 ((4 : Int32)).toNatClampNeg (x2.2 ((4 : Int32)).toNatClampNeg)))), (a2, .inl (cI, 378, .inl asd)), (a3, .inl (cI, 1512, .inl sv)), (a4, .inl (cI, 120, .inl mt))] := hD
      refine lv_iload_n hx hb dX6_passesTurn_40 rfl (lv_at hl 1 rfl) ?_
      obtain rfl := o_s h
      rw [hQ]
      exact end_i hx hb hr rfl hP hD hS dX6_passesTurn_41 hlocks
theorem hdX6_upcoming : yX6_upcoming.cls = RX6 ∧ yX6_upcoming.cls ≠ "java/lang/invoke/MethodHandle" ∧ yX6_upcoming.cls ≠ "java/lang/invoke/VarHandle" ∧ (parseMethodDescriptor yX6_upcoming.desc).map (fun d => d.parameters.length) = some 1 := by decide +kernel
set_option maxHeartbeats 4000000 in
set_option maxRecDepth 100000 in
theorem cX6_upcoming_ok (l : Launch) (G : va_G) (cI cG : ClassId) (a0 a1 a2 a3 a4 : Nat) (fu : Nat) (th : Int32) (sa : (Nat → Int32)) (asd : (Nat → Int32)) (sv : (Nat → Int32)) (sm : Int32) (mt : (Nat → Int32)) (ln : Int32) (nx : Int32) (cd : Int32) (dg : Int32) (pw : Int32) (hs : Int64) (p1 : Int32) (out : Int32 × Int32 × (Nat → Int32) × (Nat → Int32)) (hf : fX6_upcoming fu th sa asd p1 = some out) : CI l G (tyz cI cG) yX6_upcoming wsX6_upcoming ({ frames := 7, cells := 0, slots := 0, locals := 159 } : Room) [.ref a0, .int p1] [(a0, .inr (9, [.int th, .ref a1, .ref a2, .ref a3, .int sm, .ref a4, .int ln, .int nx, .int cd, .int dg, .int pw, .long hs])), (a1, .inl (cI, 378, .inl sa)), (a2, .inl (cI, 378, .inl asd)), (a3, .inl (cI, 1512, .inl sv)), (a4, .inl (cI, 120, .inl mt))] out.1 [(a0, .inr (9, [.int out.2.1, .ref a1, .ref a2, .ref a3, .int sm, .ref a4, .int ln, .int nx, .int cd, .int dg, .int pw, .long hs])), (a1, .inl (cI, 378, .inl out.2.2.1)), (a2, .inl (cI, 378, .inl out.2.2.2)), (a3, .inl (cI, 1512, .inl sv)), (a4, .inl (cI, 120, .inl mt))] := by
  intro sz
  refine Met.ofW (cc := cX6_upcoming) (maxL := 4) (ret := (some .int)) (by decide) rfl ?_
  intro p e s m args below meth c s₁ B hml hv
  obtain ⟨rfl, hsz, hP, hK, hD0⟩ := hv
  have hx := B.exec
  have hb := B.bytes
  have hr := B.returns
  have hts := atoms_spec (ws := wsX6_upcoming) B.pre
  have hown : s.vm.findClass RX6 = some m.cls := findClass_of_methodNamed B.named
  have hlocks := B.notSynchronized
  subst hsz
  have hD := hD0.self (sz := s.heap.size)
  generalize hAe : va_A [(a0, .inr (9, [.int th, .ref a1, .ref a2, .ref a3, .int sm, .ref a4, .int ln, .int nx, .int cd, .int dg, .int pw, .long hs])), (a1, .inl (cI, 378, .inl sa)), (a2, .inl (cI, 378, .inl asd)), (a3, .inl (cI, 1512, .inl sv)), (a4, .inl (cI, 120, .inl mt))] s.heap.size = A at hD ⊢
  have hA : ∀ q : Nat, s.heap.size ≤ q → A q := fun q h => by rw [← hAe]; exact Or.inr h
  have hS : va_S A s.heap s.heap [] := va_S.rf
  have hw0 := hts (.fieldLink RX6 22 "SpeedTurnsModel" "thrown" "I") (List.mem_of_getElem? (i := 1) rfl)
  have hin6 : ∀ w ∈ u_ws RX6 TX6 12, w ∈ wsX6_upcoming := by decide +kernel
  show W p l e ({ frames := 7, cells := 0, slots := 0, locals := 159 } : Room) s m _ below meth c s.heap [] 0 0 _ _
  refine W_genQ (fun Q hQ => ?_)
  have L36 : ∀ (k : Nat) (th : Int32) (sa : (Nat → Int32)) (asd : (Nat → Int32)) (v2 : Int32) (v3 : Int32) (H : Heap) (locs : List Loc) (ls : Array Slot), fX6_upcoming_L36 fu p1 k th sa asd v2 v3 = some out → va_P G vwCl [(a0, .inr (9, [.int th, .ref a1, .ref a2, .ref a3, .int sm, .ref a4, .int ln, .int nx, .int cd, .int dg, .int pw, .long hs])), (a1, .inl (cI, 378, .inl sa)), (a2, .inl (cI, 378, .inl asd)), (a3, .inl (cI, 1512, .inl sv)), (a4, .inl (cI, 120, .inl mt))] H → va_D A [(a0, .inr (9, [.int th, .ref a1, .ref a2, .ref a3, .int sm, .ref a4, .int ln, .int nx, .int cd, .int dg, .int pw, .long hs])), (a1, .inl (cI, 378, .inl sa)), (a2, .inl (cI, 378, .inl asd)), (a3, .inl (cI, 1512, .inl sv)), (a4, .inl (cI, 120, .inl mt))] → va_S A s.heap H locs → lv_has ls 4 [(0, .ref a0), (1, .int p1), (2, .int v2), (3, .int v3)] → W p l e ({ frames := 7, cells := 0, slots := 0, locals := 159 } : Room) s m ([.ref a0, .int p1] : List Value).toArray below meth c H locs 0 0 Q (F0 m 36 ls []) := by
    intro k
    induction k with
    | zero => intro th sa asd v2 v3 H locs ls h hP hD hS hl; rw [fX6_upcoming_L36] at h; exact o_n h
    | succ k ih =>
      intro th sa asd v2 v3 H locs ls h hP hD hS hl
      rw [fX6_upcoming_L36] at h
      refine lv_iload_n hx hb dX6_upcoming_36 rfl (lv_at hl 3 rfl) ?_
      refine lv_iload_n hx hb dX6_upcoming_37 rfl (lv_at hl 1 rfl) ?_
      refine lv_icmp_ge (tgt := 57) hx hb dX6_upcoming_38 (by decide) (fun hc => ?_) (fun hc => ?_)
      · have h := o_t h hc
        refine lv_aload_n hx hb dX6_upcoming_57 rfl (lv_at hl 0 rfl) ?_
        obtain ⟨x5, ex5, h⟩ := o_b h
        refine call_vV (As := []) (rest := []) (ws2 := [(a0, .inr (9, [.int th, .ref a1, .ref a2, .ref a3, .int sm, .ref a4, .int ln, .int nx, .int cd, .int dg, .int pw, .long hs])), (a1, .inl (cI, 378, .inl x5)), (a2, .inl (cI, 378, .inl asd)), (a3, .inl (cI, 1512, .inl sv)), (a4, .inl (cI, 120, .inl mt))]) ⟨hx, hb, hml, hown, hts⟩ (cX6_release_ok l G cI cG a0 a1 a2 a3 a4 fu th sa asd sv sm mt ln nx cd dg pw hs x5 ex5) (cwV 0 hts gX6_upcoming_X6_release rfl rfl rfl hdX6_release ⟨Nat.le_of_ble_eq_true rfl, Nat.le_of_ble_eq_true rfl⟩) hP hD hS hA hK 9 rfl rfl rfl [0, 1, 2, 3, 4] rfl rfl rfl rfl rfl rfl rfl rfl hl.1 (Nat.le_of_ble_eq_true rfl) dX6_upcoming_58 ⟨Nat.zero_le _, Nat.zero_le _⟩ (fun H locs hP hD hS => ?_)
        refine lv_iload_n hx hb dX6_upcoming_61 rfl (lv_at hl 2 rfl) ?_
        obtain rfl := o_s h
        rw [hQ]
        exact end_i hx hb hr rfl hP hD hS dX6_upcoming_62 hlocks
      · have h := o_f h hc
        refine lv_iload_n hx hb dX6_upcoming_41 rfl (lv_at hl 2 rfl) ?_
        refine lv_iconst (v := (-1)) hx hb dX6_upcoming_42 (by decide) ?_
        refine lv_icmp_eq (tgt := 57) hx hb dX6_upcoming_43 (by decide) (fun hc => ?_) (fun hc => ?_)
        · have h := o_t h hc
          refine lv_aload_n hx hb dX6_upcoming_57 rfl (lv_at hl 0 rfl) ?_
          obtain ⟨x6, ex6, h⟩ := o_b h
          refine call_vV (As := []) (rest := []) (ws2 := [(a0, .inr (9, [.int th, .ref a1, .ref a2, .ref a3, .int sm, .ref a4, .int ln, .int nx, .int cd, .int dg, .int pw, .long hs])), (a1, .inl (cI, 378, .inl x6)), (a2, .inl (cI, 378, .inl asd)), (a3, .inl (cI, 1512, .inl sv)), (a4, .inl (cI, 120, .inl mt))]) ⟨hx, hb, hml, hown, hts⟩ (cX6_release_ok l G cI cG a0 a1 a2 a3 a4 fu th sa asd sv sm mt ln nx cd dg pw hs x6 ex6) (cwV 0 hts gX6_upcoming_X6_release rfl rfl rfl hdX6_release ⟨Nat.le_of_ble_eq_true rfl, Nat.le_of_ble_eq_true rfl⟩) hP hD hS hA hK 9 rfl rfl rfl [0, 1, 2, 3, 4] rfl rfl rfl rfl rfl rfl rfl rfl hl.1 (Nat.le_of_ble_eq_true rfl) dX6_upcoming_58 ⟨Nat.zero_le _, Nat.zero_le _⟩ (fun H locs hP hD hS => ?_)
          refine lv_iload_n hx hb dX6_upcoming_61 rfl (lv_at hl 2 rfl) ?_
          obtain rfl := o_s h
          rw [hQ]
          exact end_i hx hb hr rfl hP hD hS dX6_upcoming_62 hlocks
        · have h := o_f h hc
          refine lv_aload_n hx hb dX6_upcoming_46 rfl (lv_at hl 0 rfl) ?_
          obtain ⟨x7, ex7, h⟩ := o_b h
          refine call_iV (As := []) (rest := []) (ws2 := [(a0, .inr (9, [.int th, .ref a1, .ref a2, .ref a3, .int sm, .ref a4, .int ln, .int nx, .int cd, .int dg, .int pw, .long hs])), (a1, .inl (cI, 378, .inl x7.2)), (a2, .inl (cI, 378, .inl asd)), (a3, .inl (cI, 1512, .inl sv)), (a4, .inl (cI, 120, .inl mt))]) ⟨hx, hb, hml, hown, hts⟩ (cX6_passesTurn_ok l G cI cG a0 a1 a2 a3 a4 fu th sa asd sv sm mt ln nx cd dg pw hs x7 ex7) (cwV 0 hts gX6_upcoming_X6_passesTurn rfl rfl rfl hdX6_passesTurn ⟨Nat.le_of_ble_eq_true rfl, Nat.le_of_ble_eq_true rfl⟩) hP hD hS hA hK 9 rfl rfl rfl [0, 1, 2, 3, 4] rfl rfl rfl rfl rfl rfl rfl rfl hl.1 (Nat.le_of_ble_eq_true rfl) dX6_upcoming_47 ⟨Nat.zero_le _, Nat.zero_le _⟩ (fun H locs hP hD hS => ?_)
          refine lv_istore_n (lv' := [(2, .int x7.1), (0, .ref a0), (1, .int p1), (3, .int v3)]) hx hb dX6_upcoming_50 rfl hl (by decide) rfl (fun ls hl => ?_)
          refine lv_iinc (v := (v3 + 1)) (lv' := [(3, .int (v3 + 1)), (2, .int x7.1), (0, .ref a0), (1, .int p1)]) hx hb dX6_upcoming_51 hl (k := 3) rfl rfl (by decide) rfl (fun ls hl => ?_)
          refine lv_goto (tgt := 36) hx hb dX6_upcoming_54 (by decide) ?_
          exact ih th x7.2 asd x7.1 (v3 + 1) _ _ _ h hP hD hS (lv_sub hl [2, 3, 1, 0] rfl)
  have h := hf
  rw [fX6_upcoming] at h
  have hl := lv_entry ([.ref a0, .int p1]) (n := 4) (Nat.le_of_ble_eq_true rfl)
  rw [lg_entry_eq]
  generalize (lg_sl ([.ref a0, .int p1]) ++ List.replicate (4 - (lg_sl ([.ref a0, .int p1])).length) Slot.unset).toArray = ls at hl ⊢
  have hl : lv_has ls 4 [(0, .ref a0), (1, .int p1)] := hl
  refine lv_aload_n hx hb dX6_upcoming_0 rfl (lv_at hl 0 rfl) ?_
  refine lv_iconst (v := 0) hx hb dX6_upcoming_1 (by decide) ?_
  refine va_put (D := G) (ci := 9) (v := .int (0 : Int32)) (ty := .int) (C := RX6) (T := TX6) (N := 12) hx hb hts hin6 tyX6 tyX6_ok nmX6 hown hK.1 hP hD hS 0 rfl rfl 0 (by decide) hw0 (fun _ h9 => h9) rfl (by decide +kernel) rfl rfl (Nat.le_of_ble_eq_true rfl) dX6_upcoming_2 (fun H locs hP hD hS => ?_)
  have hP : va_P G vwCl [(a0, .inr (9, [.int (0 : Int32), .ref a1, .ref a2, .ref a3, .int sm, .ref a4, .int ln, .int nx, .int cd, .int dg, .int pw, .long hs])), (a1, .inl (cI, 378, .inl sa)), (a2, .inl (cI, 378, .inl asd)), (a3, .inl (cI, 1512, .inl sv)), (a4, .inl (cI, 120, .inl mt))] H := hP
  have hD : va_D A [(a0, .inr (9, [.int (0 : Int32), .ref a1, .ref a2, .ref a3, .int sm, .ref a4, .int ln, .int nx, .int cd, .int dg, .int pw, .long hs])), (a1, .inl (cI, 378, .inl sa)), (a2, .inl (cI, 378, .inl asd)), (a3, .inl (cI, 1512, .inl sv)), (a4, .inl (cI, 120, .inl mt))] := hD
  refine lv_iload_n hx hb dX6_upcoming_5 rfl (lv_at hl 1 rfl) ?_
  refine lv_iconst (v := 0) hx hb dX6_upcoming_6 (by decide) ?_
  refine lv_bipush (v := 40) hx hb dX6_upcoming_7 (by decide) ?_
  obtain ⟨x1, ex1, h⟩ := o_b h
  refine call_iS (As := [.int p1, .int (0 : Int32), .int (40 : Int32)]) (rest := []) (ws2 := [(a0, .inr (9, [.int (0 : Int32), .ref a1, .ref a2, .ref a3, .int sm, .ref a4, .int ln, .int nx, .int cd, .int dg, .int pw, .long hs])), (a1, .inl (cI, 378, .inl sa)), (a2, .inl (cI, 378, .inl asd)), (a3, .inl (cI, 1512, .inl sv)), (a4, .inl (cI, 120, .inl mt))]) ⟨hx, hb, hml, hown, hts⟩ (cX6_in_ok l G cI cG p1 (0 : Int32) (40 : Int32) x1 ex1) (va_cwS 3 hts gX6_upcoming_X6_in rfl rfl rfl hdX6_in ⟨Nat.le_of_ble_eq_true rfl, Nat.le_of_ble_eq_true rfl⟩) hP hD hS hA hK [] rfl rfl rfl rfl rfl rfl rfl rfl hl.1 (Nat.le_of_ble_eq_true rfl) dX6_upcoming_9 ⟨Nat.zero_le _, Nat.zero_le _⟩ (fun H locs hP hD hS => ?_)
  refine lv_if_ne (tgt := 21) hx hb dX6_upcoming_12 (by decide) (fun hc => ?_) (fun hc => ?_)
  · have h := o_f h hc
    refine lv_aload_n hx hb dX6_upcoming_21 rfl (lv_at hl 0 rfl) ?_
    obtain ⟨x2, ex2, h⟩ := o_b h
    refine call_vV (As := []) (rest := []) (ws2 := [(a0, .inr (9, [.int (0 : Int32), .ref a1, .ref a2, .ref a3, .int sm, .ref a4, .int ln, .int nx, .int cd, .int dg, .int pw, .long hs])), (a1, .inl (cI, 378, .inl sa)), (a2, .inl (cI, 378, .inl x2)), (a3, .inl (cI, 1512, .inl sv)), (a4, .inl (cI, 120, .inl mt))]) ⟨hx, hb, hml, hown, hts⟩ (cX6_hold_ok l G cI cG a0 a1 a2 a3 a4 fu (0 : Int32) sa asd sv sm mt ln nx cd dg pw hs x2 ex2) (cwV 0 hts gX6_upcoming_X6_hold rfl rfl rfl hdX6_hold ⟨Nat.le_of_ble_eq_true rfl, Nat.le_of_ble_eq_true rfl⟩) hP hD hS hA hK 9 rfl rfl rfl [0, 1, 2, 3, 4] rfl rfl rfl rfl rfl rfl rfl rfl hl.1 (Nat.le_of_ble_eq_true rfl) dX6_upcoming_22 ⟨Nat.zero_le _, Nat.zero_le _⟩ (fun H locs hP hD hS => ?_)
    refine lv_aload_n hx hb dX6_upcoming_25 rfl (lv_at hl 0 rfl) ?_
    obtain ⟨x3, ex3, h⟩ := o_b h
    refine call_vV (As := []) (rest := []) (ws2 := [(a0, .inr (9, [.int (0 : Int32), .ref a1, .ref a2, .ref a3, .int sm, .ref a4, .int ln, .int nx, .int cd, .int dg, .int pw, .long hs])), (a1, .inl (cI, 378, .inl x3)), (a2, .inl (cI, 378, .inl x2)), (a3, .inl (cI, 1512, .inl sv)), (a4, .inl (cI, 120, .inl mt))]) ⟨hx, hb, hml, hown, hts⟩ (cX6_clearTurn_ok l G cI cG a0 a1 a2 a3 a4 fu (0 : Int32) sa x2 sv sm mt ln nx cd dg pw hs x3 ex3) (cwV 0 hts gX6_upcoming_X6_clearTurn rfl rfl rfl hdX6_clearTurn ⟨Nat.le_of_ble_eq_true rfl, Nat.le_of_ble_eq_true rfl⟩) hP hD hS hA hK 9 rfl rfl rfl [0, 1, 2, 3, 4] rfl rfl rfl rfl rfl rfl rfl rfl hl.1 (Nat.le_of_ble_eq_true rfl) dX6_upcoming_26 ⟨Nat.zero_le _, Nat.zero_le _⟩ (fun H locs hP hD hS => ?_)
    refine lv_aload_n hx hb dX6_upcoming_29 rfl (lv_at hl 0 rfl) ?_
    obtain ⟨x4, ex4, h⟩ := o_b h
    refine call_iV (As := []) (rest := []) (ws2 := [(a0, .inr (9, [.int (0 : Int32), .ref a1, .ref a2, .ref a3, .int sm, .ref a4, .int ln, .int nx, .int cd, .int dg, .int pw, .long hs])), (a1, .inl (cI, 378, .inl x4.2)), (a2, .inl (cI, 378, .inl x2)), (a3, .inl (cI, 1512, .inl sv)), (a4, .inl (cI, 120, .inl mt))]) ⟨hx, hb, hml, hown, hts⟩ (cX6_passesTurn_ok l G cI cG a0 a1 a2 a3 a4 fu (0 : Int32) x3 x2 sv sm mt ln nx cd dg pw hs x4 ex4) (cwV 0 hts gX6_upcoming_X6_passesTurn rfl rfl rfl hdX6_passesTurn ⟨Nat.le_of_ble_eq_true rfl, Nat.le_of_ble_eq_true rfl⟩) hP hD hS hA hK 9 rfl rfl rfl [0, 1, 2, 3, 4] rfl rfl rfl rfl rfl rfl rfl rfl hl.1 (Nat.le_of_ble_eq_true rfl) dX6_upcoming_30 ⟨Nat.zero_le _, Nat.zero_le _⟩ (fun H locs hP hD hS => ?_)
    refine lv_istore_n (lv' := [(2, .int x4.1), (0, .ref a0), (1, .int p1)]) hx hb dX6_upcoming_33 rfl hl (by decide) rfl (fun ls hl => ?_)
    refine lv_iconst (v := 0) hx hb dX6_upcoming_34 (by decide) ?_
    refine lv_istore_n (lv' := [(3, .int (0 : Int32)), (2, .int x4.1), (0, .ref a0), (1, .int p1)]) hx hb dX6_upcoming_35 rfl hl (by decide) rfl (fun ls hl => ?_)
    exact L36 fu (0 : Int32) x4.2 x2 x4.1 (0 : Int32) _ _ _ h hP hD hS (lv_sub hl [2, 3, 1, 0] rfl)
  · have h := o_t h hc
    refine lv_aload_n hx hb dX6_upcoming_15 rfl (lv_at hl 0 rfl) ?_
    refine lv_iconst (v := 1) hx hb dX6_upcoming_16 (by decide) ?_
    obtain ⟨x8, ex8, h⟩ := o_b h
    refine call_iV (As := [.int (1 : Int32)]) (rest := []) (ws2 := [(a0, .inr (9, [.int x8.2, .ref a1, .ref a2, .ref a3, .int sm, .ref a4, .int ln, .int nx, .int cd, .int dg, .int pw, .long hs])), (a1, .inl (cI, 378, .inl sa)), (a2, .inl (cI, 378, .inl asd)), (a3, .inl (cI, 1512, .inl sv)), (a4, .inl (cI, 120, .inl mt))]) ⟨hx, hb, hml, hown, hts⟩ (cX6_fails_ok l G cI cG a0 a1 a2 a3 a4 (0 : Int32) sa asd sv sm mt ln nx cd dg pw hs (1 : Int32) x8 ex8) (cwV 1 hts gX6_upcoming_X6_fails rfl rfl rfl hdX6_fails ⟨Nat.le_of_ble_eq_true rfl, Nat.le_of_ble_eq_true rfl⟩) hP hD hS hA hK 9 rfl rfl rfl [0, 1, 2, 3, 4] rfl rfl rfl rfl rfl rfl rfl rfl hl.1 (Nat.le_of_ble_eq_true rfl) dX6_upcoming_17 ⟨Nat.zero_le _, Nat.zero_le _⟩ (fun H locs hP hD hS => ?_)
    obtain rfl := o_s h
    rw [hQ]
    exact end_i hx hb hr rfl hP hD hS dX6_upcoming_20 hlocks
theorem hdX6_isThere : yX6_isThere.cls = RX6 ∧ yX6_isThere.cls ≠ "java/lang/invoke/MethodHandle" ∧ yX6_isThere.cls ≠ "java/lang/invoke/VarHandle" ∧ (parseMethodDescriptor yX6_isThere.desc).map (fun d => d.parameters.length) = some 1 := by decide +kernel
set_option maxHeartbeats 4000000 in
set_option maxRecDepth 100000 in
theorem cX6_isThere_ok (l : Launch) (G : va_G) (cI cG : ClassId) (a0 a1 a2 a3 a4 : Nat) (fu : Nat) (th : Int32) (sa : (Nat → Int32)) (asd : (Nat → Int32)) (sv : (Nat → Int32)) (sm : Int32) (mt : (Nat → Int32)) (ln : Int32) (nx : Int32) (cd : Int32) (dg : Int32) (pw : Int32) (hs : Int64) (p1 : Int32) (out : Bool) (hf : fX6_isThere fu sa p1 = some out) : CI l G (tyz cI cG) yX6_isThere wsX6_isThere ({ frames := 1, cells := 0, slots := 0, locals := 22 } : Room) [.ref a0, .int p1] [(a0, .inr (9, [.int th, .ref a1, .ref a2, .ref a3, .int sm, .ref a4, .int ln, .int nx, .int cd, .int dg, .int pw, .long hs])), (a1, .inl (cI, 378, .inl sa)), (a2, .inl (cI, 378, .inl asd)), (a3, .inl (cI, 1512, .inl sv)), (a4, .inl (cI, 120, .inl mt))] (bI out) [(a0, .inr (9, [.int th, .ref a1, .ref a2, .ref a3, .int sm, .ref a4, .int ln, .int nx, .int cd, .int dg, .int pw, .long hs])), (a1, .inl (cI, 378, .inl sa)), (a2, .inl (cI, 378, .inl asd)), (a3, .inl (cI, 1512, .inl sv)), (a4, .inl (cI, 120, .inl mt))] := by
  intro sz
  refine Met.ofW (cc := cX6_isThere) (maxL := 4) (ret := (some .boolean)) (by decide) rfl ?_
  intro p e s m args below meth c s₁ B hml hv
  obtain ⟨rfl, hsz, hP, hK, hD0⟩ := hv
  have hx := B.exec
  have hb := B.bytes
  have hr := B.returns
  have hts := atoms_spec (ws := wsX6_isThere) B.pre
  have hown : s.vm.findClass RX6 = some m.cls := findClass_of_methodNamed B.named
  have hlocks := B.notSynchronized
  subst hsz
  have hD := hD0.self (sz := s.heap.size)
  generalize hAe : va_A [(a0, .inr (9, [.int th, .ref a1, .ref a2, .ref a3, .int sm, .ref a4, .int ln, .int nx, .int cd, .int dg, .int pw, .long hs])), (a1, .inl (cI, 378, .inl sa)), (a2, .inl (cI, 378, .inl asd)), (a3, .inl (cI, 1512, .inl sv)), (a4, .inl (cI, 120, .inl mt))] s.heap.size = A at hD ⊢
  have hA : ∀ q : Nat, s.heap.size ≤ q → A q := fun q h => by rw [← hAe]; exact Or.inr h
  have hS : va_S A s.heap s.heap [] := va_S.rf
  have hw0 := hts (.fieldLink RX6 7 "SpeedTurnsModel" "s" "[I") (List.mem_of_getElem? (i := 1) rfl)
  have hin6 : ∀ w ∈ u_ws RX6 TX6 12, w ∈ wsX6_isThere := by decide +kernel
  show W p l e ({ frames := 1, cells := 0, slots := 0, locals := 22 } : Room) s m _ below meth c s.heap [] 0 0 _ _
  refine W_genQ (fun Q hQ => ?_)
  have L4 : ∀ (k : Nat) (v2 : Bool) (v3 : Int32) (H : Heap) (locs : List Loc) (ls : Array Slot), fX6_isThere_L4 fu sa p1 k v2 v3 = some out → va_P G vwCl [(a0, .inr (9, [.int th, .ref a1, .ref a2, .ref a3, .int sm, .ref a4, .int ln, .int nx, .int cd, .int dg, .int pw, .long hs])), (a1, .inl (cI, 378, .inl sa)), (a2, .inl (cI, 378, .inl asd)), (a3, .inl (cI, 1512, .inl sv)), (a4, .inl (cI, 120, .inl mt))] H → va_D A [(a0, .inr (9, [.int th, .ref a1, .ref a2, .ref a3, .int sm, .ref a4, .int ln, .int nx, .int cd, .int dg, .int pw, .long hs])), (a1, .inl (cI, 378, .inl sa)), (a2, .inl (cI, 378, .inl asd)), (a3, .inl (cI, 1512, .inl sv)), (a4, .inl (cI, 120, .inl mt))] → va_S A s.heap H locs → lv_has ls 4 [(0, .ref a0), (1, .int p1), (2, .int (bI v2)), (3, .int v3)] → W p l e ({ frames := 1, cells := 0, slots := 0, locals := 22 } : Room) s m ([.ref a0, .int p1] : List Value).toArray below meth c H locs 0 0 Q (F0 m 4 ls []) := by
    intro k
    induction k with
    | zero => intro v2 v3 H locs ls h hP hD hS hl; rw [fX6_isThere_L4] at h; exact o_n h
    | succ k ih =>
      intro v2 v3 H locs ls h hP hD hS hl
      rw [fX6_isThere_L4] at h
      refine lv_iload_n hx hb dX6_isThere_4 rfl (lv_at hl 3 rfl) ?_
      refine lv_aload_n hx hb dX6_isThere_5 rfl (lv_at hl 0 rfl) ?_
      refine va_get (D := G) (ci := 9) (v := .ref a1) (C := RX6) (T := TX6) (N := 12) hx hb hts hin6 hown hK.1 hP 0 rfl rfl 1 (by decide) hw0 (fun _ h9 => h9) rfl dX6_isThere_6 ?_
      refine lv_iconst (v := 1) hx hb dX6_isThere_9 (by decide) ?_
      obtain ⟨hin, h⟩ := o_g h
      refine va_iald hx hb hK.1 hP 1 0 rfl rfl hin dX6_isThere_10 ?_
      refine lv_icmp_ge (tgt := 41) hx hb dX6_isThere_11 (by decide) (fun hc => ?_) (fun hc => ?_)
      · have h := o_t h hc
        refine lv_iload_n hx hb dX6_isThere_41 rfl (lv_at hl 2 rfl) ?_
        obtain rfl := o_s h
        rw [hQ]
        exact end_z hx hb hr rfl (bI_n _) hP hD hS dX6_isThere_42 hlocks
      · have h := o_f h hc
        refine lv_iload_n hx hb dX6_isThere_14 rfl (lv_at hl 2 rfl) ?_
        refine lv_if_ne (tgt := 29) hx hb dX6_isThere_15 (by decide) (fun hc => ?_) (fun hc => ?_)
        · have h := o_f h hc
          refine lv_iconst (v := 1) hx hb dX6_isThere_29 (by decide) ?_
          refine lv_goto (tgt := 34) hx hb dX6_isThere_30 (by decide) ?_
          refine lv_istore_n (lv' := [(2, .int (1 : Int32)), (0, .ref a0), (1, .int p1), (3, .int v3)]) hx hb dX6_isThere_34 rfl hl (by decide) rfl (fun ls hl => ?_)
          refine lv_iinc (v := (v3 + 1)) (lv' := [(3, .int (v3 + 1)), (2, .int (1 : Int32)), (0, .ref a0), (1, .int p1)]) hx hb dX6_isThere_35 hl (k := 3) rfl rfl (by decide) rfl (fun ls hl => ?_)
          refine lv_goto (tgt := 4) hx hb dX6_isThere_38 (by decide) ?_
          exact ih true (v3 + 1) _ _ _ h hP hD hS (lv_sub hl [2, 3, 1, 0] rfl)
        · have h := o_t h hc
          refine lv_aload_n hx hb dX6_isThere_18 rfl (lv_at hl 0 rfl) ?_
          refine lv_iload_n hx hb dX6_isThere_19 rfl (lv_at hl 3 rfl) ?_
          refine lv_bipush (v := 7) hx hb dX6_isThere_20 (by decide) ?_
          obtain ⟨x1, ex1, h⟩ := o_b h
          refine call_iV (As := [.int v3, .int (7 : Int32)]) (rest := []) (ws2 := [(a0, .inr (9, [.int th, .ref a1, .ref a2, .ref a3, .int sm, .ref a4, .int ln, .int nx, .int cd, .int dg, .int pw, .long hs])), (a1, .inl (cI, 378, .inl sa)), (a2, .inl (cI, 378, .inl asd)), (a3, .inl (cI, 1512, .inl sv)), (a4, .inl (cI, 120, .inl mt))]) ⟨hx, hb, hml, hown, hts⟩ (cX6_ofEffect_ok l G cI cG a0 a1 a2 a3 a4 th sa asd sv sm mt ln nx cd dg pw hs v3 (7 : Int32) x1 ex1) (cwV 2 hts gX6_isThere_X6_ofEffect rfl rfl rfl hdX6_ofEffect ⟨Nat.le_of_ble_eq_true rfl, Nat.le_of_ble_eq_true rfl⟩) hP hD hS hA hK 9 rfl rfl rfl [0, 1, 2, 3, 4] rfl rfl rfl rfl rfl rfl rfl rfl hl.1 (Nat.le_of_ble_eq_true rfl) dX6_isThere_22 ⟨Nat.zero_le _, Nat.zero_le _⟩ (fun H locs hP hD hS => ?_)
          refine lv_iload_n hx hb dX6_isThere_25 rfl (lv_at hl 1 rfl) ?_
          refine lv_icmp_ne (tgt := 33) hx hb dX6_isThere_26 (by decide) (fun hc => ?_) (fun hc => ?_)
          · have h := o_f h hc
            refine lv_iconst (v := 0) hx hb dX6_isThere_33 (by decide) ?_
            refine lv_istore_n (lv' := [(2, .int (0 : Int32)), (0, .ref a0), (1, .int p1), (3, .int v3)]) hx hb dX6_isThere_34 rfl hl (by decide) rfl (fun ls hl => ?_)
            refine lv_iinc (v := (v3 + 1)) (lv' := [(3, .int (v3 + 1)), (2, .int (0 : Int32)), (0, .ref a0), (1, .int p1)]) hx hb dX6_isThere_35 hl (k := 3) rfl rfl (by decide) rfl (fun ls hl => ?_)
            refine lv_goto (tgt := 4) hx hb dX6_isThere_38 (by decide) ?_
            exact ih false (v3 + 1) _ _ _ h hP hD hS (lv_sub hl [2, 3, 1, 0] rfl)
          · have h := o_t h hc
            refine lv_iconst (v := 1) hx hb dX6_isThere_29 (by decide) ?_
            refine lv_goto (tgt := 34) hx hb dX6_isThere_30 (by decide) ?_
            refine lv_istore_n (lv' := [(2, .int (1 : Int32)), (0, .ref a0), (1, .int p1), (3, .int v3)]) hx hb dX6_isThere_34 rfl hl (by decide) rfl (fun ls hl => ?_)
            refine lv_iinc (v := (v3 + 1)) (lv' := [(3, .int (v3 + 1)), (2, .int (1 : Int32)), (0, .ref a0), (1, .int p1)]) hx hb dX6_isThere_35 hl (k := 3) rfl rfl (by decide) rfl (fun ls hl => ?_)
            refine lv_goto (tgt := 4) hx hb dX6_isThere_38 (by decide) ?_
            exact ih true (v3 + 1) _ _ _ h hP hD hS (lv_sub hl [2, 3, 1, 0] rfl)
  have h := hf
  rw [fX6_isThere] at h
  have hl := lv_entry ([.ref a0, .int p1]) (n := 4) (Nat.le_of_ble_eq_true rfl)
  rw [lg_entry_eq]
  generalize (lg_sl ([.ref a0, .int p1]) ++ List.replicate (4 - (lg_sl ([.ref a0, .int p1])).length) Slot.unset).toArray = ls at hl ⊢
  have hl : lv_has ls 4 [(0, .ref a0), (1, .int p1)] := hl
  refine lv_iconst (v := 0) hx hb dX6_isThere_0 (by decide) ?_
  refine lv_istore_n (lv' := [(2, .int (0 : Int32)), (0, .ref a0), (1, .int p1)]) hx hb dX6_isThere_1 rfl hl (by decide) rfl (fun ls hl => ?_)
  refine lv_iconst (v := 0) hx hb dX6_isThere_2 (by decide) ?_
  refine lv_istore_n (lv' := [(3, .int (0 : Int32)), (2, .int (0 : Int32)), (0, .ref a0), (1, .int p1)]) hx hb dX6_isThere_3 rfl hl (by decide) rfl (fun ls hl => ?_)
  exact L4 fu false (0 : Int32) _ _ _ h hP hD hS (lv_sub hl [2, 3, 1, 0] rfl)
theorem hdX6_goneAfter : yX6_goneAfter.cls = RX6 ∧ yX6_goneAfter.cls ≠ "java/lang/invoke/MethodHandle" ∧ yX6_goneAfter.cls ≠ "java/lang/invoke/VarHandle" ∧ (parseMethodDescriptor yX6_goneAfter.desc).map (fun d => d.parameters.length) = some 1 := by decide +kernel
set_option maxHeartbeats 4000000 in
set_option maxRecDepth 100000 in
theorem cX6_goneAfter_ok (l : Launch) (G : va_G) (cI cG : ClassId) (a0 a1 a2 a3 a4 : Nat) (fu : Nat) (th : Int32) (sa : (Nat → Int32)) (asd : (Nat → Int32)) (sv : (Nat → Int32)) (sm : Int32) (mt : (Nat → Int32)) (ln : Int32) (nx : Int32) (cd : Int32) (dg : Int32) (pw : Int32) (hs : Int64) (p1 : Int32) (out : Int32 × Int32 × (Nat → Int32) × (Nat → Int32)) (hf : fX6_goneAfter fu th sa asd p1 = some out) : CI l G (tyz cI cG) yX6_goneAfter wsX6_goneAfter ({ frames := 7, cells := 0, slots := 0, locals := 159 } : Room) [.ref a0, .int p1] [(a0, .inr (9, [.int th, .ref a1, .ref a2, .ref a3, .int sm, .ref a4, .int ln, .int nx, .int cd, .int dg, .int pw, .long hs])), (a1, .inl (cI, 378, .inl sa)), (a2, .inl (cI, 378, .inl asd)), (a3, .inl (cI, 1512, .inl sv)), (a4, .inl (cI, 120, .inl mt))] out.1 [(a0, .inr (9, [.int out.2.1, .ref a1, .ref a2, .ref a3, .int sm, .ref a4, .int ln, .int nx, .int cd, .int dg, .int pw, .long hs])), (a1, .inl (cI, 378, .inl out.2.2.1)), (a2, .inl (cI, 378, .inl out.2.2.2)), (a3, .inl (cI, 1512, .inl sv)), (a4, .inl (cI, 120, .inl mt))] := by
  intro sz
  refine Met.ofW (cc := cX6_goneAfter) (maxL := 6) (ret := (some .int)) (by decide) rfl ?_
  intro p e s m args below meth c s₁ B hml hv
  obtain ⟨rfl, hsz, hP, hK, hD0⟩ := hv
  have hx := B.exec
  have hb := B.bytes
  have hr := B.returns
  have hts := atoms_spec (ws := wsX6_goneAfter) B.pre
  have hown : s.vm.findClass RX6 = some m.cls := findClass_of_methodNamed B.named
  have hlocks := B.notSynchronized
  subst hsz
  have hD := hD0.self (sz := s.heap.size)
  generalize hAe : va_A [(a0, .inr (9, [.int th, .ref a1, .ref a2, .ref a3, .int sm, .ref a4, .int ln, .int nx, .int cd, .int dg, .int pw, .long hs])), (a1, .inl (cI, 378, .inl sa)), (a2, .inl (cI, 378, .inl asd)), (a3, .inl (cI, 1512, .inl sv)), (a4, .inl (cI, 120, .inl mt))] s.heap.size = A at hD ⊢
  have hA : ∀ q : Nat, s.heap.size ≤ q → A q := fun q h => by rw [← hAe]; exact Or.inr h
  have hS : va_S A s.heap s.heap [] := va_S.rf
  have hw0 := hts (.fieldLink RX6 22 "SpeedTurnsModel" "thrown" "I") (List.mem_of_getElem? (i := 1) rfl)
  have hin6 : ∀ w ∈ u_ws RX6 TX6 12, w ∈ wsX6_goneAfter := by decide +kernel
  have hw2 := hts (.fieldLink RX6 7 "SpeedTurnsModel" "s" "[I") (List.mem_of_getElem? (i := 2) rfl)
  show W p l e ({ frames := 7, cells := 0, slots := 0, locals := 159 } : Room) s m _ below meth c s.heap [] 0 0 _ _
  refine W_genQ (fun Q hQ => ?_)
  have J98 : ∀ (th : Int32) (sa : (Nat → Int32)) (asd : (Nat → Int32)) (v2 : Int32) (v3 : Int32) (H : Heap) (locs : List Loc) (ls : Array Slot), fX6_goneAfter_J98 fu th sa asd v2 v3 = some out → va_P G vwCl [(a0, .inr (9, [.int th, .ref a1, .ref a2, .ref a3, .int sm, .ref a4, .int ln, .int nx, .int cd, .int dg, .int pw, .long hs])), (a1, .inl (cI, 378, .inl sa)), (a2, .inl (cI, 378, .inl asd)), (a3, .inl (cI, 1512, .inl sv)), (a4, .inl (cI, 120, .inl mt))] H → va_D A [(a0, .inr (9, [.int th, .ref a1, .ref a2, .ref a3, .int sm, .ref a4, .int ln, .int nx, .int cd, .int dg, .int pw, .long hs])), (a1, .inl (cI, 378, .inl sa)), (a2, .inl (cI, 378, .inl asd)), (a3, .inl (cI, 1512, .inl sv)), (a4, .inl (cI, 120, .inl mt))] → va_S A s.heap H locs → lv_has ls 6 [(0, .ref a0), (2, .int v2), (3, .int v3)] → W p l e ({ frames := 7, cells := 0, slots := 0, locals := 159 } : Room) s m ([.ref a0, .int p1] : List Value).toArray below meth c H locs 0 0 Q (F0 m 98 ls []) := by
    intro th sa asd v2 v3 H locs ls h hP hD hS hl
    rw [fX6_goneAfter_J98] at h
    refine lv_aload_n hx hb dX6_goneAfter_98 rfl (lv_at hl 0 rfl) ?_
    refine lv_iload_n hx hb dX6_goneAfter_99 rfl (lv_at hl 1 rfl) ?_
    obtain ⟨x5, ex5, h⟩ := o_b h
    refine call_iV (As := [.int v2]) (rest := []) (ws2 := [(a0, .inr (9, [.int th, .ref a1, .ref a2, .ref a3, .int sm, .ref a4, .int ln, .int nx, .int cd, .int dg, .int pw, .long hs])), (a1, .inl (cI, 378, .inl sa)), (a2, .inl (cI, 378, .inl asd)), (a3, .inl (cI, 1512, .inl sv)), (a4, .inl (cI, 120, .inl mt))]) ⟨hx, hb, hml, hown, hts⟩ (cX6_isThere_ok l G cI cG a0 a1 a2 a3 a4 fu th sa asd sv sm mt ln nx cd dg pw hs v2 x5 ex5) (cwV 1 hts gX6_goneAfter_X6_isThere rfl rfl rfl hdX6_isThere ⟨Nat.le_of_ble_eq_true rfl, Nat.le_of_ble_eq_true rfl⟩) hP hD hS hA hK 9 rfl rfl rfl [0, 1, 2, 3, 4] rfl rfl rfl rfl rfl rfl rfl rfl hl.1 (Nat.le_of_ble_eq_true rfl) dX6_goneAfter_100 ⟨Nat.zero_le _, Nat.zero_le _⟩ (fun H locs hP hD hS => ?_)
    refine lv_istore (lv' := [(5, .int (bI x5)), (0, .ref a0), (2, .int v2), (3, .int v3)]) hx hb dX6_goneAfter_103 hl (by decide) rfl (fun ls hl => ?_)
    refine lv_aload_n hx hb dX6_goneAfter_105 rfl (lv_at hl 1 rfl) ?_
    obtain ⟨x6, ex6, h⟩ := o_b h
    refine call_vV (As := []) (rest := []) (ws2 := [(a0, .inr (9, [.int th, .ref a1, .ref a2, .ref a3, .int sm, .ref a4, .int ln, .int nx, .int cd, .int dg, .int pw, .long hs])), (a1, .inl (cI, 378, .inl x6)), (a2, .inl (cI, 378, .inl asd)), (a3, .inl (cI, 1512, .inl sv)), (a4, .inl (cI, 120, .inl mt))]) ⟨hx, hb, hml, hown, hts⟩ (cX6_release_ok l G cI cG a0 a1 a2 a3 a4 fu th sa asd sv sm mt ln nx cd dg pw hs x6 ex6) (cwV 0 hts gX6_goneAfter_X6_release rfl rfl rfl hdX6_release ⟨Nat.le_of_ble_eq_true rfl, Nat.le_of_ble_eq_true rfl⟩) hP hD hS hA hK 9 rfl rfl rfl [0, 1, 2, 3, 4] rfl rfl rfl rfl rfl rfl rfl rfl hl.1 (Nat.le_of_ble_eq_true rfl) dX6_goneAfter_106 ⟨Nat.zero_le _, Nat.zero_le _⟩ (fun H locs hP hD hS => ?_)
    refine lv_iload hx hb dX6_goneAfter_109 (lv_at hl 0 rfl) ?_
    refine lv_if_eq (tgt := 118) hx hb dX6_goneAfter_111 (by decide) (fun hc => ?_) (fun hc => ?_)
    · have h := o_t h hc
      refine lv_iload_n hx hb dX6_goneAfter_118 rfl (lv_at hl 3 rfl) ?_
      obtain rfl := o_s h
      rw [hQ]
      exact end_i hx hb hr rfl hP hD hS dX6_goneAfter_119 hlocks
    · have h := o_f h hc
      refine lv_iconst (v := (-1)) hx hb dX6_goneAfter_114 (by decide) ?_
      refine lv_goto (tgt := 119) hx hb dX6_goneAfter_115 (by decide) ?_
      obtain rfl := o_s h
      rw [hQ]
      exact end_i hx hb hr rfl hP hD hS dX6_goneAfter_119 hlocks
  have L48 : ∀ (k : Nat) (th : Int32) (sa : (Nat → Int32)) (asd : (Nat → Int32)) (v2 : Int32) (v3 : Int32) (v4 : Bool) (H : Heap) (locs : List Loc) (ls : Array Slot), fX6_goneAfter_L48 fu  k th sa asd v2 v3 v4 = some out → va_P G vwCl [(a0, .inr (9, [.int th, .ref a1, .ref a2, .ref a3, .int sm, .ref a4, .int ln, .int nx, .int cd, .int dg, .int pw, .long hs])), (a1, .inl (cI, 378, .inl sa)), (a2, .inl (cI, 378, .inl asd)), (a3, .inl (cI, 1512, .inl sv)), (a4, .inl (cI, 120, .inl mt))] H → va_D A [(a0, .inr (9, [.int th, .ref a1, .ref a2, .ref a3, .int sm, .ref a4, .int ln, .int nx, .int cd, .int dg, .int pw, .long hs])), (a1, .inl (cI, 378, .inl sa)), (a2, .inl (cI, 378, .inl asd)), (a3, .inl (cI, 1512, .inl sv)), (a4, .inl (cI, 120, .inl mt))] → va_S A s.heap H locs → lv_has ls 6 [(0, .ref a0), (2, .int v2), (3, .int v3), (4, .int (bI v4))] → W p l e ({ frames := 7, cells := 0, slots := 0, locals := 159 } : Room) s m ([.ref a0, .int p1] : List Value).toArray below meth c H locs 0 0 Q (F0 m 48 ls []) := by
    intro k
    induction k with
    | zero => intro th sa asd v2 v3 v4 H locs ls h hP hD hS hl; rw [fX6_goneAfter_L48] at h; exact o_n h
    | succ k ih =>
      intro th sa asd v2 v3 v4 H locs ls h hP hD hS hl
      rw [fX6_goneAfter_L48] at h
      refine lv_iload hx hb dX6_goneAfter_48 (lv_at hl 3 rfl) ?_
      refine lv_if_eq (tgt := 98) hx hb dX6_goneAfter_50 (by decide) (fun hc => ?_) (fun hc => ?_)
      · have h := o_t h hc
        exact J98 th sa asd v2 v3 _ _ _ h hP hD hS (lv_sub hl [0, 1, 2] rfl)
      · have h := o_f h hc
        refine lv_aload_n hx hb dX6_goneAfter_53 rfl (lv_at hl 0 rfl) ?_
        refine lv_iload_n hx hb dX6_goneAfter_54 rfl (lv_at hl 1 rfl) ?_
        obtain ⟨x7, ex7, h⟩ := o_b h
        refine call_iV (As := [.int v2]) (rest := []) (ws2 := [(a0, .inr (9, [.int th, .ref a1, .ref a2, .ref a3, .int sm, .ref a4, .int ln, .int nx, .int cd, .int dg, .int pw, .long hs])), (a1, .inl (cI, 378, .inl sa)), (a2, .inl (cI, 378, .inl asd)), (a3, .inl (cI, 1512, .inl sv)), (a4, .inl (cI, 120, .inl mt))]) ⟨hx, hb, hml, hown, hts⟩ (cX6_isThere_ok l G cI cG a0 a1 a2 a3 a4 fu th sa asd sv sm mt ln nx cd dg pw hs v2 x7 ex7) (cwV 1 hts gX6_goneAfter_X6_isThere rfl rfl rfl hdX6_isThere ⟨Nat.le_of_ble_eq_true rfl, Nat.le_of_ble_eq_true rfl⟩) hP hD hS hA hK 9 rfl rfl rfl [0, 1, 2, 3, 4] rfl rfl rfl rfl rfl rfl rfl rfl hl.1 (Nat.le_of_ble_eq_true rfl) dX6_goneAfter_55 ⟨Nat.zero_le _, Nat.zero_le _⟩ (fun H locs hP hD hS => ?_)
        refine lv_if_eq (tgt := 98) hx hb dX6_goneAfter_58 (by decide) (fun hc => ?_) (fun hc => ?_)
        · have h := o_t h hc
          exact J98 th sa asd v2 v3 _ _ _ h hP hD hS (lv_sub hl [0, 1, 2] rfl)
        · have h := o_f h hc
          refine lv_iload_n hx hb dX6_goneAfter_61 rfl (lv_at hl 2 rfl) ?_
          refine lv_bipush (v := 60) hx hb dX6_goneAfter_62 (by decide) ?_
          refine lv_icmp_ge (tgt := 98) hx hb dX6_goneAfter_64 (by decide) (fun hc => ?_) (fun hc => ?_)
          · have h := o_t h hc
            exact J98 th sa asd v2 v3 _ _ _ h hP hD hS (lv_sub hl [0, 1, 2] rfl)
          · have h := o_f h hc
            refine lv_aload_n hx hb dX6_goneAfter_67 rfl (lv_at hl 0 rfl) ?_
            obtain ⟨x8, ex8, h⟩ := o_b h
            refine call_iV (As := []) (rest := []) (ws2 := [(a0, .inr (9, [.int th, .ref a1, .ref a2, .ref a3, .int sm, .ref a4, .int ln, .int nx, .int cd, .int dg, .int pw, .long hs])), (a1, .inl (cI, 378, .inl x8.2)), (a2, .inl (cI, 378, .inl asd)), (a3, .inl (cI, 1512, .inl sv)), (a4, .inl (cI, 120, .inl mt))]) ⟨hx, hb, hml, hown, hts⟩ (cX6_passesTurn_ok l G cI cG a0 a1 a2 a3 a4 fu th sa asd sv sm mt ln nx cd dg pw hs x8 ex8) (cwV 0 hts gX6_goneAfter_X6_passesTurn rfl rfl rfl hdX6_passesTurn ⟨Nat.le_of_ble_eq_true rfl, Nat.le_of_ble_eq_true rfl⟩) hP hD hS hA hK 9 rfl rfl rfl [0, 1, 2, 3, 4] rfl rfl rfl rfl rfl rfl rfl rfl hl.1 (Nat.le_of_ble_eq_true rfl) dX6_goneAfter_68 ⟨Nat.zero_le _, Nat.zero_le _⟩ (fun H locs hP hD hS => ?_)
            refine lv_iconst (v := (-1)) hx hb dX6_goneAfter_71 (by decide) ?_
            refine lv_icmp_eq (tgt := 79) hx hb dX6_goneAfter_72 (by decide) (fun hc => ?_) (fun hc => ?_)
            · have h := o_t h hc
              refine lv_iconst (v := 0) hx hb dX6_goneAfter_79 (by decide) ?_
              refine lv_istore (lv' := [(4, .int (0 : Int32)), (0, .ref a0), (2, .int v2), (3, .int v3)]) hx hb dX6_goneAfter_80 hl (by decide) rfl (fun ls hl => ?_)
              refine lv_iload_n hx hb dX6_goneAfter_82 rfl (lv_at hl 3 rfl) ?_
              refine lv_iload hx hb dX6_goneAfter_83 (lv_at hl 0 rfl) ?_
              refine lv_if_eq (tgt := 92) hx hb dX6_goneAfter_85 (by decide) (fun _ => ?_) (fun c => absurd (by decide) c)
              refine lv_iconst (v := 0) hx hb dX6_goneAfter_92 (by decide) ?_
              refine lv_iadd hx hb dX6_goneAfter_93 ?_
              refine lv_istore_n (lv' := [(3, .int (v3 + (0 : Int32))), (4, .int (0 : Int32)), (0, .ref a0), (2, .int v2)]) hx hb dX6_goneAfter_94 rfl hl (by decide) rfl (fun ls hl => ?_)
              refine lv_goto (tgt := 48) hx hb dX6_goneAfter_95 (by decide) ?_
              exact ih th x8.2 asd v2 (v3 + (0 : Int32)) false _ _ _ h hP hD hS (lv_sub hl [2, 3, 0, 1] rfl)
            · have h := o_f h hc
              refine lv_iconst (v := 1) hx hb dX6_goneAfter_75 (by decide) ?_
              refine lv_goto (tgt := 80) hx hb dX6_goneAfter_76 (by decide) ?_
              refine lv_istore (lv' := [(4, .int (1 : Int32)), (0, .ref a0), (2, .int v2), (3, .int v3)]) hx hb dX6_goneAfter_80 hl (by decide) rfl (fun ls hl => ?_)
              refine lv_iload_n hx hb dX6_goneAfter_82 rfl (lv_at hl 3 rfl) ?_
              refine lv_iload hx hb dX6_goneAfter_83 (lv_at hl 0 rfl) ?_
              refine lv_if_eq (tgt := 92) hx hb dX6_goneAfter_85 (by decide) (fun c => absurd c (by decide)) (fun _ => ?_)
              refine lv_iconst (v := 1) hx hb dX6_goneAfter_88 (by decide) ?_
              refine lv_goto (tgt := 93) hx hb dX6_goneAfter_89 (by decide) ?_
              refine lv_iadd hx hb dX6_goneAfter_93 ?_
              refine lv_istore_n (lv' := [(3, .int (v3 + (1 : Int32))), (4, .int (1 : Int32)), (0, .ref a0), (2, .int v2)]) hx hb dX6_goneAfter_94 rfl hl (by decide) rfl (fun ls hl => ?_)
              refine lv_goto (tgt := 48) hx hb dX6_goneAfter_95 (by decide) ?_
              exact ih th x8.2 asd v2 (v3 + (1 : Int32)) true _ _ _ h hP hD hS (lv_sub hl [2, 3, 0, 1] rfl)
  have h := hf
  rw [fX6_goneAfter] at h
  have hl := lv_entry ([.ref a0, .int p1]) (n := 6) (Nat.le_of_ble_eq_true rfl)
  rw [lg_entry_eq]
  generalize (lg_sl ([.ref a0, .int p1]) ++ List.replicate (6 - (lg_sl ([.ref a0, .int p1])).length) Slot.unset).toArray = ls at hl ⊢
  have hl : lv_has ls 6 [(0, .ref a0), (1, .int p1)] := hl
  refine lv_aload_n hx hb dX6_goneAfter_0 rfl (lv_at hl 0 rfl) ?_
  refine lv_iconst (v := 0) hx hb dX6_goneAfter_1 (by decide) ?_
  refine va_put (D := G) (ci := 9) (v := .int (0 : Int32)) (ty := .int) (C := RX6) (T := TX6) (N := 12) hx hb hts hin6 tyX6 tyX6_ok nmX6 hown hK.1 hP hD hS 0 rfl rfl 0 (by decide) hw0 (fun _ h9 => h9) rfl (by decide +kernel) rfl rfl (Nat.le_of_ble_eq_true rfl) dX6_goneAfter_2 (fun H locs hP hD hS => ?_)
  have hP : va_P G vwCl [(a0, .inr (9, [.int (0 : Int32), .ref a1, .ref a2, .ref a3, .int sm, .ref a4, .int ln, .int nx, .int cd, .int dg, .int pw, .long hs])), (a1, .inl (cI, 378, .inl sa)), (a2, .inl (cI, 378, .inl asd)), (a3, .inl (cI, 1512, .inl sv)), (a4, .inl (cI, 120, .inl mt))] H := hP
  have hD : va_D A [(a0, .inr (9, [.int (0 : Int32), .ref a1, .ref a2, .ref a3, .int sm, .ref a4, .int ln, .int nx, .int cd, .int dg, .int pw, .long hs])), (a1, .inl (cI, 378, .inl sa)), (a2, .inl (cI, 378, .inl asd)), (a3, .inl (cI, 1512, .inl sv)), (a4, .inl (cI, 120, .inl mt))] := hD
  refine lv_iload_n hx hb dX6_goneAfter_5 rfl (lv_at hl 1 rfl) ?_
  refine lv_iconst (v := 0) hx hb dX6_goneAfter_6 (by decide) ?_
  refine lv_aload_n hx hb dX6_goneAfter_7 rfl (lv_at hl 0 rfl) ?_
  refine va_get (D := G) (ci := 9) (v := .ref a1) (C := RX6) (T := TX6) (N := 12) hx hb hts hin6 hown hK.1 hP 0 rfl rfl 1 (by decide) hw2 (fun _ h9 => h9) rfl dX6_goneAfter_8 ?_
  refine lv_iconst (v := 1) hx hb dX6_goneAfter_11 (by decide) ?_
  obtain ⟨hin, h⟩ := o_g h
  refine va_iald hx hb hK.1 hP 1 0 rfl rfl hin dX6_goneAfter_12 ?_
  refine lv_iconst (v := 1) hx hb dX6_goneAfter_13 (by decide) ?_
  refine lv_isub hx hb dX6_goneAfter_14 ?_
  obtain ⟨x1, ex1, h⟩ := o_b h
  refine call_iS (As := [.int p1, .int (0 : Int32), .int ((sa ((1 : Int32)).toNatClampNeg) - (1 : Int32))]) (rest := []) (ws2 := [(a0, .inr (9, [.int (0 : Int32), .ref a1, .ref a2, .ref a3, .int sm, .ref a4, .int ln, .int nx, .int cd, .int dg, .int pw, .long hs])), (a1, .inl (cI, 378, .inl sa)), (a2, .inl (cI, 378, .inl asd)), (a3, .inl (cI, 1512, .inl sv)), (a4, .inl (cI, 120, .inl mt))]) ⟨hx, hb, hml, hown, hts⟩ (cX6_in_ok l G cI cG p1 (0 : Int32) ((sa ((1 : Int32)).toNatClampNeg) - (1 : Int32)) x1 ex1) (va_cwS 3 hts gX6_goneAfter_X6_in rfl rfl rfl hdX6_in ⟨Nat.le_of_ble_eq_true rfl, Nat.le_of_ble_eq_true rfl⟩) hP hD hS hA hK [] rfl rfl rfl rfl rfl rfl rfl rfl hl.1 (Nat.le_of_ble_eq_true rfl) dX6_goneAfter_15 ⟨Nat.zero_le _, Nat.zero_le _⟩ (fun H locs hP hD hS => ?_)
  refine lv_if_ne (tgt := 27) hx hb dX6_goneAfter_18 (by decide) (fun hc => ?_) (fun hc => ?_)
  · have h := o_f h hc
    refine lv_aload_n hx hb dX6_goneAfter_27 rfl (lv_at hl 0 rfl) ?_
    refine lv_iload_n hx hb dX6_goneAfter_28 rfl (lv_at hl 1 rfl) ?_
    refine lv_bipush (v := 7) hx hb dX6_goneAfter_29 (by decide) ?_
    obtain ⟨x2, ex2, h⟩ := o_b h
    refine call_iV (As := [.int p1, .int (7 : Int32)]) (rest := []) (ws2 := [(a0, .inr (9, [.int (0 : Int32), .ref a1, .ref a2, .ref a3, .int sm, .ref a4, .int ln, .int nx, .int cd, .int dg, .int pw, .long hs])), (a1, .inl (cI, 378, .inl sa)), (a2, .inl (cI, 378, .inl asd)), (a3, .inl (cI, 1512, .inl sv)), (a4, .inl (cI, 120, .inl mt))]) ⟨hx, hb, hml, hown, hts⟩ (cX6_ofEffect_ok l G cI cG a0 a1 a2 a3 a4 (0 : Int32) sa asd sv sm mt ln nx cd dg pw hs p1 (7 : Int32) x2 ex2) (cwV 2 hts gX6_goneAfter_X6_ofEffect rfl rfl rfl hdX6_ofEffect ⟨Nat.le_of_ble_eq_true rfl, Nat.le_of_ble_eq_true rfl⟩) hP hD hS hA hK 9 rfl rfl rfl [0, 1, 2, 3, 4] rfl rfl rfl rfl rfl rfl rfl rfl hl.1 (Nat.le_of_ble_eq_true rfl) dX6_goneAfter_31 ⟨Nat.zero_le _, Nat.zero_le _⟩ (fun H locs hP hD hS => ?_)
    refine lv_istore_n (lv' := [(2, .int x2), (0, .ref a0), (1, .int p1)]) hx hb dX6_goneAfter_34 rfl hl (by decide) rfl (fun ls hl => ?_)
    refine lv_aload_n hx hb dX6_goneAfter_35 rfl (lv_at hl 1 rfl) ?_
    obtain ⟨x3, ex3, h⟩ := o_b h
    refine call_vV (As := []) (rest := []) (ws2 := [(a0, .inr (9, [.int (0 : Int32), .ref a1, .ref a2, .ref a3, .int sm, .ref a4, .int ln, .int nx, .int cd, .int dg, .int pw, .long hs])), (a1, .inl (cI, 378, .inl sa)), (a2, .inl (cI, 378, .inl x3)), (a3, .inl (cI, 1512, .inl sv)), (a4, .inl (cI, 120, .inl mt))]) ⟨hx, hb, hml, hown, hts⟩ (cX6_hold_ok l G cI cG a0 a1 a2 a3 a4 fu (0 : Int32) sa asd sv sm mt ln nx cd dg pw hs x3 ex3) (cwV 0 hts gX6_goneAfter_X6_hold rfl rfl rfl hdX6_hold ⟨Nat.le_of_ble_eq_true rfl, Nat.le_of_ble_eq_true rfl⟩) hP hD hS hA hK 9 rfl rfl rfl [0, 1, 2, 3, 4] rfl rfl rfl rfl rfl rfl rfl rfl hl.1 (Nat.le_of_ble_eq_true rfl) dX6_goneAfter_36 ⟨Nat.zero_le _, Nat.zero_le _⟩ (fun H locs hP hD hS => ?_)
    refine lv_aload_n hx hb dX6_goneAfter_39 rfl (lv_at hl 1 rfl) ?_
    obtain ⟨x4, ex4, h⟩ := o_b h
    refine call_vV (As := []) (rest := []) (ws2 := [(a0, .inr (9, [.int (0 : Int32), .ref a1, .ref a2, .ref a3, .int sm, .ref a4, .int ln, .int nx, .int cd, .int dg, .int pw, .long hs])), (a1, .inl (cI, 378, .inl x4)), (a2, .inl (cI, 378, .inl x3)), (a3, .inl (cI, 1512, .inl sv)), (a4, .inl (cI, 120, .inl mt))]) ⟨hx, hb, hml, hown, hts⟩ (cX6_clearTurn_ok l G cI cG a0 a1 a2 a3 a4 fu (0 : Int32) sa x3 sv sm mt ln nx cd dg pw hs x4 ex4) (cwV 0 hts gX6_goneAfter_X6_clearTurn rfl rfl rfl hdX6_clearTurn ⟨Nat.le_of_ble_eq_true rfl, Nat.le_of_ble_eq_true rfl⟩) hP hD hS hA hK 9 rfl rfl rfl [0, 1, 2, 3, 4] rfl rfl rfl rfl rfl rfl rfl rfl hl.1 (Nat.le_of_ble_eq_true rfl) dX6_goneAfter_40 ⟨Nat.zero_le _, Nat.zero_le _⟩ (fun H locs hP hD hS => ?_)
    refine lv_iconst (v := 0) hx hb dX6_goneAfter_43 (by decide) ?_
    refine lv_istore_n (lv' := [(3, .int (0 : Int32)), (2, .int x2), (0, .ref a0), (1, .int p1)]) hx hb dX6_goneAfter_44 rfl hl (by decide) rfl (fun ls hl => ?_)
    refine lv_iconst (v := 1) hx hb dX6_goneAfter_45 (by decide) ?_
    refine lv_istore (lv' := [(4, .int (1 : Int32)), (3, .int (0 : Int32)), (2, .int x2), (0, .ref a0), (1, .int p1)]) hx hb dX6_goneAfter_46 hl (by decide) rfl (fun ls hl => ?_)
    exact L48 fu (0 : Int32) x4 x3 x2 (0 : Int32) true _ _ _ h hP hD hS (lv_sub hl [3, 2, 1, 0] rfl)
  · have h := o_t h hc
    refine lv_aload_n hx hb dX6_goneAfter_21 rfl (lv_at hl 0 rfl) ?_
    refine lv_iconst (v := 1) hx hb dX6_goneAfter_22 (by decide) ?_
    obtain ⟨x9, ex9, h⟩ := o_b h
    refine call_iV (As := [.int (1 : Int32)]) (rest := []) (ws2 := [(a0, .inr (9, [.int x9.2, .ref a1, .ref a2, .ref a3, .int sm, .ref a4, .int ln, .int nx, .int cd, .int dg, .int pw, .long hs])), (a1, .inl (cI, 378, .inl sa)), (a2, .inl (cI, 378, .inl asd)), (a3, .inl (cI, 1512, .inl sv)), (a4, .inl (cI, 120, .inl mt))]) ⟨hx, hb, hml, hown, hts⟩ (cX6_fails_ok l G cI cG a0 a1 a2 a3 a4 (0 : Int32) sa asd sv sm mt ln nx cd dg pw hs (1 : Int32) x9 ex9) (cwV 1 hts gX6_goneAfter_X6_fails rfl rfl rfl hdX6_fails ⟨Nat.le_of_ble_eq_true rfl, Nat.le_of_ble_eq_true rfl⟩) hP hD hS hA hK 9 rfl rfl rfl [0, 1, 2, 3, 4] rfl rfl rfl rfl rfl rfl rfl rfl hl.1 (Nat.le_of_ble_eq_true rfl) dX6_goneAfter_23 ⟨Nat.zero_le _, Nat.zero_le _⟩ (fun H locs hP hD hS => ?_)
    obtain rfl := o_s h
    rw [hQ]
    exact end_i hx hb hr rfl hP hD hS dX6_goneAfter_26 hlocks
theorem hdX6_lives : yX6_lives.cls = RX6 ∧ yX6_lives.cls ≠ "java/lang/invoke/MethodHandle" ∧ yX6_lives.cls ≠ "java/lang/invoke/VarHandle" ∧ (parseMethodDescriptor yX6_lives.desc).map (fun d => d.parameters.length) = some 1 := by decide +kernel
set_option maxHeartbeats 4000000 in
set_option maxRecDepth 100000 in
theorem cX6_lives_ok (l : Launch) (G : va_G) (cI cG : ClassId) (a0 a1 a2 a3 a4 : Nat) (fu : Nat) (th : Int32) (sa : (Nat → Int32)) (asd : (Nat → Int32)) (sv : (Nat → Int32)) (sm : Int32) (mt : (Nat → Int32)) (ln : Int32) (nx : Int32) (cd : Int32) (dg : Int32) (pw : Int32) (hs : Int64) (p1 : Int32) (out : Int32) (hf : fX6_lives fu sa p1 = some out) : CI l G (tyz cI cG) yX6_lives wsX6_lives ({ frames := 1, cells := 0, slots := 0, locals := 22 } : Room) [.ref a0, .int p1] [(a0, .inr (9, [.int th, .ref a1, .ref a2, .ref a3, .int sm, .ref a4, .int ln, .int nx, .int cd, .int dg, .int pw, .long hs])), (a1, .inl (cI, 378, .inl sa)), (a2, .inl (cI, 378, .inl asd)), (a3, .inl (cI, 1512, .inl sv)), (a4, .inl (cI, 120, .inl mt))] out [(a0, .inr (9, [.int th, .ref a1, .ref a2, .ref a3, .int sm, .ref a4, .int ln, .int nx, .int cd, .int dg, .int pw, .long hs])), (a1, .inl (cI, 378, .inl sa)), (a2, .inl (cI, 378, .inl asd)), (a3, .inl (cI, 1512, .inl sv)), (a4, .inl (cI, 120, .inl mt))] := by
  intro sz
  refine Met.ofW (cc := cX6_lives) (maxL := 4) (ret := (some .int)) (by decide) rfl ?_
  intro p e s m args below meth c s₁ B hml hv
  obtain ⟨rfl, hsz, hP, hK, hD0⟩ := hv
  have hx := B.exec
  have hb := B.bytes
  have hr := B.returns
  have hts := atoms_spec (ws := wsX6_lives) B.pre
  have hown : s.vm.findClass RX6 = some m.cls := findClass_of_methodNamed B.named
  have hlocks := B.notSynchronized
  subst hsz
  have hD := hD0.self (sz := s.heap.size)
  generalize hAe : va_A [(a0, .inr (9, [.int th, .ref a1, .ref a2, .ref a3, .int sm, .ref a4, .int ln, .int nx, .int cd, .int dg, .int pw, .long hs])), (a1, .inl (cI, 378, .inl sa)), (a2, .inl (cI, 378, .inl asd)), (a3, .inl (cI, 1512, .inl sv)), (a4, .inl (cI, 120, .inl mt))] s.heap.size = A at hD ⊢
  have hA : ∀ q : Nat, s.heap.size ≤ q → A q := fun q h => by rw [← hAe]; exact Or.inr h
  have hS : va_S A s.heap s.heap [] := va_S.rf
  have hw0 := hts (.fieldLink RX6 7 "SpeedTurnsModel" "s" "[I") (List.mem_of_getElem? (i := 1) rfl)
  have hin6 : ∀ w ∈ u_ws RX6 TX6 12, w ∈ wsX6_lives := by decide +kernel
  show W p l e ({ frames := 1, cells := 0, slots := 0, locals := 22 } : Room) s m _ below meth c s.heap [] 0 0 _ _
  refine W_genQ (fun Q hQ => ?_)
  have L4 : ∀ (k : Nat) (v2 : Int32) (v3 : Int32) (H : Heap) (locs : List Loc) (ls : Array Slot), fX6_lives_L4 fu sa p1 k v2 v3 = some out → va_P G vwCl [(a0, .inr (9, [.int th, .ref a1, .ref a2, .ref a3, .int sm, .ref a4, .int ln, .int nx, .int cd, .int dg, .int pw, .long hs])), (a1, .inl (cI, 378, .inl sa)), (a2, .inl (cI, 378, .inl asd)), (a3, .inl (cI, 1512, .inl sv)), (a4, .inl (cI, 120, .inl mt))] H → va_D A [(a0, .inr (9, [.int th, .ref a1, .ref a2, .ref a3, .int sm, .ref a4, .int ln, .int nx, .int cd, .int dg, .int pw, .long hs])), (a1, .inl (cI, 378, .inl sa)), (a2, .inl (cI, 378, .inl asd)), (a3, .inl (cI, 1512, .inl sv)), (a4, .inl (cI, 120, .inl mt))] → va_S A s.heap H locs → lv_has ls 4 [(0, .ref a0), (1, .int p1), (2, .int v2), (3, .int v3)] → W p l e ({ frames := 1, cells := 0, slots := 0, locals := 22 } : Room) s m ([.ref a0, .int p1] : List Value).toArray below meth c H locs 0 0 Q (F0 m 4 ls []) := by
    intro k
    induction k with
    | zero => intro v2 v3 H locs ls h hP hD hS hl; rw [fX6_lives_L4] at h; exact o_n h
    | succ k ih =>
      intro v2 v3 H locs ls h hP hD hS hl
      rw [fX6_lives_L4] at h
      refine lv_iload_n hx hb dX6_lives_4 rfl (lv_at hl 3 rfl) ?_
      refine lv_aload_n hx hb dX6_lives_5 rfl (lv_at hl 0 rfl) ?_
      refine va_get (D := G) (ci := 9) (v := .ref a1) (C := RX6) (T := TX6) (N := 12) hx hb hts hin6 hown hK.1 hP 0 rfl rfl 1 (by decide) hw0 (fun _ h9 => h9) rfl dX6_lives_6 ?_
      refine lv_iconst (v := 0) hx hb dX6_lives_9 (by decide) ?_
      obtain ⟨hin, h⟩ := o_g h
      refine va_iald hx hb hK.1 hP 1 0 rfl rfl hin dX6_lives_10 ?_
      refine lv_icmp_ge (tgt := 29) hx hb dX6_lives_11 (by decide) (fun hc => ?_) (fun hc => ?_)
      · have h := o_t h hc
        refine lv_iload_n hx hb dX6_lives_29 rfl (lv_at hl 2 rfl) ?_
        obtain rfl := o_s h
        rw [hQ]
        exact end_i hx hb hr rfl hP hD hS dX6_lives_30 hlocks
      · have h := o_f h hc
        refine lv_iload_n hx hb dX6_lives_14 rfl (lv_at hl 2 rfl) ?_
        refine lv_aload_n hx hb dX6_lives_15 rfl (lv_at hl 0 rfl) ?_
        refine lv_iload_n hx hb dX6_lives_16 rfl (lv_at hl 3 rfl) ?_
        refine lv_iload_n hx hb dX6_lives_17 rfl (lv_at hl 1 rfl) ?_
        obtain ⟨x1, ex1, h⟩ := o_b h
        refine call_iV (As := [.int v3, .int p1]) (rest := [.int v2]) (ws2 := [(a0, .inr (9, [.int th, .ref a1, .ref a2, .ref a3, .int sm, .ref a4, .int ln, .int nx, .int cd, .int dg, .int pw, .long hs])), (a1, .inl (cI, 378, .inl sa)), (a2, .inl (cI, 378, .inl asd)), (a3, .inl (cI, 1512, .inl sv)), (a4, .inl (cI, 120, .inl mt))]) ⟨hx, hb, hml, hown, hts⟩ (cX6_of_ok l G cI cG a0 a1 a2 a3 a4 th sa asd sv sm mt ln nx cd dg pw hs v3 p1 x1 ex1) (cwV 2 hts gX6_lives_X6_of rfl rfl rfl hdX6_of ⟨Nat.le_of_ble_eq_true rfl, Nat.le_of_ble_eq_true rfl⟩) hP hD hS hA hK 9 rfl rfl rfl [0, 1, 2, 3, 4] rfl rfl rfl rfl rfl rfl rfl rfl hl.1 (Nat.le_of_ble_eq_true rfl) dX6_lives_18 ⟨Nat.zero_le _, Nat.zero_le _⟩ (fun H locs hP hD hS => ?_)
        refine lv_iadd hx hb dX6_lives_21 ?_
        refine lv_istore_n (lv' := [(2, .int (v2 + x1)), (0, .ref a0), (1, .int p1), (3, .int v3)]) hx hb dX6_lives_22 rfl hl (by decide) rfl (fun ls hl => ?_)
        refine lv_iinc (v := (v3 + 1)) (lv' := [(3, .int (v3 + 1)), (2, .int (v2 + x1)), (0, .ref a0), (1, .int p1)]) hx hb dX6_lives_23 hl (k := 3) rfl rfl (by decide) rfl (fun ls hl => ?_)
        refine lv_goto (tgt := 4) hx hb dX6_lives_26 (by decide) ?_
        exact ih (v2 + x1) (v3 + 1) _ _ _ h hP hD hS (lv_sub hl [2, 3, 1, 0] rfl)
  have h := hf
  rw [fX6_lives] at h
  have hl := lv_entry ([.ref a0, .int p1]) (n := 4) (Nat.le_of_ble_eq_true rfl)
  rw [lg_entry_eq]
  generalize (lg_sl ([.ref a0, .int p1]) ++ List.replicate (4 - (lg_sl ([.ref a0, .int p1])).length) Slot.unset).toArray = ls at hl ⊢
  have hl : lv_has ls 4 [(0, .ref a0), (1, .int p1)] := hl
  refine lv_iconst (v := 0) hx hb dX6_lives_0 (by decide) ?_
  refine lv_istore_n (lv' := [(2, .int (0 : Int32)), (0, .ref a0), (1, .int p1)]) hx hb dX6_lives_1 rfl hl (by decide) rfl (fun ls hl => ?_)
  refine lv_iconst (v := 0) hx hb dX6_lives_2 (by decide) ?_
  refine lv_istore_n (lv' := [(3, .int (0 : Int32)), (2, .int (0 : Int32)), (0, .ref a0), (1, .int p1)]) hx hb dX6_lives_3 rfl hl (by decide) rfl (fun ls hl => ?_)
  exact L4 fu (0 : Int32) (0 : Int32) _ _ _ h hP hD hS (lv_sub hl [2, 3, 1, 0] rfl)
theorem hdX6_lifeSettled : yX6_lifeSettled.cls = RX6 ∧ yX6_lifeSettled.cls ≠ "java/lang/invoke/MethodHandle" ∧ yX6_lifeSettled.cls ≠ "java/lang/invoke/VarHandle" ∧ (parseMethodDescriptor yX6_lifeSettled.desc).map (fun d => d.parameters.length) = some 0 := by decide +kernel
set_option maxHeartbeats 4000000 in
set_option maxRecDepth 100000 in
theorem cX6_lifeSettled_ok (l : Launch) (G : va_G) (cI cG : ClassId) (a0 a1 a2 a3 a4 : Nat) (fu : Nat) (th : Int32) (sa : (Nat → Int32)) (asd : (Nat → Int32)) (sv : (Nat → Int32)) (sm : Int32) (mt : (Nat → Int32)) (ln : Int32) (nx : Int32) (cd : Int32) (dg : Int32) (pw : Int32) (hs : Int64) (out : Int32 × Int32 × (Nat → Int32) × (Nat → Int32)) (hf : fX6_lifeSettled fu th sa asd = some out) : CI l G (tyz cI cG) yX6_lifeSettled wsX6_lifeSettled ({ frames := 6, cells := 0, slots := 0, locals := 137 } : Room) [.ref a0] [(a0, .inr (9, [.int th, .ref a1, .ref a2, .ref a3, .int sm, .ref a4, .int ln, .int nx, .int cd, .int dg, .int pw, .long hs])), (a1, .inl (cI, 378, .inl sa)), (a2, .inl (cI, 378, .inl asd)), (a3, .inl (cI, 1512, .inl sv)), (a4, .inl (cI, 120, .inl mt))] out.1 [(a0, .inr (9, [.int out.2.1, .ref a1, .ref a2, .ref a3, .int sm, .ref a4, .int ln, .int nx, .int cd, .int dg, .int pw, .long hs])), (a1, .inl (cI, 378, .inl out.2.2.1)), (a2, .inl (cI, 378, .inl out.2.2.2)), (a3, .inl (cI, 1512, .inl sv)), (a4, .inl (cI, 120, .inl mt))] := by
  intro sz
  refine Met.ofW (cc := cX6_lifeSettled) (maxL := 3) (ret := (some .int)) (by decide) rfl ?_
  intro p e s m args below meth c s₁ B hml hv
  obtain ⟨rfl, hsz, hP, hK, hD0⟩ := hv
  have hx := B.exec
  have hb := B.bytes
  have hr := B.returns
  have hts := atoms_spec (ws := wsX6_lifeSettled) B.pre
  have hown : s.vm.findClass RX6 = some m.cls := findClass_of_methodNamed B.named
  have hlocks := B.notSynchronized
  subst hsz
  have hD := hD0.self (sz := s.heap.size)
  generalize hAe : va_A [(a0, .inr (9, [.int th, .ref a1, .ref a2, .ref a3, .int sm, .ref a4, .int ln, .int nx, .int cd, .int dg, .int pw, .long hs])), (a1, .inl (cI, 378, .inl sa)), (a2, .inl (cI, 378, .inl asd)), (a3, .inl (cI, 1512, .inl sv)), (a4, .inl (cI, 120, .inl mt))] s.heap.size = A at hD ⊢
  have hA : ∀ q : Nat, s.heap.size ≤ q → A q := fun q h => by rw [← hAe]; exact Or.inr h
  have hS : va_S A s.heap s.heap [] := va_S.rf
  have hw0 := hts (.fieldLink RX6 22 "SpeedTurnsModel" "thrown" "I") (List.mem_of_getElem? (i := 1) rfl)
  have hin6 : ∀ w ∈ u_ws RX6 TX6 12, w ∈ wsX6_lifeSettled := by decide +kernel
  show W p l e ({ frames := 6, cells := 0, slots := 0, locals := 137 } : Room) s m _ below meth c s.heap [] 0 0 _ _
  refine W_genQ (fun Q hQ => ?_)
  have h := hf
  rw [fX6_lifeSettled] at h
  have hl := lv_entry ([.ref a0]) (n := 3) (Nat.le_of_ble_eq_true rfl)
  rw [lg_entry_eq]
  generalize (lg_sl ([.ref a0]) ++ List.replicate (3 - (lg_sl ([.ref a0])).length) Slot.unset).toArray = ls at hl ⊢
  have hl : lv_has ls 3 [(0, .ref a0)] := hl
  refine lv_aload_n hx hb dX6_lifeSettled_0 rfl (lv_at hl 0 rfl) ?_
  refine lv_iconst (v := 0) hx hb dX6_lifeSettled_1 (by decide) ?_
  refine va_put (D := G) (ci := 9) (v := .int (0 : Int32)) (ty := .int) (C := RX6) (T := TX6) (N := 12) hx hb hts hin6 tyX6 tyX6_ok nmX6 hown hK.1 hP hD hS 0 rfl rfl 0 (by decide) hw0 (fun _ h9 => h9) rfl (by decide +kernel) rfl rfl (Nat.le_of_ble_eq_true rfl) dX6_lifeSettled_2 (fun H locs hP hD hS => ?_)
  have hP : va_P G vwCl [(a0, .inr (9, [.int (0 : Int32), .ref a1, .ref a2, .ref a3, .int sm, .ref a4, .int ln, .int nx, .int cd, .int dg, .int pw, .long hs])), (a1, .inl (cI, 378, .inl sa)), (a2, .inl (cI, 378, .inl asd)), (a3, .inl (cI, 1512, .inl sv)), (a4, .inl (cI, 120, .inl mt))] H := hP
  have hD : va_D A [(a0, .inr (9, [.int (0 : Int32), .ref a1, .ref a2, .ref a3, .int sm, .ref a4, .int ln, .int nx, .int cd, .int dg, .int pw, .long hs])), (a1, .inl (cI, 378, .inl sa)), (a2, .inl (cI, 378, .inl asd)), (a3, .inl (cI, 1512, .inl sv)), (a4, .inl (cI, 120, .inl mt))] := hD
  refine lv_aload_n hx hb dX6_lifeSettled_5 rfl (lv_at hl 0 rfl) ?_
  obtain ⟨x1, ex1, h⟩ := o_b h
  refine call_vV (As := []) (rest := []) (ws2 := [(a0, .inr (9, [.int (0 : Int32), .ref a1, .ref a2, .ref a3, .int sm, .ref a4, .int ln, .int nx, .int cd, .int dg, .int pw, .long hs])), (a1, .inl (cI, 378, .inl sa)), (a2, .inl (cI, 378, .inl x1)), (a3, .inl (cI, 1512, .inl sv)), (a4, .inl (cI, 120, .inl mt))]) ⟨hx, hb, hml, hown, hts⟩ (cX6_hold_ok l G cI cG a0 a1 a2 a3 a4 fu (0 : Int32) sa asd sv sm mt ln nx cd dg pw hs x1 ex1) (cwV 0 hts gX6_lifeSettled_X6_hold rfl rfl rfl hdX6_hold ⟨Nat.le_of_ble_eq_true rfl, Nat.le_of_ble_eq_true rfl⟩) hP hD hS hA hK 9 rfl rfl rfl [0, 1, 2, 3, 4] rfl rfl rfl rfl rfl rfl rfl rfl hl.1 (Nat.le_of_ble_eq_true rfl) dX6_lifeSettled_6 ⟨Nat.zero_le _, Nat.zero_le _⟩ (fun H locs hP hD hS => ?_)
  refine lv_aload_n hx hb dX6_lifeSettled_9 rfl (lv_at hl 0 rfl) ?_
  obtain ⟨x2, ex2, h⟩ := o_b h
  refine call_iV (As := []) (rest := []) (ws2 := [(a0, .inr (9, [.int (0 : Int32), .ref a1, .ref a2, .ref a3, .int sm, .ref a4, .int ln, .int nx, .int cd, .int dg, .int pw, .long hs])), (a1, .inl (cI, 378, .inl x2.2)), (a2, .inl (cI, 378, .inl x1)), (a3, .inl (cI, 1512, .inl sv)), (a4, .inl (cI, 120, .inl mt))]) ⟨hx, hb, hml, hown, hts⟩ (cX6_settles_ok l G cI cG a0 a1 a2 a3 a4 fu (0 : Int32) sa x1 sv sm mt ln nx cd dg pw hs x2 ex2) (cwV 0 hts gX6_lifeSettled_X6_settles rfl rfl rfl hdX6_settles ⟨Nat.le_of_ble_eq_true rfl, Nat.le_of_ble_eq_true rfl⟩) hP hD hS hA hK 9 rfl rfl rfl [0, 1, 2, 3, 4] rfl rfl rfl rfl rfl rfl rfl rfl hl.1 (Nat.le_of_ble_eq_true rfl) dX6_lifeSettled_10 ⟨Nat.zero_le _, Nat.zero_le _⟩ (fun H locs hP hD hS => ?_)
  refine lv_istore_n (lv' := [(1, .int x2.1), (0, .ref a0)]) hx hb dX6_lifeSettled_13 rfl hl (by decide) rfl (fun ls hl => ?_)
  refine lv_iload_n hx hb dX6_lifeSettled_14 rfl (lv_at hl 0 rfl) ?_
  refine lv_if_ge (tgt := 22) hx hb dX6_lifeSettled_15 (by decide) (fun hc => ?_) (fun hc => ?_)
  · have h := o_t h hc
    refine lv_aload_n hx hb dX6_lifeSettled_22 rfl (lv_at hl 1 rfl) ?_
    refine lv_iconst (v := 2) hx hb dX6_lifeSettled_23 (by decide) ?_
    obtain ⟨x3, ex3, h⟩ := o_b h
    refine call_iV (As := [.int (2 : Int32)]) (rest := []) (ws2 := [(a0, .inr (9, [.int (0 : Int32), .ref a1, .ref a2, .ref a3, .int sm, .ref a4, .int ln, .int nx, .int cd, .int dg, .int pw, .long hs])), (a1, .inl (cI, 378, .inl x2.2)), (a2, .inl (cI, 378, .inl x1)), (a3, .inl (cI, 1512, .inl sv)), (a4, .inl (cI, 120, .inl mt))]) ⟨hx, hb, hml, hown, hts⟩ (cX6_lives_ok l G cI cG a0 a1 a2 a3 a4 fu (0 : Int32) x2.2 x1 sv sm mt ln nx cd dg pw hs (2 : Int32) x3 ex3) (cwV 1 hts gX6_lifeSettled_X6_lives rfl rfl rfl hdX6_lives ⟨Nat.le_of_ble_eq_true rfl, Nat.le_of_ble_eq_true rfl⟩) hP hD hS hA hK 9 rfl rfl rfl [0, 1, 2, 3, 4] rfl rfl rfl rfl rfl rfl rfl rfl hl.1 (Nat.le_of_ble_eq_true rfl) dX6_lifeSettled_24 ⟨Nat.zero_le _, Nat.zero_le _⟩ (fun H locs hP hD hS => ?_)
    refine lv_istore_n (lv' := [(2, .int x3), (1, .int x2.1), (0, .ref a0)]) hx hb dX6_lifeSettled_27 rfl hl (by decide) rfl (fun ls hl => ?_)
    refine lv_aload_n hx hb dX6_lifeSettled_28 rfl (lv_at hl 2 rfl) ?_
    obtain ⟨x4, ex4, h⟩ := o_b h
    refine call_vV (As := []) (rest := []) (ws2 := [(a0, .inr (9, [.int (0 : Int32), .ref a1, .ref a2, .ref a3, .int sm, .ref a4, .int ln, .int nx, .int cd, .int dg, .int pw, .long hs])), (a1, .inl (cI, 378, .inl x4)), (a2, .inl (cI, 378, .inl x1)), (a3, .inl (cI, 1512, .inl sv)), (a4, .inl (cI, 120, .inl mt))]) ⟨hx, hb, hml, hown, hts⟩ (cX6_release_ok l G cI cG a0 a1 a2 a3 a4 fu (0 : Int32) x2.2 x1 sv sm mt ln nx cd dg pw hs x4 ex4) (cwV 0 hts gX6_lifeSettled_X6_release rfl rfl rfl hdX6_release ⟨Nat.le_of_ble_eq_true rfl, Nat.le_of_ble_eq_true rfl⟩) hP hD hS hA hK 9 rfl rfl rfl [0, 1, 2, 3, 4] rfl rfl rfl rfl rfl rfl rfl rfl hl.1 (Nat.le_of_ble_eq_true rfl) dX6_lifeSettled_29 ⟨Nat.zero_le _, Nat.zero_le _⟩ (fun H locs hP hD hS => ?_)
    refine lv_iload_n hx hb dX6_lifeSettled_32 rfl (lv_at hl 0 rfl) ?_
    obtain rfl := o_s h
    rw [hQ]
    exact end_i hx hb hr rfl hP hD hS dX6_lifeSettled_33 hlocks
  · have h := o_f h hc
    refine lv_iconst (v := 0) hx hb dX6_lifeSettled_18 (by decide) ?_
    refine lv_goto (tgt := 27) hx hb dX6_lifeSettled_19 (by decide) ?_
    refine lv_istore_n (lv' := [(2, .int (0 : Int32)), (1, .int x2.1), (0, .ref a0)]) hx hb dX6_lifeSettled_27 rfl hl (by decide) rfl (fun ls hl => ?_)
    refine lv_aload_n hx hb dX6_lifeSettled_28 rfl (lv_at hl 2 rfl) ?_
    obtain ⟨x5, ex5, h⟩ := o_b h
    refine call_vV (As := []) (rest := []) (ws2 := [(a0, .inr (9, [.int (0 : Int32), .ref a1, .ref a2, .ref a3, .int sm, .ref a4, .int ln, .int nx, .int cd, .int dg, .int pw, .long hs])), (a1, .inl (cI, 378, .inl x5)), (a2, .inl (cI, 378, .inl x1)), (a3, .inl (cI, 1512, .inl sv)), (a4, .inl (cI, 120, .inl mt))]) ⟨hx, hb, hml, hown, hts⟩ (cX6_release_ok l G cI cG a0 a1 a2 a3 a4 fu (0 : Int32) x2.2 x1 sv sm mt ln nx cd dg pw hs x5 ex5) (cwV 0 hts gX6_lifeSettled_X6_release rfl rfl rfl hdX6_release ⟨Nat.le_of_ble_eq_true rfl, Nat.le_of_ble_eq_true rfl⟩) hP hD hS hA hK 9 rfl rfl rfl [0, 1, 2, 3, 4] rfl rfl rfl rfl rfl rfl rfl rfl hl.1 (Nat.le_of_ble_eq_true rfl) dX6_lifeSettled_29 ⟨Nat.zero_le _, Nat.zero_le _⟩ (fun H locs hP hD hS => ?_)
    refine lv_iload_n hx hb dX6_lifeSettled_32 rfl (lv_at hl 0 rfl) ?_
    obtain rfl := o_s h
    rw [hQ]
    exact end_i hx hb hr rfl hP hD hS dX6_lifeSettled_33 hlocks
theorem hdX6_append : yX6_append.cls = RX6 ∧ yX6_append.cls ≠ "java/lang/invoke/MethodHandle" ∧ yX6_append.cls ≠ "java/lang/invoke/VarHandle" ∧ (parseMethodDescriptor yX6_append.desc).map (fun d => d.parameters.length) = some 1 := by decide +kernel
set_option maxHeartbeats 4000000 in
set_option maxRecDepth 100000 in
theorem cX6_append_ok (l : Launch) (G : va_G) (cI cG : ClassId) (a0 a1 a2 a3 a4 : Nat) (th : Int32) (sa : (Nat → Int32)) (asd : (Nat → Int32)) (sv : (Nat → Int32)) (sm : Int32) (mt : (Nat → Int32)) (ln : Int32) (nx : Int32) (cd : Int32) (dg : Int32) (pw : Int32) (hs : Int64) (p1 : Int32) (out : Int32 × Int32 × (Nat → Int32) × Int32) (hf : fX6_append th mt ln p1 = some out) : CI l G (tyz cI cG) yX6_append wsX6_append ({ frames := 1, cells := 0, slots := 0, locals := 22 } : Room) [.ref a0, .int p1] [(a0, .inr (9, [.int th, .ref a1, .ref a2, .ref a3, .int sm, .ref a4, .int ln, .int nx, .int cd, .int dg, .int pw, .long hs])), (a1, .inl (cI, 378, .inl sa)), (a2, .inl (cI, 378, .inl asd)), (a3, .inl (cI, 1512, .inl sv)), (a4, .inl (cI, 120, .inl mt))] out.1 [(a0, .inr (9, [.int out.2.1, .ref a1, .ref a2, .ref a3, .int sm, .ref a4, .int out.2.2.2, .int nx, .int cd, .int dg, .int pw, .long hs])), (a1, .inl (cI, 378, .inl sa)), (a2, .inl (cI, 378, .inl asd)), (a3, .inl (cI, 1512, .inl sv)), (a4, .inl (cI, 120, .inl out.2.2.1))] := by
  intro sz
  refine Met.ofW (cc := cX6_append) (maxL := 2) (ret := (some .int)) (by decide) rfl ?_
  intro p e s m args below meth c s₁ B hml hv
  obtain ⟨rfl, hsz, hP, hK, hD0⟩ := hv
  have hx := B.exec
  have hb := B.bytes
  have hr := B.returns
  have hts := atoms_spec (ws := wsX6_append) B.pre
  have hown : s.vm.findClass RX6 = some m.cls := findClass_of_methodNamed B.named
  have hlocks := B.notSynchronized
  subst hsz
  have hD := hD0.self (sz := s.heap.size)
  generalize hAe : va_A [(a0, .inr (9, [.int th, .ref a1, .ref a2, .ref a3, .int sm, .ref a4, .int ln, .int nx, .int cd, .int dg, .int pw, .long hs])), (a1, .inl (cI, 378, .inl sa)), (a2, .inl (cI, 378, .inl asd)), (a3, .inl (cI, 1512, .inl sv)), (a4, .inl (cI, 120, .inl mt))] s.heap.size = A at hD ⊢
  have hA : ∀ q : Nat, s.heap.size ≤ q → A q := fun q h => by rw [← hAe]; exact Or.inr h
  have hS : va_S A s.heap s.heap [] := va_S.rf
  have hw0 := hts (.fieldLink RX6 22 "SpeedTurnsModel" "thrown" "I") (List.mem_of_getElem? (i := 1) rfl)
  have hin6 : ∀ w ∈ u_ws RX6 TX6 12, w ∈ wsX6_append := by decide +kernel
  have hw2 := hts (.fieldLink RX6 172 "SpeedTurnsModel" "length" "I") (List.mem_of_getElem? (i := 2) rfl)
  have hw3 := hts (.fieldLink RX6 19 "SpeedTurnsModel" "text" "[I") (List.mem_of_getElem? (i := 3) rfl)
  show W p l e ({ frames := 1, cells := 0, slots := 0, locals := 22 } : Room) s m _ below meth c s.heap [] 0 0 _ _
  refine W_genQ (fun Q hQ => ?_)
  have h := hf
  rw [fX6_append] at h
  have hl := lv_entry ([.ref a0, .int p1]) (n := 2) (Nat.le_of_ble_eq_true rfl)
  rw [lg_entry_eq]
  generalize (lg_sl ([.ref a0, .int p1]) ++ List.replicate (2 - (lg_sl ([.ref a0, .int p1])).length) Slot.unset).toArray = ls at hl ⊢
  have hl : lv_has ls 2 [(0, .ref a0), (1, .int p1)] := hl
  refine lv_aload_n hx hb dX6_append_0 rfl (lv_at hl 0 rfl) ?_
  refine lv_iconst (v := 0) hx hb dX6_append_1 (by decide) ?_
  refine va_put (D := G) (ci := 9) (v := .int (0 : Int32)) (ty := .int) (C := RX6) (T := TX6) (N := 12) hx hb hts hin6 tyX6 tyX6_ok nmX6 hown hK.1 hP hD hS 0 rfl rfl 0 (by decide) hw0 (fun _ h9 => h9) rfl (by decide +kernel) rfl rfl (Nat.le_of_ble_eq_true rfl) dX6_append_2 (fun H locs hP hD hS => ?_)
  have hP : va_P G vwCl [(a0, .inr (9, [.int (0 : Int32), .ref a1, .ref a2, .ref a3, .int sm, .ref a4, .int ln, .int nx, .int cd, .int dg, .int pw, .long hs])), (a1, .inl (cI, 378, .inl sa)), (a2, .inl (cI, 378, .inl asd)), (a3, .inl (cI, 1512, .inl sv)), (a4, .inl (cI, 120, .inl mt))] H := hP
  have hD : va_D A [(a0, .inr (9, [.int (0 : Int32), .ref a1, .ref a2, .ref a3, .int sm, .ref a4, .int ln, .int nx, .int cd, .int dg, .int pw, .long hs])), (a1, .inl (cI, 378, .inl sa)), (a2, .inl (cI, 378, .inl asd)), (a3, .inl (cI, 1512, .inl sv)), (a4, .inl (cI, 120, .inl mt))] := hD
  refine lv_iload_n hx hb dX6_append_5 rfl (lv_at hl 1 rfl) ?_
  refine lv_iconst (v := 0) hx hb dX6_append_6 (by decide) ?_
  refine lv_bipush (v := 127) hx hb dX6_append_7 (by decide) ?_
  obtain ⟨x1, ex1, h⟩ := o_b h
  refine call_iS (As := [.int p1, .int (0 : Int32), .int (127 : Int32)]) (rest := []) (ws2 := [(a0, .inr (9, [.int (0 : Int32), .ref a1, .ref a2, .ref a3, .int sm, .ref a4, .int ln, .int nx, .int cd, .int dg, .int pw, .long hs])), (a1, .inl (cI, 378, .inl sa)), (a2, .inl (cI, 378, .inl asd)), (a3, .inl (cI, 1512, .inl sv)), (a4, .inl (cI, 120, .inl mt))]) ⟨hx, hb, hml, hown, hts⟩ (cX6_in_ok l G cI cG p1 (0 : Int32) (127 : Int32) x1 ex1) (va_cwS 3 hts gX6_append_X6_in rfl rfl rfl hdX6_in ⟨Nat.le_of_ble_eq_true rfl, Nat.le_of_ble_eq_true rfl⟩) hP hD hS hA hK [] rfl rfl rfl rfl rfl rfl rfl rfl hl.1 (Nat.le_of_ble_eq_true rfl) dX6_append_9 ⟨Nat.zero_le _, Nat.zero_le _⟩ (fun H locs hP hD hS => ?_)
  refine lv_if_ne (tgt := 21) hx hb dX6_append_12 (by decide) (fun hc => ?_) (fun hc => ?_)
  · have h := o_f h hc
    refine lv_aload_n hx hb dX6_append_21 rfl (lv_at hl 0 rfl) ?_
    refine va_get (D := G) (ci := 9) (v := .int ln) (C := RX6) (T := TX6) (N := 12) hx hb hts hin6 hown hK.1 hP 0 rfl rfl 6 (by decide) hw2 (fun _ h9 => h9) rfl dX6_append_22 ?_
    refine lv_bipush (v := 120) hx hb dX6_append_25 (by decide) ?_
    refine lv_icmp_ne (tgt := 36) hx hb dX6_append_27 (by decide) (fun hc => ?_) (fun hc => ?_)
    · have h := o_f h hc
      refine lv_aload_n hx hb dX6_append_36 rfl (lv_at hl 0 rfl) ?_
      refine va_get (D := G) (ci := 9) (v := .ref a4) (C := RX6) (T := TX6) (N := 12) hx hb hts hin6 hown hK.1 hP 0 rfl rfl 5 (by decide) hw3 (fun _ h9 => h9) rfl dX6_append_37 ?_
      refine lv_aload_n hx hb dX6_append_40 rfl (lv_at hl 0 rfl) ?_
      refine va_get (D := G) (ci := 9) (v := .int ln) (C := RX6) (T := TX6) (N := 12) hx hb hts hin6 hown hK.1 hP 0 rfl rfl 6 (by decide) hw2 (fun _ h9 => h9) rfl dX6_append_41 ?_
      refine lv_iload_n hx hb dX6_append_44 rfl (lv_at hl 1 rfl) ?_
      obtain ⟨hin, h⟩ := o_g h
      refine va_iast hx hb hK.1 hP hD hS 4 0 rfl rfl hin dX6_append_45 (fun H locs hP hD hS => ?_)
      have hP : va_P G vwCl [(a0, .inr (9, [.int (0 : Int32), .ref a1, .ref a2, .ref a3, .int sm, .ref a4, .int ln, .int nx, .int cd, .int dg, .int pw, .long hs])), (a1, .inl (cI, 378, .inl sa)), (a2, .inl (cI, 378, .inl asd)), (a3, .inl (cI, 1512, .inl sv)), (a4, .inl (cI, 120, .inl (upd mt (ln).toNatClampNeg p1)))] H := hP
      have hD : va_D A [(a0, .inr (9, [.int (0 : Int32), .ref a1, .ref a2, .ref a3, .int sm, .ref a4, .int ln, .int nx, .int cd, .int dg, .int pw, .long hs])), (a1, .inl (cI, 378, .inl sa)), (a2, .inl (cI, 378, .inl asd)), (a3, .inl (cI, 1512, .inl sv)), (a4, .inl (cI, 120, .inl (upd mt (ln).toNatClampNeg p1)))] := hD
      refine lv_aload_n hx hb dX6_append_46 rfl (lv_at hl 0 rfl) ?_
      refine lv_dup hx hb dX6_append_47 rfl ?_
      refine va_get (D := G) (ci := 9) (v := .int ln) (C := RX6) (T := TX6) (N := 12) hx hb hts hin6 hown hK.1 hP 0 rfl rfl 6 (by decide) hw2 (fun _ h9 => h9) rfl dX6_append_48 ?_
      refine lv_iconst (v := 1) hx hb dX6_append_51 (by decide) ?_
      refine lv_iadd hx hb dX6_append_52 ?_
      refine va_put (D := G) (ci := 9) (v := .int (ln + (1 : Int32))) (ty := .int) (C := RX6) (T := TX6) (N := 12) hx hb hts hin6 tyX6 tyX6_ok nmX6 hown hK.1 hP hD hS 0 rfl rfl 6 (by decide) hw2 (fun _ h9 => h9) rfl (by decide +kernel) rfl rfl (Nat.le_of_ble_eq_true rfl) dX6_append_53 (fun H locs hP hD hS => ?_)
      have hP : va_P G vwCl [(a0, .inr (9, [.int (0 : Int32), .ref a1, .ref a2, .ref a3, .int sm, .ref a4, .int (ln + (1 : Int32)), .int nx, .int cd, .int dg, .int pw, .long hs])), (a1, .inl (cI, 378, .inl sa)), (a2, .inl (cI, 378, .inl asd)), (a3, .inl (cI, 1512, .inl sv)), (a4, .inl (cI, 120, .inl (upd mt (ln).toNatClampNeg p1)))] H := hP
      have hD : va_D A [(a0, .inr (9, [.int (0 : Int32), .ref a1, .ref a2, .ref a3, .int sm, .ref a4, .int (ln + (1 : Int32)), .int nx, .int cd, .int dg, .int pw, .long hs])), (a1, .inl (cI, 378, .inl sa)), (a2, .inl (cI, 378, .inl asd)), (a3, .inl (cI, 1512, .inl sv)), (a4, .inl (cI, 120, .inl (upd mt (ln).toNatClampNeg p1)))] := hD
      refine lv_aload_n hx hb dX6_append_56 rfl (lv_at hl 0 rfl) ?_
      refine va_get (D := G) (ci := 9) (v := .int (ln + (1 : Int32))) (C := RX6) (T := TX6) (N := 12) hx hb hts hin6 hown hK.1 hP 0 rfl rfl 6 (by decide) hw2 (fun _ h9 => h9) rfl dX6_append_57 ?_
      obtain rfl := o_s h
      rw [hQ]
      exact end_i hx hb hr rfl hP hD hS dX6_append_60 hlocks
    · have h := o_t h hc
      refine lv_aload_n hx hb dX6_append_30 rfl (lv_at hl 0 rfl) ?_
      refine lv_iconst (v := 2) hx hb dX6_append_31 (by decide) ?_
      obtain ⟨x2, ex2, h⟩ := o_b h
      refine call_iV (As := [.int (2 : Int32)]) (rest := []) (ws2 := [(a0, .inr (9, [.int x2.2, .ref a1, .ref a2, .ref a3, .int sm, .ref a4, .int ln, .int nx, .int cd, .int dg, .int pw, .long hs])), (a1, .inl (cI, 378, .inl sa)), (a2, .inl (cI, 378, .inl asd)), (a3, .inl (cI, 1512, .inl sv)), (a4, .inl (cI, 120, .inl mt))]) ⟨hx, hb, hml, hown, hts⟩ (cX6_fails_ok l G cI cG a0 a1 a2 a3 a4 (0 : Int32) sa asd sv sm mt ln nx cd dg pw hs (2 : Int32) x2 ex2) (cwV 1 hts gX6_append_X6_fails rfl rfl rfl hdX6_fails ⟨Nat.le_of_ble_eq_true rfl, Nat.le_of_ble_eq_true rfl⟩) hP hD hS hA hK 9 rfl rfl rfl [0, 1, 2, 3, 4] rfl rfl rfl rfl rfl rfl rfl rfl hl.1 (Nat.le_of_ble_eq_true rfl) dX6_append_32 ⟨Nat.zero_le _, Nat.zero_le _⟩ (fun H locs hP hD hS => ?_)
      obtain rfl := o_s h
      rw [hQ]
      exact end_i hx hb hr rfl hP hD hS dX6_append_35 hlocks
  · have h := o_t h hc
    refine lv_aload_n hx hb dX6_append_15 rfl (lv_at hl 0 rfl) ?_
    refine lv_iconst (v := 1) hx hb dX6_append_16 (by decide) ?_
    obtain ⟨x3, ex3, h⟩ := o_b h
    refine call_iV (As := [.int (1 : Int32)]) (rest := []) (ws2 := [(a0, .inr (9, [.int x3.2, .ref a1, .ref a2, .ref a3, .int sm, .ref a4, .int ln, .int nx, .int cd, .int dg, .int pw, .long hs])), (a1, .inl (cI, 378, .inl sa)), (a2, .inl (cI, 378, .inl asd)), (a3, .inl (cI, 1512, .inl sv)), (a4, .inl (cI, 120, .inl mt))]) ⟨hx, hb, hml, hown, hts⟩ (cX6_fails_ok l G cI cG a0 a1 a2 a3 a4 (0 : Int32) sa asd sv sm mt ln nx cd dg pw hs (1 : Int32) x3 ex3) (cwV 1 hts gX6_append_X6_fails rfl rfl rfl hdX6_fails ⟨Nat.le_of_ble_eq_true rfl, Nat.le_of_ble_eq_true rfl⟩) hP hD hS hA hK 9 rfl rfl rfl [0, 1, 2, 3, 4] rfl rfl rfl rfl rfl rfl rfl rfl hl.1 (Nat.le_of_ble_eq_true rfl) dX6_append_17 ⟨Nat.zero_le _, Nat.zero_le _⟩ (fun H locs hP hD hS => ?_)
    obtain rfl := o_s h
    rw [hQ]
    exact end_i hx hb hr rfl hP hD hS dX6_append_20 hlocks
theorem hdX6_clearText : yX6_clearText.cls = RX6 ∧ yX6_clearText.cls ≠ "java/lang/invoke/MethodHandle" ∧ yX6_clearText.cls ≠ "java/lang/invoke/VarHandle" ∧ (parseMethodDescriptor yX6_clearText.desc).map (fun d => d.parameters.length) = some 0 := by decide +kernel
set_option maxHeartbeats 4000000 in
set_option maxRecDepth 100000 in
theorem cX6_clearText_ok (l : Launch) (G : va_G) (cI cG : ClassId) (a0 a1 a2 a3 a4 : Nat) (th : Int32) (sa : (Nat → Int32)) (asd : (Nat → Int32)) (sv : (Nat → Int32)) (sm : Int32) (mt : (Nat → Int32)) (ln : Int32) (nx : Int32) (cd : Int32) (dg : Int32) (pw : Int32) (hs : Int64) (out : Int32 × Int32 × Int32) (hf : fX6_clearText th ln = some out) : CI l G (tyz cI cG) yX6_clearText wsX6_clearText ({ frames := 0, cells := 0, slots := 0, locals := 0 } : Room) [.ref a0] [(a0, .inr (9, [.int th, .ref a1, .ref a2, .ref a3, .int sm, .ref a4, .int ln, .int nx, .int cd, .int dg, .int pw, .long hs])), (a1, .inl (cI, 378, .inl sa)), (a2, .inl (cI, 378, .inl asd)), (a3, .inl (cI, 1512, .inl sv)), (a4, .inl (cI, 120, .inl mt))] out.1 [(a0, .inr (9, [.int out.2.1, .ref a1, .ref a2, .ref a3, .int sm, .ref a4, .int out.2.2, .int nx, .int cd, .int dg, .int pw, .long hs])), (a1, .inl (cI, 378, .inl sa)), (a2, .inl (cI, 378, .inl asd)), (a3, .inl (cI, 1512, .inl sv)), (a4, .inl (cI, 120, .inl mt))] := by
  intro sz
  refine Met.ofW (cc := cX6_clearText) (maxL := 2) (ret := (some .int)) (by decide) rfl ?_
  intro p e s m args below meth c s₁ B hml hv
  obtain ⟨rfl, hsz, hP, hK, hD0⟩ := hv
  have hx := B.exec
  have hb := B.bytes
  have hr := B.returns
  have hts := atoms_spec (ws := wsX6_clearText) B.pre
  have hown : s.vm.findClass RX6 = some m.cls := findClass_of_methodNamed B.named
  have hlocks := B.notSynchronized
  subst hsz
  have hD := hD0.self (sz := s.heap.size)
  generalize hAe : va_A [(a0, .inr (9, [.int th, .ref a1, .ref a2, .ref a3, .int sm, .ref a4, .int ln, .int nx, .int cd, .int dg, .int pw, .long hs])), (a1, .inl (cI, 378, .inl sa)), (a2, .inl (cI, 378, .inl asd)), (a3, .inl (cI, 1512, .inl sv)), (a4, .inl (cI, 120, .inl mt))] s.heap.size = A at hD ⊢
  have hA : ∀ q : Nat, s.heap.size ≤ q → A q := fun q h => by rw [← hAe]; exact Or.inr h
  have hS : va_S A s.heap s.heap [] := va_S.rf
  have hw0 := hts (.fieldLink RX6 22 "SpeedTurnsModel" "thrown" "I") (List.mem_of_getElem? (i := 1) rfl)
  have hin6 : ∀ w ∈ u_ws RX6 TX6 12, w ∈ wsX6_clearText := by decide +kernel
  have hw2 := hts (.fieldLink RX6 172 "SpeedTurnsModel" "length" "I") (List.mem_of_getElem? (i := 2) rfl)
  show W p l e ({ frames := 0, cells := 0, slots := 0, locals := 0 } : Room) s m _ below meth c s.heap [] 0 0 _ _
  refine W_genQ (fun Q hQ => ?_)
  have h := hf
  rw [fX6_clearText] at h
  have hl := lv_entry ([.ref a0]) (n := 2) (Nat.le_of_ble_eq_true rfl)
  rw [lg_entry_eq]
  generalize (lg_sl ([.ref a0]) ++ List.replicate (2 - (lg_sl ([.ref a0])).length) Slot.unset).toArray = ls at hl ⊢
  have hl : lv_has ls 2 [(0, .ref a0)] := hl
  refine lv_aload_n hx hb dX6_clearText_0 rfl (lv_at hl 0 rfl) ?_
  refine lv_iconst (v := 0) hx hb dX6_clearText_1 (by decide) ?_
  refine va_put (D := G) (ci := 9) (v := .int (0 : Int32)) (ty := .int) (C := RX6) (T := TX6) (N := 12) hx hb hts hin6 tyX6 tyX6_ok nmX6 hown hK.1 hP hD hS 0 rfl rfl 0 (by decide) hw0 (fun _ h9 => h9) rfl (by decide +kernel) rfl rfl (Nat.le_of_ble_eq_true rfl) dX6_clearText_2 (fun H locs hP hD hS => ?_)
  have hP : va_P G vwCl [(a0, .inr (9, [.int (0 : Int32), .ref a1, .ref a2, .ref a3, .int sm, .ref a4, .int ln, .int nx, .int cd, .int dg, .int pw, .long hs])), (a1, .inl (cI, 378, .inl sa)), (a2, .inl (cI, 378, .inl asd)), (a3, .inl (cI, 1512, .inl sv)), (a4, .inl (cI, 120, .inl mt))] H := hP
  have hD : va_D A [(a0, .inr (9, [.int (0 : Int32), .ref a1, .ref a2, .ref a3, .int sm, .ref a4, .int ln, .int nx, .int cd, .int dg, .int pw, .long hs])), (a1, .inl (cI, 378, .inl sa)), (a2, .inl (cI, 378, .inl asd)), (a3, .inl (cI, 1512, .inl sv)), (a4, .inl (cI, 120, .inl mt))] := hD
  refine lv_aload_n hx hb dX6_clearText_5 rfl (lv_at hl 0 rfl) ?_
  refine va_get (D := G) (ci := 9) (v := .int ln) (C := RX6) (T := TX6) (N := 12) hx hb hts hin6 hown hK.1 hP 0 rfl rfl 6 (by decide) hw2 (fun _ h9 => h9) rfl dX6_clearText_6 ?_
  refine lv_istore_n (lv' := [(1, .int ln), (0, .ref a0)]) hx hb dX6_clearText_9 rfl hl (by decide) rfl (fun ls hl => ?_)
  refine lv_aload_n hx hb dX6_clearText_10 rfl (lv_at hl 1 rfl) ?_
  refine lv_iconst (v := 0) hx hb dX6_clearText_11 (by decide) ?_
  refine va_put (D := G) (ci := 9) (v := .int (0 : Int32)) (ty := .int) (C := RX6) (T := TX6) (N := 12) hx hb hts hin6 tyX6 tyX6_ok nmX6 hown hK.1 hP hD hS 0 rfl rfl 6 (by decide) hw2 (fun _ h9 => h9) rfl (by decide +kernel) rfl rfl (Nat.le_of_ble_eq_true rfl) dX6_clearText_12 (fun H locs hP hD hS => ?_)
  have hP : va_P G vwCl [(a0, .inr (9, [.int (0 : Int32), .ref a1, .ref a2, .ref a3, .int sm, .ref a4, .int (0 : Int32), .int nx, .int cd, .int dg, .int pw, .long hs])), (a1, .inl (cI, 378, .inl sa)), (a2, .inl (cI, 378, .inl asd)), (a3, .inl (cI, 1512, .inl sv)), (a4, .inl (cI, 120, .inl mt))] H := hP
  have hD : va_D A [(a0, .inr (9, [.int (0 : Int32), .ref a1, .ref a2, .ref a3, .int sm, .ref a4, .int (0 : Int32), .int nx, .int cd, .int dg, .int pw, .long hs])), (a1, .inl (cI, 378, .inl sa)), (a2, .inl (cI, 378, .inl asd)), (a3, .inl (cI, 1512, .inl sv)), (a4, .inl (cI, 120, .inl mt))] := hD
  refine lv_iload_n hx hb dX6_clearText_15 rfl (lv_at hl 0 rfl) ?_
  obtain rfl := o_s h
  rw [hQ]
  exact end_i hx hb hr rfl hP hD hS dX6_clearText_16 hlocks
theorem hdX6_here : yX6_here.cls = RX6 ∧ yX6_here.cls ≠ "java/lang/invoke/MethodHandle" ∧ yX6_here.cls ≠ "java/lang/invoke/VarHandle" ∧ (parseMethodDescriptor yX6_here.desc).map (fun d => d.parameters.length) = some 0 := by decide +kernel
set_option maxHeartbeats 4000000 in
set_option maxRecDepth 100000 in
theorem cX6_here_ok (l : Launch) (G : va_G) (cI cG : ClassId) (a0 a1 a2 a3 a4 : Nat) (th : Int32) (sa : (Nat → Int32)) (asd : (Nat → Int32)) (sv : (Nat → Int32)) (sm : Int32) (mt : (Nat → Int32)) (ln : Int32) (nx : Int32) (cd : Int32) (dg : Int32) (pw : Int32) (hs : Int64) (out : Int32) (hf : fX6_here mt ln nx = some out) : CI l G (tyz cI cG) yX6_here wsX6_here ({ frames := 0, cells := 0, slots := 0, locals := 0 } : Room) [.ref a0] [(a0, .inr (9, [.int th, .ref a1, .ref a2, .ref a3, .int sm, .ref a4, .int ln, .int nx, .int cd, .int dg, .int pw, .long hs])), (a1, .inl (cI, 378, .inl sa)), (a2, .inl (cI, 378, .inl asd)), (a3, .inl (cI, 1512, .inl sv)), (a4, .inl (cI, 120, .inl mt))] out [(a0, .inr (9, [.int th, .ref a1, .ref a2, .ref a3, .int sm, .ref a4, .int ln, .int nx, .int cd, .int dg, .int pw, .long hs])), (a1, .inl (cI, 378, .inl sa)), (a2, .inl (cI, 378, .inl asd)), (a3, .inl (cI, 1512, .inl sv)), (a4, .inl (cI, 120, .inl mt))] := by
  intro sz
  refine Met.ofW (cc := cX6_here) (maxL := 1) (ret := (some .int)) (by decide) rfl ?_
  intro p e s m args below meth c s₁ B hml hv
  obtain ⟨rfl, hsz, hP, hK, hD0⟩ := hv
  have hx := B.exec
  have hb := B.bytes
  have hr := B.returns
  have hts := atoms_spec (ws := wsX6_here) B.pre
  have hown : s.vm.findClass RX6 = some m.cls := findClass_of_methodNamed B.named
  have hlocks := B.notSynchronized
  subst hsz
  have hD := hD0.self (sz := s.heap.size)
  generalize hAe : va_A [(a0, .inr (9, [.int th, .ref a1, .ref a2, .ref a3, .int sm, .ref a4, .int ln, .int nx, .int cd, .int dg, .int pw, .long hs])), (a1, .inl (cI, 378, .inl sa)), (a2, .inl (cI, 378, .inl asd)), (a3, .inl (cI, 1512, .inl sv)), (a4, .inl (cI, 120, .inl mt))] s.heap.size = A at hD ⊢
  have hA : ∀ q : Nat, s.heap.size ≤ q → A q := fun q h => by rw [← hAe]; exact Or.inr h
  have hS : va_S A s.heap s.heap [] := va_S.rf
  have hw0 := hts (.fieldLink RX6 175 "SpeedTurnsModel" "next" "I") (List.mem_of_getElem? (i := 1) rfl)
  have hin6 : ∀ w ∈ u_ws RX6 TX6 12, w ∈ wsX6_here := by decide +kernel
  have hw2 := hts (.fieldLink RX6 172 "SpeedTurnsModel" "length" "I") (List.mem_of_getElem? (i := 2) rfl)
  have hw3 := hts (.fieldLink RX6 19 "SpeedTurnsModel" "text" "[I") (List.mem_of_getElem? (i := 3) rfl)
  show W p l e ({ frames := 0, cells := 0, slots := 0, locals := 0 } : Room) s m _ below meth c s.heap [] 0 0 _ _
  refine W_genQ (fun Q hQ => ?_)
  have h := hf
  rw [fX6_here] at h
  have hl := lv_entry ([.ref a0]) (n := 1) (Nat.le_of_ble_eq_true rfl)
  rw [lg_entry_eq]
  generalize (lg_sl ([.ref a0]) ++ List.replicate (1 - (lg_sl ([.ref a0])).length) Slot.unset).toArray = ls at hl ⊢
  have hl : lv_has ls 1 [(0, .ref a0)] := hl
  refine lv_aload_n hx hb dX6_here_0 rfl (lv_at hl 0 rfl) ?_
  refine va_get (D := G) (ci := 9) (v := .int nx) (C := RX6) (T := TX6) (N := 12) hx hb hts hin6 hown hK.1 hP 0 rfl rfl 7 (by decide) hw0 (fun _ h9 => h9) rfl dX6_here_1 ?_
  refine lv_aload_n hx hb dX6_here_4 rfl (lv_at hl 0 rfl) ?_
  refine va_get (D := G) (ci := 9) (v := .int ln) (C := RX6) (T := TX6) (N := 12) hx hb hts hin6 hown hK.1 hP 0 rfl rfl 6 (by decide) hw2 (fun _ h9 => h9) rfl dX6_here_5 ?_
  refine lv_icmp_ge (tgt := 23) hx hb dX6_here_8 (by decide) (fun hc => ?_) (fun hc => ?_)
  · have h := o_t h hc
    refine lv_iconst (v := (-1)) hx hb dX6_here_23 (by decide) ?_
    obtain rfl := o_s h
    rw [hQ]
    exact end_i hx hb hr rfl hP hD hS dX6_here_24 hlocks
  · have h := o_f h hc
    refine lv_aload_n hx hb dX6_here_11 rfl (lv_at hl 0 rfl) ?_
    refine va_get (D := G) (ci := 9) (v := .ref a4) (C := RX6) (T := TX6) (N := 12) hx hb hts hin6 hown hK.1 hP 0 rfl rfl 5 (by decide) hw3 (fun _ h9 => h9) rfl dX6_here_12 ?_
    refine lv_aload_n hx hb dX6_here_15 rfl (lv_at hl 0 rfl) ?_
    refine va_get (D := G) (ci := 9) (v := .int nx) (C := RX6) (T := TX6) (N := 12) hx hb hts hin6 hown hK.1 hP 0 rfl rfl 7 (by decide) hw0 (fun _ h9 => h9) rfl dX6_here_16 ?_
    obtain ⟨hin, h⟩ := o_g h
    refine va_iald hx hb hK.1 hP 4 0 rfl rfl hin dX6_here_19 ?_
    refine lv_goto (tgt := 24) hx hb dX6_here_20 (by decide) ?_
    obtain rfl := o_s h
    rw [hQ]
    exact end_i hx hb hr rfl hP hD hS dX6_here_24 hlocks
theorem hdX6_isDigit : yX6_isDigit.cls = RX6 ∧ yX6_isDigit.cls ≠ "java/lang/invoke/MethodHandle" ∧ yX6_isDigit.cls ≠ "java/lang/invoke/VarHandle" ∧ (parseMethodDescriptor yX6_isDigit.desc).map (fun d => d.parameters.length) = some 0 := by decide +kernel
set_option maxHeartbeats 4000000 in
set_option maxRecDepth 100000 in
theorem cX6_isDigit_ok (l : Launch) (G : va_G) (cI cG : ClassId) (a0 a1 a2 a3 a4 : Nat) (th : Int32) (sa : (Nat → Int32)) (asd : (Nat → Int32)) (sv : (Nat → Int32)) (sm : Int32) (mt : (Nat → Int32)) (ln : Int32) (nx : Int32) (cd : Int32) (dg : Int32) (pw : Int32) (hs : Int64) (out : Bool) (hf : fX6_isDigit mt ln nx = some out) : CI l G (tyz cI cG) yX6_isDigit wsX6_isDigit ({ frames := 1, cells := 0, slots := 0, locals := 22 } : Room) [.ref a0] [(a0, .inr (9, [.int th, .ref a1, .ref a2, .ref a3, .int sm, .ref a4, .int ln, .int nx, .int cd, .int dg, .int pw, .long hs])), (a1, .inl (cI, 378, .inl sa)), (a2, .inl (cI, 378, .inl asd)), (a3, .inl (cI, 1512, .inl sv)), (a4, .inl (cI, 120, .inl mt))] (bI out) [(a0, .inr (9, [.int th, .ref a1, .ref a2, .ref a3, .int sm, .ref a4, .int ln, .int nx, .int cd, .int dg, .int pw, .long hs])), (a1, .inl (cI, 378, .inl sa)), (a2, .inl (cI, 378, .inl asd)), (a3, .inl (cI, 1512, .inl sv)), (a4, .inl (cI, 120, .inl mt))] := by
  intro sz
  refine Met.ofW (cc := cX6_isDigit) (maxL := 1) (ret := (some .boolean)) (by decide) rfl ?_
  intro p e s m args below meth c s₁ B hml hv
  obtain ⟨rfl, hsz, hP, hK, hD0⟩ := hv
  have hx := B.exec
  have hb := B.bytes
  have hr := B.returns
  have hts := atoms_spec (ws := wsX6_isDigit) B.pre
  have hown : s.vm.findClass RX6 = some m.cls := findClass_of_methodNamed B.named
  have hlocks := B.notSynchronized
  subst hsz
  have hD := hD0.self (sz := s.heap.size)
  generalize hAe : va_A [(a0, .inr (9, [.int th, .ref a1, .ref a2, .ref a3, .int sm, .ref a4, .int ln, .int nx, .int cd, .int dg, .int pw, .long hs])), (a1, .inl (cI, 378, .inl sa)), (a2, .inl (cI, 378, .inl asd)), (a3, .inl (cI, 1512, .inl sv)), (a4, .inl (cI, 120, .inl mt))] s.heap.size = A at hD ⊢
  have hA : ∀ q : Nat, s.heap.size ≤ q → A q := fun q h => by rw [← hAe]; exact Or.inr h
  have hS : va_S A s.heap s.heap [] := va_S.rf
  show W p l e ({ frames := 1, cells := 0, slots := 0, locals := 22 } : Room) s m _ below meth c s.heap [] 0 0 _ _
  refine W_genQ (fun Q hQ => ?_)
  have h := hf
  rw [fX6_isDigit] at h
  have hl := lv_entry ([.ref a0]) (n := 1) (Nat.le_of_ble_eq_true rfl)
  rw [lg_entry_eq]
  generalize (lg_sl ([.ref a0]) ++ List.replicate (1 - (lg_sl ([.ref a0])).length) Slot.unset).toArray = ls at hl ⊢
  have hl : lv_has ls 1 [(0, .ref a0)] := hl
  refine lv_aload_n hx hb dX6_isDigit_0 rfl (lv_at hl 0 rfl) ?_
  obtain ⟨x1, ex1, h⟩ := o_b h
  refine call_iV (As := []) (rest := []) (ws2 := [(a0, .inr (9, [.int th, .ref a1, .ref a2, .ref a3, .int sm, .ref a4, .int ln, .int nx, .int cd, .int dg, .int pw, .long hs])), (a1, .inl (cI, 378, .inl sa)), (a2, .inl (cI, 378, .inl asd)), (a3, .inl (cI, 1512, .inl sv)), (a4, .inl (cI, 120, .inl mt))]) ⟨hx, hb, hml, hown, hts⟩ (cX6_here_ok l G cI cG a0 a1 a2 a3 a4 th sa asd sv sm mt ln nx cd dg pw hs x1 ex1) (cwV 0 hts gX6_isDigit_X6_here rfl rfl rfl hdX6_here ⟨Nat.le_of_ble_eq_true rfl, Nat.le_of_ble_eq_true rfl⟩) hP hD hS hA hK 9 rfl rfl rfl [0, 1, 2, 3, 4] rfl rfl rfl rfl rfl rfl rfl rfl hl.1 (Nat.le_of_ble_eq_true rfl) dX6_isDigit_1 ⟨Nat.zero_le _, Nat.zero_le _⟩ (fun H locs hP hD hS => ?_)
  refine lv_bipush (v := 48) hx hb dX6_isDigit_4 (by decide) ?_
  refine lv_bipush (v := 57) hx hb dX6_isDigit_6 (by decide) ?_
  obtain ⟨x2, ex2, h⟩ := o_b h
  refine call_iS (As := [.int x1, .int (48 : Int32), .int (57 : Int32)]) (rest := []) (ws2 := [(a0, .inr (9, [.int th, .ref a1, .ref a2, .ref a3, .int sm, .ref a4, .int ln, .int nx, .int cd, .int dg, .int pw, .long hs])), (a1, .inl (cI, 378, .inl sa)), (a2, .inl (cI, 378, .inl asd)), (a3, .inl (cI, 1512, .inl sv)), (a4, .inl (cI, 120, .inl mt))]) ⟨hx, hb, hml, hown, hts⟩ (cX6_in_ok l G cI cG x1 (48 : Int32) (57 : Int32) x2 ex2) (va_cwS 3 hts gX6_isDigit_X6_in rfl rfl rfl hdX6_in ⟨Nat.le_of_ble_eq_true rfl, Nat.le_of_ble_eq_true rfl⟩) hP hD hS hA hK [] rfl rfl rfl rfl rfl rfl rfl rfl hl.1 (Nat.le_of_ble_eq_true rfl) dX6_isDigit_8 ⟨Nat.zero_le _, Nat.zero_le _⟩ (fun H locs hP hD hS => ?_)
  obtain rfl := o_s h
  rw [hQ]
  exact end_z hx hb hr rfl (bI_n _) hP hD hS dX6_isDigit_11 hlocks
theorem hdX6_takes : yX6_takes.cls = RX6 ∧ yX6_takes.cls ≠ "java/lang/invoke/MethodHandle" ∧ yX6_takes.cls ≠ "java/lang/invoke/VarHandle" ∧ (parseMethodDescriptor yX6_takes.desc).map (fun d => d.parameters.length) = some 1 := by decide +kernel
set_option maxHeartbeats 4000000 in
set_option maxRecDepth 100000 in
theorem cX6_takes_ok (l : Launch) (G : va_G) (cI cG : ClassId) (a0 a1 a2 a3 a4 : Nat) (th : Int32) (sa : (Nat → Int32)) (asd : (Nat → Int32)) (sv : (Nat → Int32)) (sm : Int32) (mt : (Nat → Int32)) (ln : Int32) (nx : Int32) (cd : Int32) (dg : Int32) (pw : Int32) (hs : Int64) (p1 : Bool) (out : Bool × Int32) (hf : fX6_takes nx p1 = some out) : CI l G (tyz cI cG) yX6_takes wsX6_takes ({ frames := 0, cells := 0, slots := 0, locals := 0 } : Room) [.ref a0, .int (bI p1)] [(a0, .inr (9, [.int th, .ref a1, .ref a2, .ref a3, .int sm, .ref a4, .int ln, .int nx, .int cd, .int dg, .int pw, .long hs])), (a1, .inl (cI, 378, .inl sa)), (a2, .inl (cI, 378, .inl asd)), (a3, .inl (cI, 1512, .inl sv)), (a4, .inl (cI, 120, .inl mt))] (bI out.1) [(a0, .inr (9, [.int th, .ref a1, .ref a2, .ref a3, .int sm, .ref a4, .int ln, .int out.2, .int cd, .int dg, .int pw, .long hs])), (a1, .inl (cI, 378, .inl sa)), (a2, .inl (cI, 378, .inl asd)), (a3, .inl (cI, 1512, .inl sv)), (a4, .inl (cI, 120, .inl mt))] := by
  intro sz
  refine Met.ofW (cc := cX6_takes) (maxL := 2) (ret := (some .boolean)) (by decide) rfl ?_
  intro p e s m args below meth c s₁ B hml hv
  obtain ⟨rfl, hsz, hP, hK, hD0⟩ := hv
  have hx := B.exec
  have hb := B.bytes
  have hr := B.returns
  have hts := atoms_spec (ws := wsX6_takes) B.pre
  have hown : s.vm.findClass RX6 = some m.cls := findClass_of_methodNamed B.named
  have hlocks := B.notSynchronized
  subst hsz
  have hD := hD0.self (sz := s.heap.size)
  generalize hAe : va_A [(a0, .inr (9, [.int th, .ref a1, .ref a2, .ref a3, .int sm, .ref a4, .int ln, .int nx, .int cd, .int dg, .int pw, .long hs])), (a1, .inl (cI, 378, .inl sa)), (a2, .inl (cI, 378, .inl asd)), (a3, .inl (cI, 1512, .inl sv)), (a4, .inl (cI, 120, .inl mt))] s.heap.size = A at hD ⊢
  have hA : ∀ q : Nat, s.heap.size ≤ q → A q := fun q h => by rw [← hAe]; exact Or.inr h
  have hS : va_S A s.heap s.heap [] := va_S.rf
  have hw0 := hts (.fieldLink RX6 175 "SpeedTurnsModel" "next" "I") (List.mem_of_getElem? (i := 1) rfl)
  have hin6 : ∀ w ∈ u_ws RX6 TX6 12, w ∈ wsX6_takes := by decide +kernel
  show W p l e ({ frames := 0, cells := 0, slots := 0, locals := 0 } : Room) s m _ below meth c s.heap [] 0 0 _ _
  refine W_genQ (fun Q hQ => ?_)
  have h := hf
  rw [fX6_takes] at h
  have hl := lv_entry ([.ref a0, .int (bI p1)]) (n := 2) (Nat.le_of_ble_eq_true rfl)
  rw [lg_entry_eq]
  generalize (lg_sl ([.ref a0, .int (bI p1)]) ++ List.replicate (2 - (lg_sl ([.ref a0, .int (bI p1)])).length) Slot.unset).toArray = ls at hl ⊢
  have hl : lv_has ls 2 [(0, .ref a0), (1, .int (bI p1))] := hl
  refine lv_aload_n hx hb dX6_takes_0 rfl (lv_at hl 0 rfl) ?_
  refine lv_dup hx hb dX6_takes_1 rfl ?_
  refine va_get (D := G) (ci := 9) (v := .int nx) (C := RX6) (T := TX6) (N := 12) hx hb hts hin6 hown hK.1 hP 0 rfl rfl 7 (by decide) hw0 (fun _ h9 => h9) rfl dX6_takes_2 ?_
  refine lv_iload_n hx hb dX6_takes_5 rfl (lv_at hl 1 rfl) ?_
  refine lv_if_eq (tgt := 13) hx hb dX6_takes_6 (by decide) (fun hc => ?_) (fun hc => ?_)
  · have h := o_t h hc
    refine lv_iconst (v := 0) hx hb dX6_takes_13 (by decide) ?_
    refine lv_iadd hx hb dX6_takes_14 ?_
    refine va_put (D := G) (ci := 9) (v := .int (nx + (0 : Int32))) (ty := .int) (C := RX6) (T := TX6) (N := 12) hx hb hts hin6 tyX6 tyX6_ok nmX6 hown hK.1 hP hD hS 0 rfl rfl 7 (by decide) hw0 (fun _ h9 => h9) rfl (by decide +kernel) rfl rfl (Nat.le_of_ble_eq_true rfl) dX6_takes_15 (fun H locs hP hD hS => ?_)
    have hP : va_P G vwCl [(a0, .inr (9, [.int th, .ref a1, .ref a2, .ref a3, .int sm, .ref a4, .int ln, .int (nx + (0 : Int32)), .int cd, .int dg, .int pw, .long hs])), (a1, .inl (cI, 378, .inl sa)), (a2, .inl (cI, 378, .inl asd)), (a3, .inl (cI, 1512, .inl sv)), (a4, .inl (cI, 120, .inl mt))] H := hP
    have hD : va_D A [(a0, .inr (9, [.int th, .ref a1, .ref a2, .ref a3, .int sm, .ref a4, .int ln, .int (nx + (0 : Int32)), .int cd, .int dg, .int pw, .long hs])), (a1, .inl (cI, 378, .inl sa)), (a2, .inl (cI, 378, .inl asd)), (a3, .inl (cI, 1512, .inl sv)), (a4, .inl (cI, 120, .inl mt))] := hD
    refine lv_iload_n hx hb dX6_takes_18 rfl (lv_at hl 1 rfl) ?_
    obtain rfl := o_s h
    rw [hQ]
    exact end_z hx hb hr rfl (bI_n _) hP hD hS dX6_takes_19 hlocks
  · have h := o_f h hc
    refine lv_iconst (v := 1) hx hb dX6_takes_9 (by decide) ?_
    refine lv_goto (tgt := 14) hx hb dX6_takes_10 (by decide) ?_
    refine lv_iadd hx hb dX6_takes_14 ?_
    refine va_put (D := G) (ci := 9) (v := .int (nx + (1 : Int32))) (ty := .int) (C := RX6) (T := TX6) (N := 12) hx hb hts hin6 tyX6 tyX6_ok nmX6 hown hK.1 hP hD hS 0 rfl rfl 7 (by decide) hw0 (fun _ h9 => h9) rfl (by decide +kernel) rfl rfl (Nat.le_of_ble_eq_true rfl) dX6_takes_15 (fun H locs hP hD hS => ?_)
    have hP : va_P G vwCl [(a0, .inr (9, [.int th, .ref a1, .ref a2, .ref a3, .int sm, .ref a4, .int ln, .int (nx + (1 : Int32)), .int cd, .int dg, .int pw, .long hs])), (a1, .inl (cI, 378, .inl sa)), (a2, .inl (cI, 378, .inl asd)), (a3, .inl (cI, 1512, .inl sv)), (a4, .inl (cI, 120, .inl mt))] H := hP
    have hD : va_D A [(a0, .inr (9, [.int th, .ref a1, .ref a2, .ref a3, .int sm, .ref a4, .int ln, .int (nx + (1 : Int32)), .int cd, .int dg, .int pw, .long hs])), (a1, .inl (cI, 378, .inl sa)), (a2, .inl (cI, 378, .inl asd)), (a3, .inl (cI, 1512, .inl sv)), (a4, .inl (cI, 120, .inl mt))] := hD
    refine lv_iload_n hx hb dX6_takes_18 rfl (lv_at hl 1 rfl) ?_
    obtain rfl := o_s h
    rw [hQ]
    exact end_z hx hb hr rfl (bI_n _) hP hD hS dX6_takes_19 hlocks
theorem hdX6_readsDigit : yX6_readsDigit.cls = RX6 ∧ yX6_readsDigit.cls ≠ "java/lang/invoke/MethodHandle" ∧ yX6_readsDigit.cls ≠ "java/lang/invoke/VarHandle" ∧ (parseMethodDescriptor yX6_readsDigit.desc).map (fun d => d.parameters.length) = some 0 := by decide +kernel
set_option maxHeartbeats 4000000 in
set_option maxRecDepth 100000 in
theorem cX6_readsDigit_ok (l : Launch) (G : va_G) (cI cG : ClassId) (a0 a1 a2 a3 a4 : Nat) (th : Int32) (sa : (Nat → Int32)) (asd : (Nat → Int32)) (sv : (Nat → Int32)) (sm : Int32) (mt : (Nat → Int32)) (ln : Int32) (nx : Int32) (cd : Int32) (dg : Int32) (pw : Int32) (hs : Int64) (out : Bool × Int32 × Int32) (hf : fX6_readsDigit mt ln nx dg = some out) : CI l G (tyz cI cG) yX6_readsDigit wsX6_readsDigit ({ frames := 2, cells := 0, slots := 0, locals := 42 } : Room) [.ref a0] [(a0, .inr (9, [.int th, .ref a1, .ref a2, .ref a3, .int sm, .ref a4, .int ln, .int nx, .int cd, .int dg, .int pw, .long hs])), (a1, .inl (cI, 378, .inl sa)), (a2, .inl (cI, 378, .inl asd)), (a3, .inl (cI, 1512, .inl sv)), (a4, .inl (cI, 120, .inl mt))] (bI out.1) [(a0, .inr (9, [.int th, .ref a1, .ref a2, .ref a3, .int sm, .ref a4, .int ln, .int out.2.1, .int cd, .int out.2.2, .int pw, .long hs])), (a1, .inl (cI, 378, .inl sa)), (a2, .inl (cI, 378, .inl asd)), (a3, .inl (cI, 1512, .inl sv)), (a4, .inl (cI, 120, .inl mt))] := by
  intro sz
  refine Met.ofW (cc := cX6_readsDigit) (maxL := 1) (ret := (some .boolean)) (by decide) rfl ?_
  intro p e s m args below meth c s₁ B hml hv
  obtain ⟨rfl, hsz, hP, hK, hD0⟩ := hv
  have hx := B.exec
  have hb := B.bytes
  have hr := B.returns
  have hts := atoms_spec (ws := wsX6_readsDigit) B.pre
  have hown : s.vm.findClass RX6 = some m.cls := findClass_of_methodNamed B.named
  have hlocks := B.notSynchronized
  subst hsz
  have hD := hD0.self (sz := s.heap.size)
  generalize hAe : va_A [(a0, .inr (9, [.int th, .ref a1, .ref a2, .ref a3, .int sm, .ref a4, .int ln, .int nx, .int cd, .int dg, .int pw, .long hs])), (a1, .inl (cI, 378, .inl sa)), (a2, .inl (cI, 378, .inl asd)), (a3, .inl (cI, 1512, .inl sv)), (a4, .inl (cI, 120, .inl mt))] s.heap.size = A at hD ⊢
  have hA : ∀ q : Nat, s.heap.size ≤ q → A q := fun q h => by rw [← hAe]; exact Or.inr h
  have hS : va_S A s.heap s.heap [] := va_S.rf
  have hw0 := hts (.fieldLink RX6 181 "SpeedTurnsModel" "digit" "I") (List.mem_of_getElem? (i := 1) rfl)
  have hin6 : ∀ w ∈ u_ws RX6 TX6 12, w ∈ wsX6_readsDigit := by decide +kernel
  show W p l e ({ frames := 2, cells := 0, slots := 0, locals := 42 } : Room) s m _ below meth c s.heap [] 0 0 _ _
  refine W_genQ (fun Q hQ => ?_)
  have h := hf
  rw [fX6_readsDigit] at h
  have hl := lv_entry ([.ref a0]) (n := 1) (Nat.le_of_ble_eq_true rfl)
  rw [lg_entry_eq]
  generalize (lg_sl ([.ref a0]) ++ List.replicate (1 - (lg_sl ([.ref a0])).length) Slot.unset).toArray = ls at hl ⊢
  have hl : lv_has ls 1 [(0, .ref a0)] := hl
  refine lv_aload_n hx hb dX6_readsDigit_0 rfl (lv_at hl 0 rfl) ?_
  refine lv_aload_n hx hb dX6_readsDigit_1 rfl (lv_at hl 0 rfl) ?_
  obtain ⟨x1, ex1, h⟩ := o_b h
  refine call_iV (As := []) (rest := [.ref a0]) (ws2 := [(a0, .inr (9, [.int th, .ref a1, .ref a2, .ref a3, .int sm, .ref a4, .int ln, .int nx, .int cd, .int dg, .int pw, .long hs])), (a1, .inl (cI, 378, .inl sa)), (a2, .inl (cI, 378, .inl asd)), (a3, .inl (cI, 1512, .inl sv)), (a4, .inl (cI, 120, .inl mt))]) ⟨hx, hb, hml, hown, hts⟩ (cX6_here_ok l G cI cG a0 a1 a2 a3 a4 th sa asd sv sm mt ln nx cd dg pw hs x1 ex1) (cwV 0 hts gX6_readsDigit_X6_here rfl rfl rfl hdX6_here ⟨Nat.le_of_ble_eq_true rfl, Nat.le_of_ble_eq_true rfl⟩) hP hD hS hA hK 9 rfl rfl rfl [0, 1, 2, 3, 4] rfl rfl rfl rfl rfl rfl rfl rfl hl.1 (Nat.le_of_ble_eq_true rfl) dX6_readsDigit_2 ⟨Nat.zero_le _, Nat.zero_le _⟩ (fun H locs hP hD hS => ?_)
  refine lv_bipush (v := 48) hx hb dX6_readsDigit_5 (by decide) ?_
  refine lv_isub hx hb dX6_readsDigit_7 ?_
  refine va_put (D := G) (ci := 9) (v := .int (x1 - (48 : Int32))) (ty := .int) (C := RX6) (T := TX6) (N := 12) hx hb hts hin6 tyX6 tyX6_ok nmX6 hown hK.1 hP hD hS 0 rfl rfl 9 (by decide) hw0 (fun _ h9 => h9) rfl (by decide +kernel) rfl rfl (Nat.le_of_ble_eq_true rfl) dX6_readsDigit_8 (fun H locs hP hD hS => ?_)
  have hP : va_P G vwCl [(a0, .inr (9, [.int th, .ref a1, .ref a2, .ref a3, .int sm, .ref a4, .int ln, .int nx, .int cd, .int (x1 - (48 : Int32)), .int pw, .long hs])), (a1, .inl (cI, 378, .inl sa)), (a2, .inl (cI, 378, .inl asd)), (a3, .inl (cI, 1512, .inl sv)), (a4, .inl (cI, 120, .inl mt))] H := hP
  have hD : va_D A [(a0, .inr (9, [.int th, .ref a1, .ref a2, .ref a3, .int sm, .ref a4, .int ln, .int nx, .int cd, .int (x1 - (48 : Int32)), .int pw, .long hs])), (a1, .inl (cI, 378, .inl sa)), (a2, .inl (cI, 378, .inl asd)), (a3, .inl (cI, 1512, .inl sv)), (a4, .inl (cI, 120, .inl mt))] := hD
  refine lv_aload_n hx hb dX6_readsDigit_11 rfl (lv_at hl 0 rfl) ?_
  refine lv_aload_n hx hb dX6_readsDigit_12 rfl (lv_at hl 0 rfl) ?_
  obtain ⟨x2, ex2, h⟩ := o_b h
  refine call_iV (As := []) (rest := [.ref a0]) (ws2 := [(a0, .inr (9, [.int th, .ref a1, .ref a2, .ref a3, .int sm, .ref a4, .int ln, .int nx, .int cd, .int (x1 - (48 : Int32)), .int pw, .long hs])), (a1, .inl (cI, 378, .inl sa)), (a2, .inl (cI, 378, .inl asd)), (a3, .inl (cI, 1512, .inl sv)), (a4, .inl (cI, 120, .inl mt))]) ⟨hx, hb, hml, hown, hts⟩ (cX6_isDigit_ok l G cI cG a0 a1 a2 a3 a4 th sa asd sv sm mt ln nx cd (x1 - (48 : Int32)) pw hs x2 ex2) (cwV 0 hts gX6_readsDigit_X6_isDigit rfl rfl rfl hdX6_isDigit ⟨Nat.le_of_ble_eq_true rfl, Nat.le_of_ble_eq_true rfl⟩) hP hD hS hA hK 9 rfl rfl rfl [0, 1, 2, 3, 4] rfl rfl rfl rfl rfl rfl rfl rfl hl.1 (Nat.le_of_ble_eq_true rfl) dX6_readsDigit_13 ⟨Nat.zero_le _, Nat.zero_le _⟩ (fun H locs hP hD hS => ?_)
  obtain ⟨x3, ex3, h⟩ := o_b h
  refine call_iV (As := [.int (bI x2)]) (rest := []) (ws2 := [(a0, .inr (9, [.int th, .ref a1, .ref a2, .ref a3, .int sm, .ref a4, .int ln, .int x3.2, .int cd, .int (x1 - (48 : Int32)), .int pw, .long hs])), (a1, .inl (cI, 378, .inl sa)), (a2, .inl (cI, 378, .inl asd)), (a3, .inl (cI, 1512, .inl sv)), (a4, .inl (cI, 120, .inl mt))]) ⟨hx, hb, hml, hown, hts⟩ (cX6_takes_ok l G cI cG a0 a1 a2 a3 a4 th sa asd sv sm mt ln nx cd (x1 - (48 : Int32)) pw hs x2 x3 ex3) (cwV 1 hts gX6_readsDigit_X6_takes rfl rfl rfl hdX6_takes ⟨Nat.le_of_ble_eq_true rfl, Nat.le_of_ble_eq_true rfl⟩) hP hD hS hA hK 9 rfl rfl rfl [0, 1, 2, 3, 4] rfl rfl rfl rfl rfl rfl rfl rfl hl.1 (Nat.le_of_ble_eq_true rfl) dX6_readsDigit_16 ⟨Nat.zero_le _, Nat.zero_le _⟩ (fun H locs hP hD hS => ?_)
  obtain rfl := o_s h
  rw [hQ]
  exact end_z hx hb hr rfl (bI_n _) hP hD hS dX6_readsDigit_19 hlocks
theorem hdX6_readsPower : yX6_readsPower.cls = RX6 ∧ yX6_readsPower.cls ≠ "java/lang/invoke/MethodHandle" ∧ yX6_readsPower.cls ≠ "java/lang/invoke/VarHandle" ∧ (parseMethodDescriptor yX6_readsPower.desc).map (fun d => d.parameters.length) = some 0 := by decide +kernel
set_option maxHeartbeats 4000000 in
set_option maxRecDepth 100000 in
theorem cX6_readsPower_ok (l : Launch) (G : va_G) (cI cG : ClassId) (a0 a1 a2 a3 a4 : Nat) (th : Int32) (sa : (Nat → Int32)) (asd : (Nat → Int32)) (sv : (Nat → Int32)) (sm : Int32) (mt : (Nat → Int32)) (ln : Int32) (nx : Int32) (cd : Int32) (dg : Int32) (pw : Int32) (hs : Int64) (out : Bool × Int32 × Int32) (hf : fX6_readsPower mt ln nx pw = some out) : CI l G (tyz cI cG) yX6_readsPower wsX6_readsPower ({ frames := 2, cells := 0, slots := 0, locals := 42 } : Room) [.ref a0] [(a0, .inr (9, [.int th, .ref a1, .ref a2, .ref a3, .int sm, .ref a4, .int ln, .int nx, .int cd, .int dg, .int pw, .long hs])), (a1, .inl (cI, 378, .inl sa)), (a2, .inl (cI, 378, .inl asd)), (a3, .inl (cI, 1512, .inl sv)), (a4, .inl (cI, 120, .inl mt))] (bI out.1) [(a0, .inr (9, [.int th, .ref a1, .ref a2, .ref a3, .int sm, .ref a4, .int ln, .int out.2.1, .int cd, .int dg, .int out.2.2, .long hs])), (a1, .inl (cI, 378, .inl sa)), (a2, .inl (cI, 378, .inl asd)), (a3, .inl (cI, 1512, .inl sv)), (a4, .inl (cI, 120, .inl mt))] := by
  intro sz
  refine Met.ofW (cc := cX6_readsPower) (maxL := 1) (ret := (some .boolean)) (by decide) rfl ?_
  intro p e s m args below meth c s₁ B hml hv
  obtain ⟨rfl, hsz, hP, hK, hD0⟩ := hv
  have hx := B.exec
  have hb := B.bytes
  have hr := B.returns
  have hts := atoms_spec (ws := wsX6_readsPower) B.pre
  have hown : s.vm.findClass RX6 = some m.cls := findClass_of_methodNamed B.named
  have hlocks := B.notSynchronized
  subst hsz
  have hD := hD0.self (sz := s.heap.size)
  generalize hAe : va_A [(a0, .inr (9, [.int th, .ref a1, .ref a2, .ref a3, .int sm, .ref a4, .int ln, .int nx, .int cd, .int dg, .int pw, .long hs])), (a1, .inl (cI, 378, .inl sa)), (a2, .inl (cI, 378, .inl asd)), (a3, .inl (cI, 1512, .inl sv)), (a4, .inl (cI, 120, .inl mt))] s.heap.size = A at hD ⊢
  have hA : ∀ q : Nat, s.heap.size ≤ q → A q := fun q h => by rw [← hAe]; exact Or.inr h
  have hS : va_S A s.heap s.heap [] := va_S.rf
  have hw0 := hts (.fieldLink RX6 191 "SpeedTurnsModel" "power" "I") (List.mem_of_getElem? (i := 1) rfl)
  have hin6 : ∀ w ∈ u_ws RX6 TX6 12, w ∈ wsX6_readsPower := by decide +kernel
  have hw2 := hts (.fieldLink RX6 175 "SpeedTurnsModel" "next" "I") (List.mem_of_getElem? (i := 2) rfl)
  show W p l e ({ frames := 2, cells := 0, slots := 0, locals := 42 } : Room) s m _ below meth c s.heap [] 0 0 _ _
  refine W_genQ (fun Q hQ => ?_)
  have J26 : ∀ (nx : Int32) (pw : Int32) (t0 : Bool) (H : Heap) (locs : List Loc) (ls : Array Slot), fX6_readsPower_J26 mt ln nx pw t0 = some out → va_P G vwCl [(a0, .inr (9, [.int th, .ref a1, .ref a2, .ref a3, .int sm, .ref a4, .int ln, .int nx, .int cd, .int dg, .int pw, .long hs])), (a1, .inl (cI, 378, .inl sa)), (a2, .inl (cI, 378, .inl asd)), (a3, .inl (cI, 1512, .inl sv)), (a4, .inl (cI, 120, .inl mt))] H → va_D A [(a0, .inr (9, [.int th, .ref a1, .ref a2, .ref a3, .int sm, .ref a4, .int ln, .int nx, .int cd, .int dg, .int pw, .long hs])), (a1, .inl (cI, 378, .inl sa)), (a2, .inl (cI, 378, .inl asd)), (a3, .inl (cI, 1512, .inl sv)), (a4, .inl (cI, 120, .inl mt))] → va_S A s.heap H locs → lv_has ls 1 [(0, .ref a0)] → W p l e ({ frames := 2, cells := 0, slots := 0, locals := 42 } : Room) s m ([.ref a0] : List Value).toArray below meth c H locs 0 0 Q (F0 m 26 ls [.int (bI t0), .ref a0]) := by
    intro nx pw t0 H locs ls h hP hD hS hl
    rw [fX6_readsPower_J26] at h
    obtain ⟨x3, ex3, h⟩ := o_b h
    refine call_iV (As := [.int (bI t0)]) (rest := []) (ws2 := [(a0, .inr (9, [.int th, .ref a1, .ref a2, .ref a3, .int sm, .ref a4, .int ln, .int x3.2, .int cd, .int dg, .int pw, .long hs])), (a1, .inl (cI, 378, .inl sa)), (a2, .inl (cI, 378, .inl asd)), (a3, .inl (cI, 1512, .inl sv)), (a4, .inl (cI, 120, .inl mt))]) ⟨hx, hb, hml, hown, hts⟩ (cX6_takes_ok l G cI cG a0 a1 a2 a3 a4 th sa asd sv sm mt ln nx cd dg pw hs t0 x3 ex3) (cwV 1 hts gX6_readsPower_X6_takes rfl rfl rfl hdX6_takes ⟨Nat.le_of_ble_eq_true rfl, Nat.le_of_ble_eq_true rfl⟩) hP hD hS hA hK 9 rfl rfl rfl [0, 1, 2, 3, 4] rfl rfl rfl rfl rfl rfl rfl rfl hl.1 (Nat.le_of_ble_eq_true rfl) dX6_readsPower_26 ⟨Nat.zero_le _, Nat.zero_le _⟩ (fun H locs hP hD hS => ?_)
    refine lv_if_ne (tgt := 34) hx hb dX6_readsPower_29 (by decide) (fun hc => ?_) (fun hc => ?_)
    · have h := o_f h hc
      refine lv_aload_n hx hb dX6_readsPower_34 rfl (lv_at hl 0 rfl) ?_
      refine lv_aload_n hx hb dX6_readsPower_35 rfl (lv_at hl 0 rfl) ?_
      obtain ⟨x4, ex4, h⟩ := o_b h
      refine call_iV (As := []) (rest := [.ref a0]) (ws2 := [(a0, .inr (9, [.int th, .ref a1, .ref a2, .ref a3, .int sm, .ref a4, .int ln, .int x3.2, .int cd, .int dg, .int pw, .long hs])), (a1, .inl (cI, 378, .inl sa)), (a2, .inl (cI, 378, .inl asd)), (a3, .inl (cI, 1512, .inl sv)), (a4, .inl (cI, 120, .inl mt))]) ⟨hx, hb, hml, hown, hts⟩ (cX6_here_ok l G cI cG a0 a1 a2 a3 a4 th sa asd sv sm mt ln x3.2 cd dg pw hs x4 ex4) (cwV 0 hts gX6_readsPower_X6_here rfl rfl rfl hdX6_here ⟨Nat.le_of_ble_eq_true rfl, Nat.le_of_ble_eq_true rfl⟩) hP hD hS hA hK 9 rfl rfl rfl [0, 1, 2, 3, 4] rfl rfl rfl rfl rfl rfl rfl rfl hl.1 (Nat.le_of_ble_eq_true rfl) dX6_readsPower_36 ⟨Nat.zero_le _, Nat.zero_le _⟩ (fun H locs hP hD hS => ?_)
      refine lv_bipush (v := 48) hx hb dX6_readsPower_39 (by decide) ?_
      refine lv_isub hx hb dX6_readsPower_41 ?_
      refine va_put (D := G) (ci := 9) (v := .int (x4 - (48 : Int32))) (ty := .int) (C := RX6) (T := TX6) (N := 12) hx hb hts hin6 tyX6 tyX6_ok nmX6 hown hK.1 hP hD hS 0 rfl rfl 10 (by decide) hw0 (fun _ h9 => h9) rfl (by decide +kernel) rfl rfl (Nat.le_of_ble_eq_true rfl) dX6_readsPower_42 (fun H locs hP hD hS => ?_)
      have hP : va_P G vwCl [(a0, .inr (9, [.int th, .ref a1, .ref a2, .ref a3, .int sm, .ref a4, .int ln, .int x3.2, .int cd, .int dg, .int (x4 - (48 : Int32)), .long hs])), (a1, .inl (cI, 378, .inl sa)), (a2, .inl (cI, 378, .inl asd)), (a3, .inl (cI, 1512, .inl sv)), (a4, .inl (cI, 120, .inl mt))] H := hP
      have hD : va_D A [(a0, .inr (9, [.int th, .ref a1, .ref a2, .ref a3, .int sm, .ref a4, .int ln, .int x3.2, .int cd, .int dg, .int (x4 - (48 : Int32)), .long hs])), (a1, .inl (cI, 378, .inl sa)), (a2, .inl (cI, 378, .inl asd)), (a3, .inl (cI, 1512, .inl sv)), (a4, .inl (cI, 120, .inl mt))] := hD
      refine lv_aload_n hx hb dX6_readsPower_45 rfl (lv_at hl 0 rfl) ?_
      refine lv_aload_n hx hb dX6_readsPower_46 rfl (lv_at hl 0 rfl) ?_
      obtain ⟨x5, ex5, h⟩ := o_b h
      refine call_iV (As := []) (rest := [.ref a0]) (ws2 := [(a0, .inr (9, [.int th, .ref a1, .ref a2, .ref a3, .int sm, .ref a4, .int ln, .int x3.2, .int cd, .int dg, .int (x4 - (48 : Int32)), .long hs])), (a1, .inl (cI, 378, .inl sa)), (a2, .inl (cI, 378, .inl asd)), (a3, .inl (cI, 1512, .inl sv)), (a4, .inl (cI, 120, .inl mt))]) ⟨hx, hb, hml, hown, hts⟩ (cX6_isDigit_ok l G cI cG a0 a1 a2 a3 a4 th sa asd sv sm mt ln x3.2 cd dg (x4 - (48 : Int32)) hs x5 ex5) (cwV 0 hts gX6_readsPower_X6_isDigit rfl rfl rfl hdX6_isDigit ⟨Nat.le_of_ble_eq_true rfl, Nat.le_of_ble_eq_true rfl⟩) hP hD hS hA hK 9 rfl rfl rfl [0, 1, 2, 3, 4] rfl rfl rfl rfl rfl rfl rfl rfl hl.1 (Nat.le_of_ble_eq_true rfl) dX6_readsPower_47 ⟨Nat.zero_le _, Nat.zero_le _⟩ (fun H locs hP hD hS => ?_)
      obtain ⟨x6, ex6, h⟩ := o_b h
      refine call_iV (As := [.int (bI x5)]) (rest := []) (ws2 := [(a0, .inr (9, [.int th, .ref a1, .ref a2, .ref a3, .int sm, .ref a4, .int ln, .int x6.2, .int cd, .int dg, .int (x4 - (48 : Int32)), .long hs])), (a1, .inl (cI, 378, .inl sa)), (a2, .inl (cI, 378, .inl asd)), (a3, .inl (cI, 1512, .inl sv)), (a4, .inl (cI, 120, .inl mt))]) ⟨hx, hb, hml, hown, hts⟩ (cX6_takes_ok l G cI cG a0 a1 a2 a3 a4 th sa asd sv sm mt ln x3.2 cd dg (x4 - (48 : Int32)) hs x5 x6 ex6) (cwV 1 hts gX6_readsPower_X6_takes rfl rfl rfl hdX6_takes ⟨Nat.le_of_ble_eq_true rfl, Nat.le_of_ble_eq_true rfl⟩) hP hD hS hA hK 9 rfl rfl rfl [0, 1, 2, 3, 4] rfl rfl rfl rfl rfl rfl rfl rfl hl.1 (Nat.le_of_ble_eq_true rfl) dX6_readsPower_50 ⟨Nat.zero_le _, Nat.zero_le _⟩ (fun H locs hP hD hS => ?_)
      refine lv_if_ne (tgt := 58) hx hb dX6_readsPower_53 (by decide) (fun hc => ?_) (fun hc => ?_)
      · have h := o_f h hc
        refine lv_aload_n hx hb dX6_readsPower_58 rfl (lv_at hl 0 rfl) ?_
        obtain ⟨x7, ex7, h⟩ := o_b h
        refine call_iV (As := []) (rest := []) (ws2 := [(a0, .inr (9, [.int th, .ref a1, .ref a2, .ref a3, .int sm, .ref a4, .int ln, .int x6.2, .int cd, .int dg, .int (x4 - (48 : Int32)), .long hs])), (a1, .inl (cI, 378, .inl sa)), (a2, .inl (cI, 378, .inl asd)), (a3, .inl (cI, 1512, .inl sv)), (a4, .inl (cI, 120, .inl mt))]) ⟨hx, hb, hml, hown, hts⟩ (cX6_isDigit_ok l G cI cG a0 a1 a2 a3 a4 th sa asd sv sm mt ln x6.2 cd dg (x4 - (48 : Int32)) hs x7 ex7) (cwV 0 hts gX6_readsPower_X6_isDigit rfl rfl rfl hdX6_isDigit ⟨Nat.le_of_ble_eq_true rfl, Nat.le_of_ble_eq_true rfl⟩) hP hD hS hA hK 9 rfl rfl rfl [0, 1, 2, 3, 4] rfl rfl rfl rfl rfl rfl rfl rfl hl.1 (Nat.le_of_ble_eq_true rfl) dX6_readsPower_59 ⟨Nat.zero_le _, Nat.zero_le _⟩ (fun H locs hP hD hS => ?_)
        refine lv_if_eq (tgt := 94) hx hb dX6_readsPower_62 (by decide) (fun hc => ?_) (fun hc => ?_)
        · have h := o_t h hc
          refine lv_iconst (v := 1) hx hb dX6_readsPower_94 (by decide) ?_
          obtain rfl := o_s h
          rw [hQ]
          exact end_z hx hb hr rfl rfl hP hD hS dX6_readsPower_95 hlocks
        · have h := o_f h hc
          refine lv_aload_n hx hb dX6_readsPower_65 rfl (lv_at hl 0 rfl) ?_
          refine lv_bipush (v := 10) hx hb dX6_readsPower_66 (by decide) ?_
          refine lv_aload_n hx hb dX6_readsPower_68 rfl (lv_at hl 0 rfl) ?_
          refine va_get (D := G) (ci := 9) (v := .int (x4 - (48 : Int32))) (C := RX6) (T := TX6) (N := 12) hx hb hts hin6 hown hK.1 hP 0 rfl rfl 10 (by decide) hw0 (fun _ h9 => h9) rfl dX6_readsPower_69 ?_
          refine lv_imul hx hb dX6_readsPower_72 ?_
          refine lv_aload_n hx hb dX6_readsPower_73 rfl (lv_at hl 0 rfl) ?_
          obtain ⟨x8, ex8, h⟩ := o_b h
          refine call_iV (As := []) (rest := [.int ((10 : Int32) * (x4 - (48 : Int32))), .ref a0]) (ws2 := [(a0, .inr (9, [.int th, .ref a1, .ref a2, .ref a3, .int sm, .ref a4, .int ln, .int x6.2, .int cd, .int dg, .int (x4 - (48 : Int32)), .long hs])), (a1, .inl (cI, 378, .inl sa)), (a2, .inl (cI, 378, .inl asd)), (a3, .inl (cI, 1512, .inl sv)), (a4, .inl (cI, 120, .inl mt))]) ⟨hx, hb, hml, hown, hts⟩ (cX6_here_ok l G cI cG a0 a1 a2 a3 a4 th sa asd sv sm mt ln x6.2 cd dg (x4 - (48 : Int32)) hs x8 ex8) (cwV 0 hts gX6_readsPower_X6_here rfl rfl rfl hdX6_here ⟨Nat.le_of_ble_eq_true rfl, Nat.le_of_ble_eq_true rfl⟩) hP hD hS hA hK 9 rfl rfl rfl [0, 1, 2, 3, 4] rfl rfl rfl rfl rfl rfl rfl rfl hl.1 (Nat.le_of_ble_eq_true rfl) dX6_readsPower_74 ⟨Nat.zero_le _, Nat.zero_le _⟩ (fun H locs hP hD hS => ?_)
          refine lv_iadd hx hb dX6_readsPower_77 ?_
          refine lv_bipush (v := 48) hx hb dX6_readsPower_78 (by decide) ?_
          refine lv_isub hx hb dX6_readsPower_80 ?_
          refine va_put (D := G) (ci := 9) (v := .int ((((10 : Int32) * (x4 - (48 : Int32))) + x8) - (48 : Int32))) (ty := .int) (C := RX6) (T := TX6) (N := 12) hx hb hts hin6 tyX6 tyX6_ok nmX6 hown hK.1 hP hD hS 0 rfl rfl 10 (by decide) hw0 (fun _ h9 => h9) rfl (by decide +kernel) rfl rfl (Nat.le_of_ble_eq_true rfl) dX6_readsPower_81 (fun H locs hP hD hS => ?_)
          have hP : va_P G vwCl [(a0, .inr (9, [.int th, .ref a1, .ref a2, .ref a3, .int sm, .ref a4, .int ln, .int x6.2, .int cd, .int dg, .int ((((10 : Int32) * (x4 - (48 : Int32))) + x8) - (48 : Int32)), .long hs])), (a1, .inl (cI, 378, .inl sa)), (a2, .inl (cI, 378, .inl asd)), (a3, .inl (cI, 1512, .inl sv)), (a4, .inl (cI, 120, .inl mt))] H := hP
          have hD : va_D A [(a0, .inr (9, [.int th, .ref a1, .ref a2, .ref a3, .int sm, .ref a4, .int ln, .int x6.2, .int cd, .int dg, .int ((((10 : Int32) * (x4 - (48 : Int32))) + x8) - (48 : Int32)), .long hs])), (a1, .inl (cI, 378, .inl sa)), (a2, .inl (cI, 378, .inl asd)), (a3, .inl (cI, 1512, .inl sv)), (a4, .inl (cI, 120, .inl mt))] := hD
          refine lv_aload_n hx hb dX6_readsPower_84 rfl (lv_at hl 0 rfl) ?_
          refine lv_dup hx hb dX6_readsPower_85 rfl ?_
          refine va_get (D := G) (ci := 9) (v := .int x6.2) (C := RX6) (T := TX6) (N := 12) hx hb hts hin6 hown hK.1 hP 0 rfl rfl 7 (by decide) hw2 (fun _ h9 => h9) rfl dX6_readsPower_86 ?_
          refine lv_iconst (v := 1) hx hb dX6_readsPower_89 (by decide) ?_
          refine lv_iadd hx hb dX6_readsPower_90 ?_
          refine va_put (D := G) (ci := 9) (v := .int (x6.2 + (1 : Int32))) (ty := .int) (C := RX6) (T := TX6) (N := 12) hx hb hts hin6 tyX6 tyX6_ok nmX6 hown hK.1 hP hD hS 0 rfl rfl 7 (by decide) hw2 (fun _ h9 => h9) rfl (by decide +kernel) rfl rfl (Nat.le_of_ble_eq_true rfl) dX6_readsPower_91 (fun H locs hP hD hS => ?_)
          have hP : va_P G vwCl [(a0, .inr (9, [.int th, .ref a1, .ref a2, .ref a3, .int sm, .ref a4, .int ln, .int (x6.2 + (1 : Int32)), .int cd, .int dg, .int ((((10 : Int32) * (x4 - (48 : Int32))) + x8) - (48 : Int32)), .long hs])), (a1, .inl (cI, 378, .inl sa)), (a2, .inl (cI, 378, .inl asd)), (a3, .inl (cI, 1512, .inl sv)), (a4, .inl (cI, 120, .inl mt))] H := hP
          have hD : va_D A [(a0, .inr (9, [.int th, .ref a1, .ref a2, .ref a3, .int sm, .ref a4, .int ln, .int (x6.2 + (1 : Int32)), .int cd, .int dg, .int ((((10 : Int32) * (x4 - (48 : Int32))) + x8) - (48 : Int32)), .long hs])), (a1, .inl (cI, 378, .inl sa)), (a2, .inl (cI, 378, .inl asd)), (a3, .inl (cI, 1512, .inl sv)), (a4, .inl (cI, 120, .inl mt))] := hD
          refine lv_iconst (v := 1) hx hb dX6_readsPower_94 (by decide) ?_
          obtain rfl := o_s h
          rw [hQ]
          exact end_z hx hb hr rfl rfl hP hD hS dX6_readsPower_95 hlocks
      · have h := o_t h hc
        refine lv_iconst (v := 0) hx hb dX6_readsPower_56 (by decide) ?_
        obtain rfl := o_s h
        rw [hQ]
        exact end_z hx hb hr rfl rfl hP hD hS dX6_readsPower_57 hlocks
    · have h := o_t h hc
      refine lv_iconst (v := 0) hx hb dX6_readsPower_32 (by decide) ?_
      obtain rfl := o_s h
      rw [hQ]
      exact end_z hx hb hr rfl rfl hP hD hS dX6_readsPower_33 hlocks
  have h := hf
  rw [fX6_readsPower] at h
  have hl := lv_entry ([.ref a0]) (n := 1) (Nat.le_of_ble_eq_true rfl)
  rw [lg_entry_eq]
  generalize (lg_sl ([.ref a0]) ++ List.replicate (1 - (lg_sl ([.ref a0])).length) Slot.unset).toArray = ls at hl ⊢
  have hl : lv_has ls 1 [(0, .ref a0)] := hl
  refine lv_aload_n hx hb dX6_readsPower_0 rfl (lv_at hl 0 rfl) ?_
  refine lv_aload_n hx hb dX6_readsPower_1 rfl (lv_at hl 0 rfl) ?_
  obtain ⟨x1, ex1, h⟩ := o_b h
  refine call_iV (As := []) (rest := [.ref a0]) (ws2 := [(a0, .inr (9, [.int th, .ref a1, .ref a2, .ref a3, .int sm, .ref a4, .int ln, .int nx, .int cd, .int dg, .int pw, .long hs])), (a1, .inl (cI, 378, .inl sa)), (a2, .inl (cI, 378, .inl asd)), (a3, .inl (cI, 1512, .inl sv)), (a4, .inl (cI, 120, .inl mt))]) ⟨hx, hb, hml, hown, hts⟩ (cX6_here_ok l G cI cG a0 a1 a2 a3 a4 th sa asd sv sm mt ln nx cd dg pw hs x1 ex1) (cwV 0 hts gX6_readsPower_X6_here rfl rfl rfl hdX6_here ⟨Nat.le_of_ble_eq_true rfl, Nat.le_of_ble_eq_true rfl⟩) hP hD hS hA hK 9 rfl rfl rfl [0, 1, 2, 3, 4] rfl rfl rfl rfl rfl rfl rfl rfl hl.1 (Nat.le_of_ble_eq_true rfl) dX6_readsPower_2 ⟨Nat.zero_le _, Nat.zero_le _⟩ (fun H locs hP hD hS => ?_)
  refine lv_bipush (v := 48) hx hb dX6_readsPower_5 (by decide) ?_
  refine lv_isub hx hb dX6_readsPower_7 ?_
  refine va_put (D := G) (ci := 9) (v := .int (x1 - (48 : Int32))) (ty := .int) (C := RX6) (T := TX6) (N := 12) hx hb hts hin6 tyX6 tyX6_ok nmX6 hown hK.1 hP hD hS 0 rfl rfl 10 (by decide) hw0 (fun _ h9 => h9) rfl (by decide +kernel) rfl rfl (Nat.le_of_ble_eq_true rfl) dX6_readsPower_8 (fun H locs hP hD hS => ?_)
  have hP : va_P G vwCl [(a0, .inr (9, [.int th, .ref a1, .ref a2, .ref a3, .int sm, .ref a4, .int ln, .int nx, .int cd, .int dg, .int (x1 - (48 : Int32)), .long hs])), (a1, .inl (cI, 378, .inl sa)), (a2, .inl (cI, 378, .inl asd)), (a3, .inl (cI, 1512, .inl sv)), (a4, .inl (cI, 120, .inl mt))] H := hP
  have hD : va_D A [(a0, .inr (9, [.int th, .ref a1, .ref a2, .ref a3, .int sm, .ref a4, .int ln, .int nx, .int cd, .int dg, .int (x1 - (48 : Int32)), .long hs])), (a1, .inl (cI, 378, .inl sa)), (a2, .inl (cI, 378, .inl asd)), (a3, .inl (cI, 1512, .inl sv)), (a4, .inl (cI, 120, .inl mt))] := hD
  refine lv_aload_n hx hb dX6_readsPower_11 rfl (lv_at hl 0 rfl) ?_
  refine lv_aload_n hx hb dX6_readsPower_12 rfl (lv_at hl 0 rfl) ?_
  obtain ⟨x2, ex2, h⟩ := o_b h
  refine call_iV (As := []) (rest := [.ref a0]) (ws2 := [(a0, .inr (9, [.int th, .ref a1, .ref a2, .ref a3, .int sm, .ref a4, .int ln, .int nx, .int cd, .int dg, .int (x1 - (48 : Int32)), .long hs])), (a1, .inl (cI, 378, .inl sa)), (a2, .inl (cI, 378, .inl asd)), (a3, .inl (cI, 1512, .inl sv)), (a4, .inl (cI, 120, .inl mt))]) ⟨hx, hb, hml, hown, hts⟩ (cX6_here_ok l G cI cG a0 a1 a2 a3 a4 th sa asd sv sm mt ln nx cd dg (x1 - (48 : Int32)) hs x2 ex2) (cwV 0 hts gX6_readsPower_X6_here rfl rfl rfl hdX6_here ⟨Nat.le_of_ble_eq_true rfl, Nat.le_of_ble_eq_true rfl⟩) hP hD hS hA hK 9 rfl rfl rfl [0, 1, 2, 3, 4] rfl rfl rfl rfl rfl rfl rfl rfl hl.1 (Nat.le_of_ble_eq_true rfl) dX6_readsPower_13 ⟨Nat.zero_le _, Nat.zero_le _⟩ (fun H locs hP hD hS => ?_)
  refine lv_bipush (v := 44) hx hb dX6_readsPower_16 (by decide) ?_
  refine lv_icmp_ne (tgt := 25) hx hb dX6_readsPower_18 (by decide) (fun hc => ?_) (fun hc => ?_)
  · have h := o_f h hc
    refine lv_iconst (v := 0) hx hb dX6_readsPower_25 (by decide) ?_
    exact J26 nx (x1 - (48 : Int32)) false _ _ _ h hP hD hS (lv_sub hl [0] rfl)
  · have h := o_t h hc
    refine lv_iconst (v := 1) hx hb dX6_readsPower_21 (by decide) ?_
    refine lv_goto (tgt := 26) hx hb dX6_readsPower_22 (by decide) ?_
    exact J26 nx (x1 - (48 : Int32)) true _ _ _ h hP hD hS (lv_sub hl [0] rfl)
theorem hdX6_readsCommand : yX6_readsCommand.cls = RX6 ∧ yX6_readsCommand.cls ≠ "java/lang/invoke/MethodHandle" ∧ yX6_readsCommand.cls ≠ "java/lang/invoke/VarHandle" ∧ (parseMethodDescriptor yX6_readsCommand.desc).map (fun d => d.parameters.length) = some 0 := by decide +kernel
set_option maxHeartbeats 4000000 in
set_option maxRecDepth 100000 in
theorem cX6_readsCommand_ok (l : Launch) (G : va_G) (cI cG : ClassId) (a0 a1 a2 a3 a4 : Nat) (th : Int32) (sa : (Nat → Int32)) (asd : (Nat → Int32)) (sv : (Nat → Int32)) (sm : Int32) (mt : (Nat → Int32)) (ln : Int32) (nx : Int32) (cd : Int32) (dg : Int32) (pw : Int32) (hs : Int64) (out : Bool × Int32 × Int32 × Int32 × Int32) (hf : fX6_readsCommand mt ln nx cd dg pw = some out) : CI l G (tyz cI cG) yX6_readsCommand wsX6_readsCommand ({ frames := 3, cells := 0, slots := 0, locals := 62 } : Room) [.ref a0] [(a0, .inr (9, [.int th, .ref a1, .ref a2, .ref a3, .int sm, .ref a4, .int ln, .int nx, .int cd, .int dg, .int pw, .long hs])), (a1, .inl (cI, 378, .inl sa)), (a2, .inl (cI, 378, .inl asd)), (a3, .inl (cI, 1512, .inl sv)), (a4, .inl (cI, 120, .inl mt))] (bI out.1) [(a0, .inr (9, [.int th, .ref a1, .ref a2, .ref a3, .int sm, .ref a4, .int ln, .int out.2.1, .int out.2.2.1, .int out.2.2.2.1, .int out.2.2.2.2, .long hs])), (a1, .inl (cI, 378, .inl sa)), (a2, .inl (cI, 378, .inl asd)), (a3, .inl (cI, 1512, .inl sv)), (a4, .inl (cI, 120, .inl mt))] := by
  intro sz
  refine Met.ofW (cc := cX6_readsCommand) (maxL := 4) (ret := (some .boolean)) (by decide) rfl ?_
  intro p e s m args below meth c s₁ B hml hv
  obtain ⟨rfl, hsz, hP, hK, hD0⟩ := hv
  have hx := B.exec
  have hb := B.bytes
  have hr := B.returns
  have hts := atoms_spec (ws := wsX6_readsCommand) B.pre
  have hown : s.vm.findClass RX6 = some m.cls := findClass_of_methodNamed B.named
  have hlocks := B.notSynchronized
  subst hsz
  have hD := hD0.self (sz := s.heap.size)
  generalize hAe : va_A [(a0, .inr (9, [.int th, .ref a1, .ref a2, .ref a3, .int sm, .ref a4, .int ln, .int nx, .int cd, .int dg, .int pw, .long hs])), (a1, .inl (cI, 378, .inl sa)), (a2, .inl (cI, 378, .inl asd)), (a3, .inl (cI, 1512, .inl sv)), (a4, .inl (cI, 120, .inl mt))] s.heap.size = A at hD ⊢
  have hA : ∀ q : Nat, s.heap.size ≤ q → A q := fun q h => by rw [← hAe]; exact Or.inr h
  have hS : va_S A s.heap s.heap [] := va_S.rf
  have hw0 := hts (.fieldLink RX6 194 "SpeedTurnsModel" "command" "I") (List.mem_of_getElem? (i := 1) rfl)
  have hin6 : ∀ w ∈ u_ws RX6 TX6 12, w ∈ wsX6_readsCommand := by decide +kernel
  show W p l e ({ frames := 3, cells := 0, slots := 0, locals := 62 } : Room) s m _ below meth c s.heap [] 0 0 _ _
  refine W_genQ (fun Q hQ => ?_)
  have J132 : ∀ (nx : Int32) (cd : Int32) (dg : Int32) (pw : Int32) (t0 : Bool) (H : Heap) (locs : List Loc) (ls : Array Slot), fX6_readsCommand_J132 mt ln nx cd dg pw t0 = some out → va_P G vwCl [(a0, .inr (9, [.int th, .ref a1, .ref a2, .ref a3, .int sm, .ref a4, .int ln, .int nx, .int cd, .int dg, .int pw, .long hs])), (a1, .inl (cI, 378, .inl sa)), (a2, .inl (cI, 378, .inl asd)), (a3, .inl (cI, 1512, .inl sv)), (a4, .inl (cI, 120, .inl mt))] H → va_D A [(a0, .inr (9, [.int th, .ref a1, .ref a2, .ref a3, .int sm, .ref a4, .int ln, .int nx, .int cd, .int dg, .int pw, .long hs])), (a1, .inl (cI, 378, .inl sa)), (a2, .inl (cI, 378, .inl asd)), (a3, .inl (cI, 1512, .inl sv)), (a4, .inl (cI, 120, .inl mt))] → va_S A s.heap H locs → lv_has ls 4 [(0, .ref a0)] → W p l e ({ frames := 3, cells := 0, slots := 0, locals := 62 } : Room) s m ([.ref a0] : List Value).toArray below meth c H locs 0 0 Q (F0 m 132 ls [.int (bI t0)]) := by
    intro nx cd dg pw t0 H locs ls h hP hD hS hl
    rw [fX6_readsCommand_J132] at h
    refine lv_istore_n (lv' := [(3, .int (bI t0)), (0, .ref a0)]) hx hb dX6_readsCommand_132 rfl hl (by decide) rfl (fun ls hl => ?_)
    refine lv_iload_n hx hb dX6_readsCommand_133 rfl (lv_at hl 0 rfl) ?_
    refine lv_if_eq (tgt := 162) hx hb dX6_readsCommand_134 (by decide) (fun hc => ?_) (fun hc => ?_)
    · have h := o_t h hc
      refine lv_iconst (v := 0) hx hb dX6_readsCommand_162 (by decide) ?_
      obtain rfl := o_s h
      rw [hQ]
      exact end_z hx hb hr rfl rfl hP hD hS dX6_readsCommand_163 hlocks
    · have h := o_f h hc
      refine lv_aload_n hx hb dX6_readsCommand_137 rfl (lv_at hl 1 rfl) ?_
      refine lv_aload_n hx hb dX6_readsCommand_138 rfl (lv_at hl 1 rfl) ?_
      obtain ⟨x3, ex3, h⟩ := o_b h
      refine call_iV (As := []) (rest := [.ref a0]) (ws2 := [(a0, .inr (9, [.int th, .ref a1, .ref a2, .ref a3, .int sm, .ref a4, .int ln, .int nx, .int cd, .int dg, .int pw, .long hs])), (a1, .inl (cI, 378, .inl sa)), (a2, .inl (cI, 378, .inl asd)), (a3, .inl (cI, 1512, .inl sv)), (a4, .inl (cI, 120, .inl mt))]) ⟨hx, hb, hml, hown, hts⟩ (cX6_here_ok l G cI cG a0 a1 a2 a3 a4 th sa asd sv sm mt ln nx cd dg pw hs x3 ex3) (cwV 0 hts gX6_readsCommand_X6_here rfl rfl rfl hdX6_here ⟨Nat.le_of_ble_eq_true rfl, Nat.le_of_ble_eq_true rfl⟩) hP hD hS hA hK 9 rfl rfl rfl [0, 1, 2, 3, 4] rfl rfl rfl rfl rfl rfl rfl rfl hl.1 (Nat.le_of_ble_eq_true rfl) dX6_readsCommand_139 ⟨Nat.zero_le _, Nat.zero_le _⟩ (fun H locs hP hD hS => ?_)
      refine lv_bipush (v := 59) hx hb dX6_readsCommand_142 (by decide) ?_
      refine lv_icmp_ne (tgt := 151) hx hb dX6_readsCommand_144 (by decide) (fun hc => ?_) (fun hc => ?_)
      · have h := o_f h hc
        refine lv_iconst (v := 0) hx hb dX6_readsCommand_151 (by decide) ?_
        obtain ⟨x4, ex4, h⟩ := o_b h
        refine call_iV (As := [.int (0 : Int32)]) (rest := []) (ws2 := [(a0, .inr (9, [.int th, .ref a1, .ref a2, .ref a3, .int sm, .ref a4, .int ln, .int x4.2, .int cd, .int dg, .int pw, .long hs])), (a1, .inl (cI, 378, .inl sa)), (a2, .inl (cI, 378, .inl asd)), (a3, .inl (cI, 1512, .inl sv)), (a4, .inl (cI, 120, .inl mt))]) ⟨hx, hb, hml, hown, hts⟩ (cX6_takes_ok l G cI cG a0 a1 a2 a3 a4 th sa asd sv sm mt ln nx cd dg pw hs false x4 ex4) (cwV 1 hts gX6_readsCommand_X6_takes rfl rfl rfl hdX6_takes ⟨Nat.le_of_ble_eq_true rfl, Nat.le_of_ble_eq_true rfl⟩) hP hD hS hA hK 9 rfl rfl rfl [0, 1, 2, 3, 4] rfl rfl rfl rfl rfl rfl rfl rfl hl.1 (Nat.le_of_ble_eq_true rfl) dX6_readsCommand_152 ⟨Nat.zero_le _, Nat.zero_le _⟩ (fun H locs hP hD hS => ?_)
        refine lv_if_eq (tgt := 162) hx hb dX6_readsCommand_155 (by decide) (fun hc => ?_) (fun hc => ?_)
        · have h := o_t h hc
          refine lv_iconst (v := 0) hx hb dX6_readsCommand_162 (by decide) ?_
          obtain rfl := o_s h
          rw [hQ]
          exact end_z hx hb hr rfl rfl hP hD hS dX6_readsCommand_163 hlocks
        · have h := o_f h hc
          refine lv_iconst (v := 1) hx hb dX6_readsCommand_158 (by decide) ?_
          refine lv_goto (tgt := 163) hx hb dX6_readsCommand_159 (by decide) ?_
          obtain rfl := o_s h
          rw [hQ]
          exact end_z hx hb hr rfl rfl hP hD hS dX6_readsCommand_163 hlocks
      · have h := o_t h hc
        refine lv_iconst (v := 1) hx hb dX6_readsCommand_147 (by decide) ?_
        refine lv_goto (tgt := 152) hx hb dX6_readsCommand_148 (by decide) ?_
        obtain ⟨x5, ex5, h⟩ := o_b h
        refine call_iV (As := [.int (1 : Int32)]) (rest := []) (ws2 := [(a0, .inr (9, [.int th, .ref a1, .ref a2, .ref a3, .int sm, .ref a4, .int ln, .int x5.2, .int cd, .int dg, .int pw, .long hs])), (a1, .inl (cI, 378, .inl sa)), (a2, .inl (cI, 378, .inl asd)), (a3, .inl (cI, 1512, .inl sv)), (a4, .inl (cI, 120, .inl mt))]) ⟨hx, hb, hml, hown, hts⟩ (cX6_takes_ok l G cI cG a0 a1 a2 a3 a4 th sa asd sv sm mt ln nx cd dg pw hs true x5 ex5) (cwV 1 hts gX6_readsCommand_X6_takes rfl rfl rfl hdX6_takes ⟨Nat.le_of_ble_eq_true rfl, Nat.le_of_ble_eq_true rfl⟩) hP hD hS hA hK 9 rfl rfl rfl [0, 1, 2, 3, 4] rfl rfl rfl rfl rfl rfl rfl rfl hl.1 (Nat.le_of_ble_eq_true rfl) dX6_readsCommand_152 ⟨Nat.zero_le _, Nat.zero_le _⟩ (fun H locs hP hD hS => ?_)
        refine lv_if_eq (tgt := 162) hx hb dX6_readsCommand_155 (by decide) (fun hc => ?_) (fun hc => ?_)
        · have h := o_t h hc
          refine lv_iconst (v := 0) hx hb dX6_readsCommand_162 (by decide) ?_
          obtain rfl := o_s h
          rw [hQ]
          exact end_z hx hb hr rfl rfl hP hD hS dX6_readsCommand_163 hlocks
        · have h := o_f h hc
          refine lv_iconst (v := 1) hx hb dX6_readsCommand_158 (by decide) ?_
          refine lv_goto (tgt := 163) hx hb dX6_readsCommand_159 (by decide) ?_
          obtain rfl := o_s h
          rw [hQ]
          exact end_z hx hb hr rfl rfl hP hD hS dX6_readsCommand_163 hlocks
  have J127 : ∀ (nx : Int32) (cd : Int32) (dg : Int32) (pw : Int32) (H : Heap) (locs : List Loc) (ls : Array Slot), fX6_readsCommand_J127 mt ln nx cd dg pw = some out → va_P G vwCl [(a0, .inr (9, [.int th, .ref a1, .ref a2, .ref a3, .int sm, .ref a4, .int ln, .int nx, .int cd, .int dg, .int pw, .long hs])), (a1, .inl (cI, 378, .inl sa)), (a2, .inl (cI, 378, .inl asd)), (a3, .inl (cI, 1512, .inl sv)), (a4, .inl (cI, 120, .inl mt))] H → va_D A [(a0, .inr (9, [.int th, .ref a1, .ref a2, .ref a3, .int sm, .ref a4, .int ln, .int nx, .int cd, .int dg, .int pw, .long hs])), (a1, .inl (cI, 378, .inl sa)), (a2, .inl (cI, 378, .inl asd)), (a3, .inl (cI, 1512, .inl sv)), (a4, .inl (cI, 120, .inl mt))] → va_S A s.heap H locs → lv_has ls 4 [(0, .ref a0)] → W p l e ({ frames := 3, cells := 0, slots := 0, locals := 62 } : Room) s m ([.ref a0] : List Value).toArray below meth c H locs 0 0 Q (F0 m 127 ls []) := by
    intro nx cd dg pw H locs ls h hP hD hS hl
    rw [fX6_readsCommand_J127] at h
    refine lv_iconst (v := 1) hx hb dX6_readsCommand_127 (by decide) ?_
    refine lv_goto (tgt := 132) hx hb dX6_readsCommand_128 (by decide) ?_
    exact J132 nx cd dg pw true _ _ _ h hP hD hS (lv_sub hl [0] rfl)
  have J131 : ∀ (nx : Int32) (cd : Int32) (dg : Int32) (pw : Int32) (H : Heap) (locs : List Loc) (ls : Array Slot), fX6_readsCommand_J131 mt ln nx cd dg pw = some out → va_P G vwCl [(a0, .inr (9, [.int th, .ref a1, .ref a2, .ref a3, .int sm, .ref a4, .int ln, .int nx, .int cd, .int dg, .int pw, .long hs])), (a1, .inl (cI, 378, .inl sa)), (a2, .inl (cI, 378, .inl asd)), (a3, .inl (cI, 1512, .inl sv)), (a4, .inl (cI, 120, .inl mt))] H → va_D A [(a0, .inr (9, [.int th, .ref a1, .ref a2, .ref a3, .int sm, .ref a4, .int ln, .int nx, .int cd, .int dg, .int pw, .long hs])), (a1, .inl (cI, 378, .inl sa)), (a2, .inl (cI, 378, .inl asd)), (a3, .inl (cI, 1512, .inl sv)), (a4, .inl (cI, 120, .inl mt))] → va_S A s.heap H locs → lv_has ls 4 [(0, .ref a0)] → W p l e ({ frames := 3, cells := 0, slots := 0, locals := 62 } : Room) s m ([.ref a0] : List Value).toArray below meth c H locs 0 0 Q (F0 m 131 ls []) := by
    intro nx cd dg pw H locs ls h hP hD hS hl
    rw [fX6_readsCommand_J131] at h
    refine lv_iconst (v := 0) hx hb dX6_readsCommand_131 (by decide) ?_
    exact J132 nx cd dg pw false _ _ _ h hP hD hS (lv_sub hl [0] rfl)
  have J97 : ∀ (nx : Int32) (cd : Int32) (dg : Int32) (pw : Int32) (v1 : Bool) (v2 : Bool) (t0 : Bool) (H : Heap) (locs : List Loc) (ls : Array Slot), fX6_readsCommand_J97 mt ln nx cd dg pw v1 v2 t0 = some out → va_P G vwCl [(a0, .inr (9, [.int th, .ref a1, .ref a2, .ref a3, .int sm, .ref a4, .int ln, .int nx, .int cd, .int dg, .int pw, .long hs])), (a1, .inl (cI, 378, .inl sa)), (a2, .inl (cI, 378, .inl asd)), (a3, .inl (cI, 1512, .inl sv)), (a4, .inl (cI, 120, .inl mt))] H → va_D A [(a0, .inr (9, [.int th, .ref a1, .ref a2, .ref a3, .int sm, .ref a4, .int ln, .int nx, .int cd, .int dg, .int pw, .long hs])), (a1, .inl (cI, 378, .inl sa)), (a2, .inl (cI, 378, .inl asd)), (a3, .inl (cI, 1512, .inl sv)), (a4, .inl (cI, 120, .inl mt))] → va_S A s.heap H locs → lv_has ls 4 [(0, .ref a0), (1, .int (bI v1)), (2, .int (bI v2))] → W p l e ({ frames := 3, cells := 0, slots := 0, locals := 62 } : Room) s m ([.ref a0] : List Value).toArray below meth c H locs 0 0 Q (F0 m 97 ls [.int (bI t0), .ref a0]) := by
    intro nx cd dg pw v1 v2 t0 H locs ls h hP hD hS hl
    rw [fX6_readsCommand_J97] at h
    obtain ⟨x2, ex2, h⟩ := o_b h
    refine call_iV (As := [.int (bI t0)]) (rest := []) (ws2 := [(a0, .inr (9, [.int th, .ref a1, .ref a2, .ref a3, .int sm, .ref a4, .int ln, .int x2.2, .int cd, .int dg, .int pw, .long hs])), (a1, .inl (cI, 378, .inl sa)), (a2, .inl (cI, 378, .inl asd)), (a3, .inl (cI, 1512, .inl sv)), (a4, .inl (cI, 120, .inl mt))]) ⟨hx, hb, hml, hown, hts⟩ (cX6_takes_ok l G cI cG a0 a1 a2 a3 a4 th sa asd sv sm mt ln nx cd dg pw hs t0 x2 ex2) (cwV 1 hts gX6_readsCommand_X6_takes rfl rfl rfl hdX6_takes ⟨Nat.le_of_ble_eq_true rfl, Nat.le_of_ble_eq_true rfl⟩) hP hD hS hA hK 9 rfl rfl rfl [0, 1, 2, 3, 4] rfl rfl rfl rfl rfl rfl rfl rfl hl.1 (Nat.le_of_ble_eq_true rfl) dX6_readsCommand_97 ⟨Nat.zero_le _, Nat.zero_le _⟩ (fun H locs hP hD hS => ?_)
    refine lv_if_ne (tgt := 105) hx hb dX6_readsCommand_100 (by decide) (fun hc => ?_) (fun hc => ?_)
    · have h := o_f h hc
      refine lv_iload_n hx hb dX6_readsCommand_105 rfl (lv_at hl 1 rfl) ?_
      refine lv_if_ne (tgt := 127) hx hb dX6_readsCommand_106 (by decide) (fun hc => ?_) (fun hc => ?_)
      · have h := o_f h hc
        exact J127 x2.2 cd dg pw _ _ _ h hP hD hS (lv_sub hl [0] rfl)
      · have h := o_t h hc
        refine lv_aload_n hx hb dX6_readsCommand_109 rfl (lv_at hl 0 rfl) ?_
        obtain ⟨x6, ex6, h⟩ := o_b h
        refine call_iV (As := []) (rest := []) (ws2 := [(a0, .inr (9, [.int th, .ref a1, .ref a2, .ref a3, .int sm, .ref a4, .int ln, .int x6.2.1, .int cd, .int x6.2.2, .int pw, .long hs])), (a1, .inl (cI, 378, .inl sa)), (a2, .inl (cI, 378, .inl asd)), (a3, .inl (cI, 1512, .inl sv)), (a4, .inl (cI, 120, .inl mt))]) ⟨hx, hb, hml, hown, hts⟩ (cX6_readsDigit_ok l G cI cG a0 a1 a2 a3 a4 th sa asd sv sm mt ln x2.2 cd dg pw hs x6 ex6) (cwV 0 hts gX6_readsCommand_X6_readsDigit rfl rfl rfl hdX6_readsDigit ⟨Nat.le_of_ble_eq_true rfl, Nat.le_of_ble_eq_true rfl⟩) hP hD hS hA hK 9 rfl rfl rfl [0, 1, 2, 3, 4] rfl rfl rfl rfl rfl rfl rfl rfl hl.1 (Nat.le_of_ble_eq_true rfl) dX6_readsCommand_110 ⟨Nat.zero_le _, Nat.zero_le _⟩ (fun H locs hP hD hS => ?_)
        refine lv_if_eq (tgt := 131) hx hb dX6_readsCommand_113 (by decide) (fun hc => ?_) (fun hc => ?_)
        · have h := o_t h hc
          exact J131 x6.2.1 cd x6.2.2 pw _ _ _ h hP hD hS (lv_sub hl [0] rfl)
        · have h := o_f h hc
          refine lv_iload_n hx hb dX6_readsCommand_116 rfl (lv_at hl 2 rfl) ?_
          refine lv_if_eq (tgt := 127) hx hb dX6_readsCommand_117 (by decide) (fun hc => ?_) (fun hc => ?_)
          · have h := o_t h hc
            exact J127 x6.2.1 cd x6.2.2 pw _ _ _ h hP hD hS (lv_sub hl [0] rfl)
          · have h := o_f h hc
            refine lv_aload_n hx hb dX6_readsCommand_120 rfl (lv_at hl 0 rfl) ?_
            obtain ⟨x7, ex7, h⟩ := o_b h
            refine call_iV (As := []) (rest := []) (ws2 := [(a0, .inr (9, [.int th, .ref a1, .ref a2, .ref a3, .int sm, .ref a4, .int ln, .int x7.2.1, .int cd, .int x6.2.2, .int x7.2.2, .long hs])), (a1, .inl (cI, 378, .inl sa)), (a2, .inl (cI, 378, .inl asd)), (a3, .inl (cI, 1512, .inl sv)), (a4, .inl (cI, 120, .inl mt))]) ⟨hx, hb, hml, hown, hts⟩ (cX6_readsPower_ok l G cI cG a0 a1 a2 a3 a4 th sa asd sv sm mt ln x6.2.1 cd x6.2.2 pw hs x7 ex7) (cwV 0 hts gX6_readsCommand_X6_readsPower rfl rfl rfl hdX6_readsPower ⟨Nat.le_of_ble_eq_true rfl, Nat.le_of_ble_eq_true rfl⟩) hP hD hS hA hK 9 rfl rfl rfl [0, 1, 2, 3, 4] rfl rfl rfl rfl rfl rfl rfl rfl hl.1 (Nat.le_of_ble_eq_true rfl) dX6_readsCommand_121 ⟨Nat.zero_le _, Nat.zero_le _⟩ (fun H locs hP hD hS => ?_)
            refine lv_if_eq (tgt := 131) hx hb dX6_readsCommand_124 (by decide) (fun hc => ?_) (fun hc => ?_)
            · have h := o_t h hc
              exact J131 x7.2.1 cd x6.2.2 x7.2.2 _ _ _ h hP hD hS (lv_sub hl [0] rfl)
            · have h := o_f h hc
              exact J127 x7.2.1 cd x6.2.2 x7.2.2 _ _ _ h hP hD hS (lv_sub hl [0] rfl)
    · have h := o_t h hc
      refine lv_iconst (v := 0) hx hb dX6_readsCommand_103 (by decide) ?_
      obtain rfl := o_s h
      rw [hQ]
      exact end_z hx hb hr rfl rfl hP hD hS dX6_readsCommand_104 hlocks
  have J92 : ∀ (nx : Int32) (cd : Int32) (dg : Int32) (pw : Int32) (v1 : Bool) (v2 : Bool) (H : Heap) (locs : List Loc) (ls : Array Slot), fX6_readsCommand_J92 mt ln nx cd dg pw v1 v2 = some out → va_P G vwCl [(a0, .inr (9, [.int th, .ref a1, .ref a2, .ref a3, .int sm, .ref a4, .int ln, .int nx, .int cd, .int dg, .int pw, .long hs])), (a1, .inl (cI, 378, .inl sa)), (a2, .inl (cI, 378, .inl asd)), (a3, .inl (cI, 1512, .inl sv)), (a4, .inl (cI, 120, .inl mt))] H → va_D A [(a0, .inr (9, [.int th, .ref a1, .ref a2, .ref a3, .int sm, .ref a4, .int ln, .int nx, .int cd, .int dg, .int pw, .long hs])), (a1, .inl (cI, 378, .inl sa)), (a2, .inl (cI, 378, .inl asd)), (a3, .inl (cI, 1512, .inl sv)), (a4, .inl (cI, 120, .inl mt))] → va_S A s.heap H locs → lv_has ls 4 [(0, .ref a0), (1, .int (bI v1)), (2, .int (bI v2))] → W p l e ({ frames := 3, cells := 0, slots := 0, locals := 62 } : Room) s m ([.ref a0] : List Value).toArray below meth c H locs 0 0 Q (F0 m 92 ls [.ref a0]) := by
    intro nx cd dg pw v1 v2 H locs ls h hP hD hS hl
    rw [fX6_readsCommand_J92] at h
    refine lv_iconst (v := 1) hx hb dX6_readsCommand_92 (by decide) ?_
    refine lv_goto (tgt := 97) hx hb dX6_readsCommand_93 (by decide) ?_
    exact J97 nx cd dg pw v1 v2 true _ _ _ h hP hD hS (lv_sub hl [0, 1, 2] rfl)
  have J73 : ∀ (nx : Int32) (cd : Int32) (dg : Int32) (pw : Int32) (v1 : Bool) (t0 : Bool) (H : Heap) (locs : List Loc) (ls : Array Slot), fX6_readsCommand_J73 mt ln nx cd dg pw v1 t0 = some out → va_P G vwCl [(a0, .inr (9, [.int th, .ref a1, .ref a2, .ref a3, .int sm, .ref a4, .int ln, .int nx, .int cd, .int dg, .int pw, .long hs])), (a1, .inl (cI, 378, .inl sa)), (a2, .inl (cI, 378, .inl asd)), (a3, .inl (cI, 1512, .inl sv)), (a4, .inl (cI, 120, .inl mt))] H → va_D A [(a0, .inr (9, [.int th, .ref a1, .ref a2, .ref a3, .int sm, .ref a4, .int ln, .int nx, .int cd, .int dg, .int pw, .long hs])), (a1, .inl (cI, 378, .inl sa)), (a2, .inl (cI, 378, .inl asd)), (a3, .inl (cI, 1512, .inl sv)), (a4, .inl (cI, 120, .inl mt))] → va_S A s.heap H locs → lv_has ls 4 [(0, .ref a0), (1, .int (bI v1))] → W p l e ({ frames := 3, cells := 0, slots := 0, locals := 62 } : Room) s m ([.ref a0] : List Value).toArray below meth c H locs 0 0 Q (F0 m 73 ls [.int (bI t0)]) := by
    intro nx cd dg pw v1 t0 H locs ls h hP hD hS hl
    rw [fX6_readsCommand_J73] at h
    refine lv_istore_n (lv' := [(2, .int (bI t0)), (0, .ref a0), (1, .int (bI v1))]) hx hb dX6_readsCommand_73 rfl hl (by decide) rfl (fun ls hl => ?_)
    refine lv_aload_n hx hb dX6_readsCommand_74 rfl (lv_at hl 1 rfl) ?_
    refine lv_iload_n hx hb dX6_readsCommand_75 rfl (lv_at hl 2 rfl) ?_
    refine lv_if_ne (tgt := 92) hx hb dX6_readsCommand_76 (by decide) (fun hc => ?_) (fun hc => ?_)
    · have h := o_f h hc
      exact J92 nx cd dg pw v1 t0 _ _ _ h hP hD hS (lv_sub hl [1, 2, 0] rfl)
    · have h := o_t h hc
      refine lv_iload_n hx hb dX6_readsCommand_79 rfl (lv_at hl 0 rfl) ?_
      refine lv_if_ne (tgt := 92) hx hb dX6_readsCommand_80 (by decide) (fun hc => ?_) (fun hc => ?_)
      · have h := o_f h hc
        exact J92 nx cd dg pw v1 t0 _ _ _ h hP hD hS (lv_sub hl [1, 2, 0] rfl)
      · have h := o_t h hc
        refine lv_aload_n hx hb dX6_readsCommand_83 rfl (lv_at hl 1 rfl) ?_
        refine va_get (D := G) (ci := 9) (v := .int cd) (C := RX6) (T := TX6) (N := 12) hx hb hts hin6 hown hK.1 hP 0 rfl rfl 8 (by decide) hw0 (fun _ h9 => h9) rfl dX6_readsCommand_84 ?_
        refine lv_bipush (v := 99) hx hb dX6_readsCommand_87 (by decide) ?_
        refine lv_icmp_ne (tgt := 96) hx hb dX6_readsCommand_89 (by decide) (fun hc => ?_) (fun hc => ?_)
        · have h := o_f h hc
          refine lv_iconst (v := 0) hx hb dX6_readsCommand_96 (by decide) ?_
          exact J97 nx cd dg pw v1 t0 false _ _ _ h hP hD hS (lv_sub hl [1, 2, 0] rfl)
        · have h := o_t h hc
          exact J92 nx cd dg pw v1 t0 _ _ _ h hP hD hS (lv_sub hl [1, 2, 0] rfl)
  have J68 : ∀ (nx : Int32) (cd : Int32) (dg : Int32) (pw : Int32) (v1 : Bool) (H : Heap) (locs : List Loc) (ls : Array Slot), fX6_readsCommand_J68 mt ln nx cd dg pw v1 = some out → va_P G vwCl [(a0, .inr (9, [.int th, .ref a1, .ref a2, .ref a3, .int sm, .ref a4, .int ln, .int nx, .int cd, .int dg, .int pw, .long hs])), (a1, .inl (cI, 378, .inl sa)), (a2, .inl (cI, 378, .inl asd)), (a3, .inl (cI, 1512, .inl sv)), (a4, .inl (cI, 120, .inl mt))] H → va_D A [(a0, .inr (9, [.int th, .ref a1, .ref a2, .ref a3, .int sm, .ref a4, .int ln, .int nx, .int cd, .int dg, .int pw, .long hs])), (a1, .inl (cI, 378, .inl sa)), (a2, .inl (cI, 378, .inl asd)), (a3, .inl (cI, 1512, .inl sv)), (a4, .inl (cI, 120, .inl mt))] → va_S A s.heap H locs → lv_has ls 4 [(0, .ref a0), (1, .int (bI v1))] → W p l e ({ frames := 3, cells := 0, slots := 0, locals := 62 } : Room) s m ([.ref a0] : List Value).toArray below meth c H locs 0 0 Q (F0 m 68 ls []) := by
    intro nx cd dg pw v1 H locs ls h hP hD hS hl
    rw [fX6_readsCommand_J68] at h
    refine lv_iconst (v := 1) hx hb dX6_readsCommand_68 (by decide) ?_
    refine lv_goto (tgt := 73) hx hb dX6_readsCommand_69 (by decide) ?_
    exact J73 nx cd dg pw v1 true _ _ _ h hP hD hS (lv_sub hl [0, 1] rfl)
  have J49 : ∀ (nx : Int32) (cd : Int32) (dg : Int32) (pw : Int32) (t0 : Bool) (H : Heap) (locs : List Loc) (ls : Array Slot), fX6_readsCommand_J49 mt ln nx cd dg pw t0 = some out → va_P G vwCl [(a0, .inr (9, [.int th, .ref a1, .ref a2, .ref a3, .int sm, .ref a4, .int ln, .int nx, .int cd, .int dg, .int pw, .long hs])), (a1, .inl (cI, 378, .inl sa)), (a2, .inl (cI, 378, .inl asd)), (a3, .inl (cI, 1512, .inl sv)), (a4, .inl (cI, 120, .inl mt))] H → va_D A [(a0, .inr (9, [.int th, .ref a1, .ref a2, .ref a3, .int sm, .ref a4, .int ln, .int nx, .int cd, .int dg, .int pw, .long hs])), (a1, .inl (cI, 378, .inl sa)), (a2, .inl (cI, 378, .inl asd)), (a3, .inl (cI, 1512, .inl sv)), (a4, .inl (cI, 120, .inl mt))] → va_S A s.heap H locs → lv_has ls 4 [(0, .ref a0)] → W p l e ({ frames := 3, cells := 0, slots := 0, locals := 62 } : Room) s m ([.ref a0] : List Value).toArray below meth c H locs 0 0 Q (F0 m 49 ls [.int (bI t0)]) := by
    intro nx cd dg pw t0 H locs ls h hP hD hS hl
    rw [fX6_readsCommand_J49] at h
    refine lv_istore_n (lv' := [(1, .int (bI t0)), (0, .ref a0)]) hx hb dX6_readsCommand_49 rfl hl (by decide) rfl (fun ls hl => ?_)
    refine lv_aload_n hx hb dX6_readsCommand_50 rfl (lv_at hl 1 rfl) ?_
    refine va_get (D := G) (ci := 9) (v := .int cd) (C := RX6) (T := TX6) (N := 12) hx hb hts hin6 hown hK.1 hP 0 rfl rfl 8 (by decide) hw0 (fun _ h9 => h9) rfl dX6_readsCommand_51 ?_
    refine lv_bipush (v := 115) hx hb dX6_readsCommand_54 (by decide) ?_
    refine lv_icmp_eq (tgt := 68) hx hb dX6_readsCommand_56 (by decide) (fun hc => ?_) (fun hc => ?_)
    · have h := o_t h hc
      exact J68 nx cd dg pw t0 _ _ _ h hP hD hS (lv_sub hl [1, 0] rfl)
    · have h := o_f h hc
      refine lv_aload_n hx hb dX6_readsCommand_59 rfl (lv_at hl 1 rfl) ?_
      refine va_get (D := G) (ci := 9) (v := .int cd) (C := RX6) (T := TX6) (N := 12) hx hb hts hin6 hown hK.1 hP 0 rfl rfl 8 (by decide) hw0 (fun _ h9 => h9) rfl dX6_readsCommand_60 ?_
      refine lv_bipush (v := 104) hx hb dX6_readsCommand_63 (by decide) ?_
      refine lv_icmp_ne (tgt := 72) hx hb dX6_readsCommand_65 (by decide) (fun hc => ?_) (fun hc => ?_)
      · have h := o_f h hc
        refine lv_iconst (v := 0) hx hb dX6_readsCommand_72 (by decide) ?_
        exact J73 nx cd dg pw t0 false _ _ _ h hP hD hS (lv_sub hl [1, 0] rfl)
      · have h := o_t h hc
        exact J68 nx cd dg pw t0 _ _ _ h hP hD hS (lv_sub hl [1, 0] rfl)
  have J44 : ∀ (nx : Int32) (cd : Int32) (dg : Int32) (pw : Int32) (H : Heap) (locs : List Loc) (ls : Array Slot), fX6_readsCommand_J44 mt ln nx cd dg pw = some out → va_P G vwCl [(a0, .inr (9, [.int th, .ref a1, .ref a2, .ref a3, .int sm, .ref a4, .int ln, .int nx, .int cd, .int dg, .int pw, .long hs])), (a1, .inl (cI, 378, .inl sa)), (a2, .inl (cI, 378, .inl asd)), (a3, .inl (cI, 1512, .inl sv)), (a4, .inl (cI, 120, .inl mt))] H → va_D A [(a0, .inr (9, [.int th, .ref a1, .ref a2, .ref a3, .int sm, .ref a4, .int ln, .int nx, .int cd, .int dg, .int pw, .long hs])), (a1, .inl (cI, 378, .inl sa)), (a2, .inl (cI, 378, .inl asd)), (a3, .inl (cI, 1512, .inl sv)), (a4, .inl (cI, 120, .inl mt))] → va_S A s.heap H locs → lv_has ls 4 [(0, .ref a0)] → W p l e ({ frames := 3, cells := 0, slots := 0, locals := 62 } : Room) s m ([.ref a0] : List Value).toArray below meth c H locs 0 0 Q (F0 m 44 ls []) := by
    intro nx cd dg pw H locs ls h hP hD hS hl
    rw [fX6_readsCommand_J44] at h
    refine lv_iconst (v := 1) hx hb dX6_readsCommand_44 (by decide) ?_
    refine lv_goto (tgt := 49) hx hb dX6_readsCommand_45 (by decide) ?_
    exact J49 nx cd dg pw true _ _ _ h hP hD hS (lv_sub hl [0] rfl)
  have h := hf
  rw [fX6_readsCommand] at h
  have hl := lv_entry ([.ref a0]) (n := 4) (Nat.le_of_ble_eq_true rfl)
  rw [lg_entry_eq]
  generalize (lg_sl ([.ref a0]) ++ List.replicate (4 - (lg_sl ([.ref a0])).length) Slot.unset).toArray = ls at hl ⊢
  have hl : lv_has ls 4 [(0, .ref a0)] := hl
  refine lv_aload_n hx hb dX6_readsCommand_0 rfl (lv_at hl 0 rfl) ?_
  refine lv_aload_n hx hb dX6_readsCommand_1 rfl (lv_at hl 0 rfl) ?_
  obtain ⟨x1, ex1, h⟩ := o_b h
  refine call_iV (As := []) (rest := [.ref a0]) (ws2 := [(a0, .inr (9, [.int th, .ref a1, .ref a2, .ref a3, .int sm, .ref a4, .int ln, .int nx, .int cd, .int dg, .int pw, .long hs])), (a1, .inl (cI, 378, .inl sa)), (a2, .inl (cI, 378, .inl asd)), (a3, .inl (cI, 1512, .inl sv)), (a4, .inl (cI, 120, .inl mt))]) ⟨hx, hb, hml, hown, hts⟩ (cX6_here_ok l G cI cG a0 a1 a2 a3 a4 th sa asd sv sm mt ln nx cd dg pw hs x1 ex1) (cwV 0 hts gX6_readsCommand_X6_here rfl rfl rfl hdX6_here ⟨Nat.le_of_ble_eq_true rfl, Nat.le_of_ble_eq_true rfl⟩) hP hD hS hA hK 9 rfl rfl rfl [0, 1, 2, 3, 4] rfl rfl rfl rfl rfl rfl rfl rfl hl.1 (Nat.le_of_ble_eq_true rfl) dX6_readsCommand_2 ⟨Nat.zero_le _, Nat.zero_le _⟩ (fun H locs hP hD hS => ?_)
  refine va_put (D := G) (ci := 9) (v := .int x1) (ty := .int) (C := RX6) (T := TX6) (N := 12) hx hb hts hin6 tyX6 tyX6_ok nmX6 hown hK.1 hP hD hS 0 rfl rfl 8 (by decide) hw0 (fun _ h9 => h9) rfl (by decide +kernel) rfl rfl (Nat.le_of_ble_eq_true rfl) dX6_readsCommand_5 (fun H locs hP hD hS => ?_)
  have hP : va_P G vwCl [(a0, .inr (9, [.int th, .ref a1, .ref a2, .ref a3, .int sm, .ref a4, .int ln, .int nx, .int x1, .int dg, .int pw, .long hs])), (a1, .inl (cI, 378, .inl sa)), (a2, .inl (cI, 378, .inl asd)), (a3, .inl (cI, 1512, .inl sv)), (a4, .inl (cI, 120, .inl mt))] H := hP
  have hD : va_D A [(a0, .inr (9, [.int th, .ref a1, .ref a2, .ref a3, .int sm, .ref a4, .int ln, .int nx, .int x1, .int dg, .int pw, .long hs])), (a1, .inl (cI, 378, .inl sa)), (a2, .inl (cI, 378, .inl asd)), (a3, .inl (cI, 1512, .inl sv)), (a4, .inl (cI, 120, .inl mt))] := hD
  refine lv_aload_n hx hb dX6_readsCommand_8 rfl (lv_at hl 0 rfl) ?_
  refine va_get (D := G) (ci := 9) (v := .int x1) (C := RX6) (T := TX6) (N := 12) hx hb hts hin6 hown hK.1 hP 0 rfl rfl 8 (by decide) hw0 (fun _ h9 => h9) rfl dX6_readsCommand_9 ?_
  refine lv_bipush (v := 110) hx hb dX6_readsCommand_12 (by decide) ?_
  refine lv_icmp_eq (tgt := 44) hx hb dX6_readsCommand_14 (by decide) (fun hc => ?_) (fun hc => ?_)
  · have h := o_t h hc
    exact J44 nx x1 dg pw _ _ _ h hP hD hS (lv_sub hl [0] rfl)
  · have h := o_f h hc
    refine lv_aload_n hx hb dX6_readsCommand_17 rfl (lv_at hl 0 rfl) ?_
    refine va_get (D := G) (ci := 9) (v := .int x1) (C := RX6) (T := TX6) (N := 12) hx hb hts hin6 hown hK.1 hP 0 rfl rfl 8 (by decide) hw0 (fun _ h9 => h9) rfl dX6_readsCommand_18 ?_
    refine lv_bipush (v := 101) hx hb dX6_readsCommand_21 (by decide) ?_
    refine lv_icmp_eq (tgt := 44) hx hb dX6_readsCommand_23 (by decide) (fun hc => ?_) (fun hc => ?_)
    · have h := o_t h hc
      exact J44 nx x1 dg pw _ _ _ h hP hD hS (lv_sub hl [0] rfl)
    · have h := o_f h hc
      refine lv_aload_n hx hb dX6_readsCommand_26 rfl (lv_at hl 0 rfl) ?_
      refine va_get (D := G) (ci := 9) (v := .int x1) (C := RX6) (T := TX6) (N := 12) hx hb hts hin6 hown hK.1 hP 0 rfl rfl 8 (by decide) hw0 (fun _ h9 => h9) rfl dX6_readsCommand_27 ?_
      refine lv_bipush (v := 100) hx hb dX6_readsCommand_30 (by decide) ?_
      refine lv_icmp_eq (tgt := 44) hx hb dX6_readsCommand_32 (by decide) (fun hc => ?_) (fun hc => ?_)
      · have h := o_t h hc
        exact J44 nx x1 dg pw _ _ _ h hP hD hS (lv_sub hl [0] rfl)
      · have h := o_f h hc
        refine lv_aload_n hx hb dX6_readsCommand_35 rfl (lv_at hl 0 rfl) ?_
        refine va_get (D := G) (ci := 9) (v := .int x1) (C := RX6) (T := TX6) (N := 12) hx hb hts hin6 hown hK.1 hP 0 rfl rfl 8 (by decide) hw0 (fun _ h9 => h9) rfl dX6_readsCommand_36 ?_
        refine lv_bipush (v := 114) hx hb dX6_readsCommand_39 (by decide) ?_
        refine lv_icmp_ne (tgt := 48) hx hb dX6_readsCommand_41 (by decide) (fun hc => ?_) (fun hc => ?_)
        · have h := o_f h hc
          refine lv_iconst (v := 0) hx hb dX6_readsCommand_48 (by decide) ?_
          exact J49 nx x1 dg pw false _ _ _ h hP hD hS (lv_sub hl [0] rfl)
        · have h := o_t h hc
          exact J44 nx x1 dg pw _ _ _ h hP hD hS (lv_sub hl [0] rfl)
theorem hdX6_canDo : yX6_canDo.cls = RX6 ∧ yX6_canDo.cls ≠ "java/lang/invoke/MethodHandle" ∧ yX6_canDo.cls ≠ "java/lang/invoke/VarHandle" ∧ (parseMethodDescriptor yX6_canDo.desc).map (fun d => d.parameters.length) = some 0 := by decide +kernel
set_option maxHeartbeats 4000000 in
set_option maxRecDepth 100000 in
theorem cX6_canDo_ok (l : Launch) (G : va_G) (cI cG : ClassId) (a0 a1 a2 a3 a4 : Nat) (th : Int32) (sa : (Nat → Int32)) (asd : (Nat → Int32)) (sv : (Nat → Int32)) (sm : Int32) (mt : (Nat → Int32)) (ln : Int32) (nx : Int32) (cd : Int32) (dg : Int32) (pw : Int32) (hs : Int64) (out : Bool) (hf : fX6_canDo sa cd dg pw = some out) : CI l G (tyz cI cG) yX6_canDo wsX6_canDo ({ frames := 4, cells := 0, slots := 0, locals := 86 } : Room) [.ref a0] [(a0, .inr (9, [.int th, .ref a1, .ref a2, .ref a3, .int sm, .ref a4, .int ln, .int nx, .int cd, .int dg, .int pw, .long hs])), (a1, .inl (cI, 378, .inl sa)), (a2, .inl (cI, 378, .inl asd)), (a3, .inl (cI, 1512, .inl sv)), (a4, .inl (cI, 120, .inl mt))] (bI out) [(a0, .inr (9, [.int th, .ref a1, .ref a2, .ref a3, .int sm, .ref a4, .int ln, .int nx, .int cd, .int dg, .int pw, .long hs])), (a1, .inl (cI, 378, .inl sa)), (a2, .inl (cI, 378, .inl asd)), (a3, .inl (cI, 1512, .inl sv)), (a4, .inl (cI, 120, .inl mt))] := by
  intro sz
  refine Met.ofW (cc := cX6_canDo) (maxL := 1) (ret := (some .boolean)) (by decide) rfl ?_
  intro p e s m args below meth c s₁ B hml hv
  obtain ⟨rfl, hsz, hP, hK, hD0⟩ := hv
  have hx := B.exec
  have hb := B.bytes
  have hr := B.returns
  have hts := atoms_spec (ws := wsX6_canDo) B.pre
  have hown : s.vm.findClass RX6 = some m.cls := findClass_of_methodNamed B.named
  have hlocks := B.notSynchronized
  subst hsz
  have hD := hD0.self (sz := s.heap.size)
  generalize hAe : va_A [(a0, .inr (9, [.int th, .ref a1, .ref a2, .ref a3, .int sm, .ref a4, .int ln, .int nx, .int cd, .int dg, .int pw, .long hs])), (a1, .inl (cI, 378, .inl sa)), (a2, .inl (cI, 378, .inl asd)), (a3, .inl (cI, 1512, .inl sv)), (a4, .inl (cI, 120, .inl mt))] s.heap.size = A at hD ⊢
  have hA : ∀ q : Nat, s.heap.size ≤ q → A q := fun q h => by rw [← hAe]; exact Or.inr h
  have hS : va_S A s.heap s.heap [] := va_S.rf
  have hw0 := hts (.fieldLink RX6 194 "SpeedTurnsModel" "command" "I") (List.mem_of_getElem? (i := 1) rfl)
  have hin6 : ∀ w ∈ u_ws RX6 TX6 12, w ∈ wsX6_canDo := by decide +kernel
  have hw2 := hts (.fieldLink RX6 181 "SpeedTurnsModel" "digit" "I") (List.mem_of_getElem? (i := 3) rfl)
  have hw3 := hts (.fieldLink RX6 7 "SpeedTurnsModel" "s" "[I") (List.mem_of_getElem? (i := 2) rfl)
  have hw4 := hts (.fieldLink RX6 191 "SpeedTurnsModel" "power" "I") (List.mem_of_getElem? (i := 4) rfl)
  show W p l e ({ frames := 4, cells := 0, slots := 0, locals := 86 } : Room) s m _ below meth c s.heap [] 0 0 _ _
  refine W_genQ (fun Q hQ => ?_)
  have h := hf
  rw [fX6_canDo] at h
  have hl := lv_entry ([.ref a0]) (n := 1) (Nat.le_of_ble_eq_true rfl)
  rw [lg_entry_eq]
  generalize (lg_sl ([.ref a0]) ++ List.replicate (1 - (lg_sl ([.ref a0])).length) Slot.unset).toArray = ls at hl ⊢
  have hl : lv_has ls 1 [(0, .ref a0)] := hl
  refine lv_aload_n hx hb dX6_canDo_0 rfl (lv_at hl 0 rfl) ?_
  refine va_get (D := G) (ci := 9) (v := .int cd) (C := RX6) (T := TX6) (N := 12) hx hb hts hin6 hown hK.1 hP 0 rfl rfl 8 (by decide) hw0 (fun _ h9 => h9) rfl dX6_canDo_1 ?_
  by_cases c1 : cd = 99
  · have h := o_t h c1
    refine lv_lookup (off := 78) (tgt := 82) hx hb dX6_canDo_4 (by decide) (by rw [c1]; rfl) (by decide) ?_
    refine lv_aload_n hx hb dX6_canDo_82 rfl (lv_at hl 0 rfl) ?_
    refine lv_aload_n hx hb dX6_canDo_83 rfl (lv_at hl 0 rfl) ?_
    refine va_get (D := G) (ci := 9) (v := .int dg) (C := RX6) (T := TX6) (N := 12) hx hb hts hin6 hown hK.1 hP 0 rfl rfl 9 (by decide) hw2 (fun _ h9 => h9) rfl dX6_canDo_84 ?_
    obtain ⟨x2, ex2, h⟩ := o_b h
    refine call_iV (As := [.int dg]) (rest := []) (ws2 := [(a0, .inr (9, [.int th, .ref a1, .ref a2, .ref a3, .int sm, .ref a4, .int ln, .int nx, .int cd, .int dg, .int pw, .long hs])), (a1, .inl (cI, 378, .inl sa)), (a2, .inl (cI, 378, .inl asd)), (a3, .inl (cI, 1512, .inl sv)), (a4, .inl (cI, 120, .inl mt))]) ⟨hx, hb, hml, hown, hts⟩ (cX6_isFighter_ok l G cI cG a0 a1 a2 a3 a4 th sa asd sv sm mt ln nx cd dg pw hs dg x2 ex2) (cwV 1 hts gX6_canDo_X6_isFighter rfl rfl rfl hdX6_isFighter ⟨Nat.le_of_ble_eq_true rfl, Nat.le_of_ble_eq_true rfl⟩) hP hD hS hA hK 9 rfl rfl rfl [0, 1, 2, 3, 4] rfl rfl rfl rfl rfl rfl rfl rfl hl.1 (Nat.le_of_ble_eq_true rfl) dX6_canDo_87 ⟨Nat.zero_le _, Nat.zero_le _⟩ (fun H locs hP hD hS => ?_)
    refine lv_if_eq (tgt := 108) hx hb dX6_canDo_90 (by decide) (fun hc => ?_) (fun hc => ?_)
    · have h := o_t h hc
      refine lv_iconst (v := 0) hx hb dX6_canDo_108 (by decide) ?_
      obtain rfl := o_s h
      rw [hQ]
      exact end_z hx hb hr rfl rfl hP hD hS dX6_canDo_109 hlocks
    · have h := o_f h hc
      refine lv_aload_n hx hb dX6_canDo_93 rfl (lv_at hl 0 rfl) ?_
      refine lv_aload_n hx hb dX6_canDo_94 rfl (lv_at hl 0 rfl) ?_
      refine va_get (D := G) (ci := 9) (v := .int dg) (C := RX6) (T := TX6) (N := 12) hx hb hts hin6 hown hK.1 hP 0 rfl rfl 9 (by decide) hw2 (fun _ h9 => h9) rfl dX6_canDo_95 ?_
      obtain ⟨x3, ex3, h⟩ := o_b h
      refine call_iV (As := [.int dg]) (rest := []) (ws2 := [(a0, .inr (9, [.int th, .ref a1, .ref a2, .ref a3, .int sm, .ref a4, .int ln, .int nx, .int cd, .int dg, .int pw, .long hs])), (a1, .inl (cI, 378, .inl sa)), (a2, .inl (cI, 378, .inl asd)), (a3, .inl (cI, 1512, .inl sv)), (a4, .inl (cI, 120, .inl mt))]) ⟨hx, hb, hml, hown, hts⟩ (cX6_canComeIn_ok l G cI cG a0 a1 a2 a3 a4 th sa asd sv sm mt ln nx cd dg pw hs dg x3 ex3) (cwV 1 hts gX6_canDo_X6_canComeIn rfl rfl rfl hdX6_canComeIn ⟨Nat.le_of_ble_eq_true rfl, Nat.le_of_ble_eq_true rfl⟩) hP hD hS hA hK 9 rfl rfl rfl [0, 1, 2, 3, 4] rfl rfl rfl rfl rfl rfl rfl rfl hl.1 (Nat.le_of_ble_eq_true rfl) dX6_canDo_98 ⟨Nat.zero_le _, Nat.zero_le _⟩ (fun H locs hP hD hS => ?_)
      refine lv_if_eq (tgt := 108) hx hb dX6_canDo_101 (by decide) (fun hc => ?_) (fun hc => ?_)
      · have h := o_t h hc
        refine lv_iconst (v := 0) hx hb dX6_canDo_108 (by decide) ?_
        obtain rfl := o_s h
        rw [hQ]
        exact end_z hx hb hr rfl rfl hP hD hS dX6_canDo_109 hlocks
      · have h := o_f h hc
        refine lv_iconst (v := 1) hx hb dX6_canDo_104 (by decide) ?_
        refine lv_goto (tgt := 109) hx hb dX6_canDo_105 (by decide) ?_
        obtain rfl := o_s h
        rw [hQ]
        exact end_z hx hb hr rfl rfl hP hD hS dX6_canDo_109 hlocks
  have h := o_f h c1
  by_cases c4 : cd = 100
  · have h := o_t h c4
    refine lv_lookup (off := 73) (tgt := 77) hx hb dX6_canDo_4 (by decide) (by rw [c4]; rfl) (by decide) ?_
    refine lv_aload_n hx hb dX6_canDo_77 rfl (lv_at hl 0 rfl) ?_
    obtain ⟨x5, ex5, h⟩ := o_b h
    refine call_iV (As := []) (rest := []) (ws2 := [(a0, .inr (9, [.int th, .ref a1, .ref a2, .ref a3, .int sm, .ref a4, .int ln, .int nx, .int cd, .int dg, .int pw, .long hs])), (a1, .inl (cI, 378, .inl sa)), (a2, .inl (cI, 378, .inl asd)), (a3, .inl (cI, 1512, .inl sv)), (a4, .inl (cI, 120, .inl mt))]) ⟨hx, hb, hml, hown, hts⟩ (cX6_canDelay_ok l G cI cG a0 a1 a2 a3 a4 th sa asd sv sm mt ln nx cd dg pw hs x5 ex5) (cwV 0 hts gX6_canDo_X6_canDelay rfl rfl rfl hdX6_canDelay ⟨Nat.le_of_ble_eq_true rfl, Nat.le_of_ble_eq_true rfl⟩) hP hD hS hA hK 9 rfl rfl rfl [0, 1, 2, 3, 4] rfl rfl rfl rfl rfl rfl rfl rfl hl.1 (Nat.le_of_ble_eq_true rfl) dX6_canDo_78 ⟨Nat.zero_le _, Nat.zero_le _⟩ (fun H locs hP hD hS => ?_)
    obtain rfl := o_s h
    rw [hQ]
    exact end_z hx hb hr rfl (bI_n _) hP hD hS dX6_canDo_81 hlocks
  have h := o_f h c4
  by_cases c6 : cd = 101
  · have h := o_t h c6
    refine lv_lookup (off := 68) (tgt := 72) hx hb dX6_canDo_4 (by decide) (by rw [c6]; rfl) (by decide) ?_
    refine lv_aload_n hx hb dX6_canDo_72 rfl (lv_at hl 0 rfl) ?_
    obtain ⟨x7, ex7, h⟩ := o_b h
    refine call_iV (As := []) (rest := []) (ws2 := [(a0, .inr (9, [.int th, .ref a1, .ref a2, .ref a3, .int sm, .ref a4, .int ln, .int nx, .int cd, .int dg, .int pw, .long hs])), (a1, .inl (cI, 378, .inl sa)), (a2, .inl (cI, 378, .inl asd)), (a3, .inl (cI, 1512, .inl sv)), (a4, .inl (cI, 120, .inl mt))]) ⟨hx, hb, hml, hown, hts⟩ (cX6_canEnd_ok l G cI cG a0 a1 a2 a3 a4 th sa asd sv sm mt ln nx cd dg pw hs x7 ex7) (cwV 0 hts gX6_canDo_X6_canEnd rfl rfl rfl hdX6_canEnd ⟨Nat.le_of_ble_eq_true rfl, Nat.le_of_ble_eq_true rfl⟩) hP hD hS hA hK 9 rfl rfl rfl [0, 1, 2, 3, 4] rfl rfl rfl rfl rfl rfl rfl rfl hl.1 (Nat.le_of_ble_eq_true rfl) dX6_canDo_73 ⟨Nat.zero_le _, Nat.zero_le _⟩ (fun H locs hP hD hS => ?_)
    obtain rfl := o_s h
    rw [hQ]
    exact end_z hx hb hr rfl (bI_n _) hP hD hS dX6_canDo_76 hlocks
  have h := o_f h c6
  by_cases c8 : cd = 110
  · have h := o_t h c8
    refine lv_lookup (off := 52) (tgt := 56) hx hb dX6_canDo_4 (by decide) (by rw [c8]; rfl) (by decide) ?_
    refine lv_aload_n hx hb dX6_canDo_56 rfl (lv_at hl 0 rfl) ?_
    refine va_get (D := G) (ci := 9) (v := .ref a1) (C := RX6) (T := TX6) (N := 12) hx hb hts hin6 hown hK.1 hP 0 rfl rfl 1 (by decide) hw3 (fun _ h9 => h9) rfl dX6_canDo_57 ?_
    refine lv_iconst (v := 4) hx hb dX6_canDo_60 (by decide) ?_
    obtain ⟨hin, h⟩ := o_g h
    refine va_iald hx hb hK.1 hP 1 0 rfl rfl hin dX6_canDo_61 ?_
    refine lv_iconst (v := (-1)) hx hb dX6_canDo_62 (by decide) ?_
    refine lv_icmp_ne (tgt := 70) hx hb dX6_canDo_63 (by decide) (fun hc => ?_) (fun hc => ?_)
    · have h := o_f h hc
      refine lv_iconst (v := 0) hx hb dX6_canDo_70 (by decide) ?_
      obtain rfl := o_s h
      rw [hQ]
      exact end_z hx hb hr rfl rfl hP hD hS dX6_canDo_71 hlocks
    · have h := o_t h hc
      refine lv_iconst (v := 1) hx hb dX6_canDo_66 (by decide) ?_
      refine lv_goto (tgt := 71) hx hb dX6_canDo_67 (by decide) ?_
      obtain rfl := o_s h
      rw [hQ]
      exact end_z hx hb hr rfl rfl hP hD hS dX6_canDo_71 hlocks
  have h := o_f h c8
  by_cases c9 : cd = 114
  · have h := o_t h c9
    refine lv_lookup (off := 106) (tgt := 110) hx hb dX6_canDo_4 (by decide) (by rw [c9]; rfl) (by decide) ?_
    refine lv_aload_n hx hb dX6_canDo_110 rfl (lv_at hl 0 rfl) ?_
    refine va_get (D := G) (ci := 9) (v := .ref a1) (C := RX6) (T := TX6) (N := 12) hx hb hts hin6 hown hK.1 hP 0 rfl rfl 1 (by decide) hw3 (fun _ h9 => h9) rfl dX6_canDo_111 ?_
    refine lv_bipush (v := 8) hx hb dX6_canDo_114 (by decide) ?_
    obtain ⟨hin, h⟩ := o_g h
    refine va_iald hx hb hK.1 hP 1 0 rfl rfl hin dX6_canDo_116 ?_
    refine lv_if_le (tgt := 124) hx hb dX6_canDo_117 (by decide) (fun hc => ?_) (fun hc => ?_)
    · have h := o_t h hc
      refine lv_iconst (v := 0) hx hb dX6_canDo_124 (by decide) ?_
      obtain rfl := o_s h
      rw [hQ]
      exact end_z hx hb hr rfl rfl hP hD hS dX6_canDo_125 hlocks
    · have h := o_f h hc
      refine lv_iconst (v := 1) hx hb dX6_canDo_120 (by decide) ?_
      refine lv_goto (tgt := 125) hx hb dX6_canDo_121 (by decide) ?_
      obtain rfl := o_s h
      rw [hQ]
      exact end_z hx hb hr rfl rfl hP hD hS dX6_canDo_125 hlocks
  have h := o_f h c9
  have kc1 := ne_ti c1 (z := 99) (by decide)
  have kc4 := ne_ti c4 (z := 100) (by decide)
  have kc6 := ne_ti c6 (z := 101) (by decide)
  have kc8 := ne_ti c8 (z := 110) (by decide)
  have kc9 := ne_ti c9 (z := 114) (by decide)
  refine lv_lookup (off := 122) (tgt := 126) hx hb dX6_canDo_4 (by decide) (by simp [Op.lookupswitch.offset, kc1.symm, kc4.symm, kc6.symm, kc8.symm, kc9.symm]) (by decide) ?_
  refine lv_aload_n hx hb dX6_canDo_126 rfl (lv_at hl 0 rfl) ?_
  refine va_get (D := G) (ci := 9) (v := .ref a1) (C := RX6) (T := TX6) (N := 12) hx hb hts hin6 hown hK.1 hP 0 rfl rfl 1 (by decide) hw3 (fun _ h9 => h9) rfl dX6_canDo_127 ?_
  refine lv_iconst (v := 4) hx hb dX6_canDo_130 (by decide) ?_
  obtain ⟨hin, h⟩ := o_g h
  refine va_iald hx hb hK.1 hP 1 0 rfl rfl hin dX6_canDo_131 ?_
  refine lv_iconst (v := (-1)) hx hb dX6_canDo_132 (by decide) ?_
  refine lv_icmp_eq (tgt := 178) hx hb dX6_canDo_133 (by decide) (fun hc => ?_) (fun hc => ?_)
  · have h := o_t h hc
    refine lv_iconst (v := 0) hx hb dX6_canDo_178 (by decide) ?_
    obtain rfl := o_s h
    rw [hQ]
    exact end_z hx hb hr rfl rfl hP hD hS dX6_canDo_179 hlocks
  · have h := o_f h hc
    refine lv_aload_n hx hb dX6_canDo_136 rfl (lv_at hl 0 rfl) ?_
    refine lv_aload_n hx hb dX6_canDo_137 rfl (lv_at hl 0 rfl) ?_
    refine va_get (D := G) (ci := 9) (v := .int dg) (C := RX6) (T := TX6) (N := 12) hx hb hts hin6 hown hK.1 hP 0 rfl rfl 9 (by decide) hw2 (fun _ h9 => h9) rfl dX6_canDo_138 ?_
    obtain ⟨x10, ex10, h⟩ := o_b h
    refine call_iV (As := [.int dg]) (rest := []) (ws2 := [(a0, .inr (9, [.int th, .ref a1, .ref a2, .ref a3, .int sm, .ref a4, .int ln, .int nx, .int cd, .int dg, .int pw, .long hs])), (a1, .inl (cI, 378, .inl sa)), (a2, .inl (cI, 378, .inl asd)), (a3, .inl (cI, 1512, .inl sv)), (a4, .inl (cI, 120, .inl mt))]) ⟨hx, hb, hml, hown, hts⟩ (cX6_isFighter_ok l G cI cG a0 a1 a2 a3 a4 th sa asd sv sm mt ln nx cd dg pw hs dg x10 ex10) (cwV 1 hts gX6_canDo_X6_isFighter rfl rfl rfl hdX6_isFighter ⟨Nat.le_of_ble_eq_true rfl, Nat.le_of_ble_eq_true rfl⟩) hP hD hS hA hK 9 rfl rfl rfl [0, 1, 2, 3, 4] rfl rfl rfl rfl rfl rfl rfl rfl hl.1 (Nat.le_of_ble_eq_true rfl) dX6_canDo_141 ⟨Nat.zero_le _, Nat.zero_le _⟩ (fun H locs hP hD hS => ?_)
    refine lv_if_eq (tgt := 178) hx hb dX6_canDo_144 (by decide) (fun hc => ?_) (fun hc => ?_)
    · have h := o_t h hc
      refine lv_iconst (v := 0) hx hb dX6_canDo_178 (by decide) ?_
      obtain rfl := o_s h
      rw [hQ]
      exact end_z hx hb hr rfl rfl hP hD hS dX6_canDo_179 hlocks
    · have h := o_f h hc
      refine lv_aload_n hx hb dX6_canDo_147 rfl (lv_at hl 0 rfl) ?_
      refine va_get (D := G) (ci := 9) (v := .int pw) (C := RX6) (T := TX6) (N := 12) hx hb hts hin6 hown hK.1 hP 0 rfl rfl 10 (by decide) hw4 (fun _ h9 => h9) rfl dX6_canDo_148 ?_
      refine lv_iconst (v := 1) hx hb dX6_canDo_151 (by decide) ?_
      refine lv_bipush (v := 60) hx hb dX6_canDo_152 (by decide) ?_
      obtain ⟨x11, ex11, h⟩ := o_b h
      refine call_iS (As := [.int pw, .int (1 : Int32), .int (60 : Int32)]) (rest := []) (ws2 := [(a0, .inr (9, [.int th, .ref a1, .ref a2, .ref a3, .int sm, .ref a4, .int ln, .int nx, .int cd, .int dg, .int pw, .long hs])), (a1, .inl (cI, 378, .inl sa)), (a2, .inl (cI, 378, .inl asd)), (a3, .inl (cI, 1512, .inl sv)), (a4, .inl (cI, 120, .inl mt))]) ⟨hx, hb, hml, hown, hts⟩ (cX6_in_ok l G cI cG pw (1 : Int32) (60 : Int32) x11 ex11) (va_cwS 3 hts gX6_canDo_X6_in rfl rfl rfl hdX6_in ⟨Nat.le_of_ble_eq_true rfl, Nat.le_of_ble_eq_true rfl⟩) hP hD hS hA hK [] rfl rfl rfl rfl rfl rfl rfl rfl hl.1 (Nat.le_of_ble_eq_true rfl) dX6_canDo_154 ⟨Nat.zero_le _, Nat.zero_le _⟩ (fun H locs hP hD hS => ?_)
      refine lv_if_eq (tgt := 178) hx hb dX6_canDo_157 (by decide) (fun hc => ?_) (fun hc => ?_)
      · have h := o_t h hc
        refine lv_iconst (v := 0) hx hb dX6_canDo_178 (by decide) ?_
        obtain rfl := o_s h
        rw [hQ]
        exact end_z hx hb hr rfl rfl hP hD hS dX6_canDo_179 hlocks
      · have h := o_f h hc
        refine lv_aload_n hx hb dX6_canDo_160 rfl (lv_at hl 0 rfl) ?_
        refine lv_aload_n hx hb dX6_canDo_161 rfl (lv_at hl 0 rfl) ?_
        refine va_get (D := G) (ci := 9) (v := .ref a1) (C := RX6) (T := TX6) (N := 12) hx hb hts hin6 hown hK.1 hP 0 rfl rfl 1 (by decide) hw3 (fun _ h9 => h9) rfl dX6_canDo_162 ?_
        refine lv_iconst (v := 4) hx hb dX6_canDo_165 (by decide) ?_
        obtain ⟨hin, h⟩ := o_g h
        refine va_iald hx hb hK.1 hP 1 0 rfl rfl hin dX6_canDo_166 ?_
        refine lv_iconst (v := 0) hx hb dX6_canDo_167 (by decide) ?_
        obtain ⟨x12, ex12, h⟩ := o_b h
        refine call_iV (As := [.int (sa ((4 : Int32)).toNatClampNeg), .int (0 : Int32)]) (rest := []) (ws2 := [(a0, .inr (9, [.int th, .ref a1, .ref a2, .ref a3, .int sm, .ref a4, .int ln, .int nx, .int cd, .int dg, .int pw, .long hs])), (a1, .inl (cI, 378, .inl sa)), (a2, .inl (cI, 378, .inl asd)), (a3, .inl (cI, 1512, .inl sv)), (a4, .inl (cI, 120, .inl mt))]) ⟨hx, hb, hml, hown, hts⟩ (cX6_canAct_ok l G cI cG a0 a1 a2 a3 a4 th sa asd sv sm mt ln nx cd dg pw hs (sa ((4 : Int32)).toNatClampNeg) (0 : Int32) x12 ex12) (cwV 2 hts gX6_canDo_X6_canAct rfl rfl rfl hdX6_canAct ⟨Nat.le_of_ble_eq_true rfl, Nat.le_of_ble_eq_true rfl⟩) hP hD hS hA hK 9 rfl rfl rfl [0, 1, 2, 3, 4] rfl rfl rfl rfl rfl rfl rfl rfl hl.1 (Nat.le_of_ble_eq_true rfl) dX6_canDo_168 ⟨Nat.zero_le _, Nat.zero_le _⟩ (fun H locs hP hD hS => ?_)
        refine lv_if_eq (tgt := 178) hx hb dX6_canDo_171 (by decide) (fun hc => ?_) (fun hc => ?_)
        · have h := o_t h hc
          refine lv_iconst (v := 0) hx hb dX6_canDo_178 (by decide) ?_
          obtain rfl := o_s h
          rw [hQ]
          exact end_z hx hb hr rfl rfl hP hD hS dX6_canDo_179 hlocks
        · have h := o_f h hc
          refine lv_iconst (v := 1) hx hb dX6_canDo_174 (by decide) ?_
          refine lv_goto (tgt := 179) hx hb dX6_canDo_175 (by decide) ?_
          obtain rfl := o_s h
          rw [hQ]
          exact end_z hx hb hr rfl rfl hP hD hS dX6_canDo_179 hlocks
theorem hdX6_does : yX6_does.cls = RX6 ∧ yX6_does.cls ≠ "java/lang/invoke/MethodHandle" ∧ yX6_does.cls ≠ "java/lang/invoke/VarHandle" ∧ (parseMethodDescriptor yX6_does.desc).map (fun d => d.parameters.length) = some 0 := by decide +kernel
set_option maxHeartbeats 4000000 in
set_option maxRecDepth 100000 in
theorem cX6_does_ok (l : Launch) (G : va_G) (cI cG : ClassId) (a0 a1 a2 a3 a4 : Nat) (fu : Nat) (th : Int32) (sa : (Nat → Int32)) (asd : (Nat → Int32)) (sv : (Nat → Int32)) (sm : Int32) (mt : (Nat → Int32)) (ln : Int32) (nx : Int32) (cd : Int32) (dg : Int32) (pw : Int32) (hs : Int64) (out : Int32 × (Nat → Int32)) (hf : fX6_does fu sa cd dg pw = some out) : CI l G (tyz cI cG) yX6_does wsX6_does ({ frames := 6, cells := 0, slots := 0, locals := 137 } : Room) [.ref a0] [(a0, .inr (9, [.int th, .ref a1, .ref a2, .ref a3, .int sm, .ref a4, .int ln, .int nx, .int cd, .int dg, .int pw, .long hs])), (a1, .inl (cI, 378, .inl sa)), (a2, .inl (cI, 378, .inl asd)), (a3, .inl (cI, 1512, .inl sv)), (a4, .inl (cI, 120, .inl mt))] out.1 [(a0, .inr (9, [.int th, .ref a1, .ref a2, .ref a3, .int sm, .ref a4, .int ln, .int nx, .int cd, .int dg, .int pw, .long hs])), (a1, .inl (cI, 378, .inl out.2)), (a2, .inl (cI, 378, .inl asd)), (a3, .inl (cI, 1512, .inl sv)), (a4, .inl (cI, 120, .inl mt))] := by
  intro sz
  refine Met.ofW (cc := cX6_does) (maxL := 1) (ret := (some .int)) (by decide) rfl ?_
  intro p e s m args below meth c s₁ B hml hv
  obtain ⟨rfl, hsz, hP, hK, hD0⟩ := hv
  have hx := B.exec
  have hb := B.bytes
  have hr := B.returns
  have hts := atoms_spec (ws := wsX6_does) B.pre
  have hown : s.vm.findClass RX6 = some m.cls := findClass_of_methodNamed B.named
  have hlocks := B.notSynchronized
  subst hsz
  have hD := hD0.self (sz := s.heap.size)
  generalize hAe : va_A [(a0, .inr (9, [.int th, .ref a1, .ref a2, .ref a3, .int sm, .ref a4, .int ln, .int nx, .int cd, .int dg, .int pw, .long hs])), (a1, .inl (cI, 378, .inl sa)), (a2, .inl (cI, 378, .inl asd)), (a3, .inl (cI, 1512, .inl sv)), (a4, .inl (cI, 120, .inl mt))] s.heap.size = A at hD ⊢
  have hA : ∀ q : Nat, s.heap.size ≤ q → A q := fun q h => by rw [← hAe]; exact Or.inr h
  have hS : va_S A s.heap s.heap [] := va_S.rf
  have hw0 := hts (.fieldLink RX6 194 "SpeedTurnsModel" "command" "I") (List.mem_of_getElem? (i := 1) rfl)
  have hin6 : ∀ w ∈ u_ws RX6 TX6 12, w ∈ wsX6_does := by decide +kernel
  have hw2 := hts (.fieldLink RX6 181 "SpeedTurnsModel" "digit" "I") (List.mem_of_getElem? (i := 2) rfl)
  have hw3 := hts (.fieldLink RX6 7 "SpeedTurnsModel" "s" "[I") (List.mem_of_getElem? (i := 3) rfl)
  have hw4 := hts (.fieldLink RX6 191 "SpeedTurnsModel" "power" "I") (List.mem_of_getElem? (i := 4) rfl)
  show W p l e ({ frames := 6, cells := 0, slots := 0, locals := 137 } : Room) s m _ below meth c s.heap [] 0 0 _ _
  refine W_genQ (fun Q hQ => ?_)
  have J100 : ∀ (sa : (Nat → Int32)) (t0 : Bool) (H : Heap) (locs : List Loc) (ls : Array Slot), fX6_does_J100 fu cd dg pw sa t0 = some out → va_P G vwCl [(a0, .inr (9, [.int th, .ref a1, .ref a2, .ref a3, .int sm, .ref a4, .int ln, .int nx, .int cd, .int dg, .int pw, .long hs])), (a1, .inl (cI, 378, .inl sa)), (a2, .inl (cI, 378, .inl asd)), (a3, .inl (cI, 1512, .inl sv)), (a4, .inl (cI, 120, .inl mt))] H → va_D A [(a0, .inr (9, [.int th, .ref a1, .ref a2, .ref a3, .int sm, .ref a4, .int ln, .int nx, .int cd, .int dg, .int pw, .long hs])), (a1, .inl (cI, 378, .inl sa)), (a2, .inl (cI, 378, .inl asd)), (a3, .inl (cI, 1512, .inl sv)), (a4, .inl (cI, 120, .inl mt))] → va_S A s.heap H locs → lv_has ls 1 [(0, .ref a0)] → W p l e ({ frames := 6, cells := 0, slots := 0, locals := 137 } : Room) s m ([.ref a0] : List Value).toArray below meth c H locs 0 0 Q (F0 m 100 ls [.int (bI t0), .ref a0]) := by
    intro sa t0 H locs ls h hP hD hS hl
    rw [fX6_does_J100] at h
    refine lv_aload_n hx hb dX6_does_100 rfl (lv_at hl 0 rfl) ?_
    refine va_get (D := G) (ci := 9) (v := .ref a1) (C := RX6) (T := TX6) (N := 12) hx hb hts hin6 hown hK.1 hP 0 rfl rfl 1 (by decide) hw3 (fun _ h9 => h9) rfl dX6_does_101 ?_
    refine lv_iconst (v := 4) hx hb dX6_does_104 (by decide) ?_
    obtain ⟨hin, h⟩ := o_g h
    refine va_iald hx hb hK.1 hP 1 0 rfl rfl hin dX6_does_105 ?_
    refine lv_aload_n hx hb dX6_does_106 rfl (lv_at hl 0 rfl) ?_
    refine va_get (D := G) (ci := 9) (v := .int dg) (C := RX6) (T := TX6) (N := 12) hx hb hts hin6 hown hK.1 hP 0 rfl rfl 9 (by decide) hw2 (fun _ h9 => h9) rfl dX6_does_107 ?_
    refine lv_aload_n hx hb dX6_does_110 rfl (lv_at hl 0 rfl) ?_
    refine va_get (D := G) (ci := 9) (v := .int pw) (C := RX6) (T := TX6) (N := 12) hx hb hts hin6 hown hK.1 hP 0 rfl rfl 10 (by decide) hw4 (fun _ h9 => h9) rfl dX6_does_111 ?_
    refine lv_iconst (v := 0) hx hb dX6_does_114 (by decide) ?_
    refine lv_iconst (v := 0) hx hb dX6_does_115 (by decide) ?_
    refine lv_iconst (v := 0) hx hb dX6_does_116 (by decide) ?_
    obtain ⟨x11, ex11, h⟩ := o_b h
    refine call_iV (As := [.int (bI t0), .int (sa ((4 : Int32)).toNatClampNeg), .int dg, .int pw, .int (0 : Int32), .int (0 : Int32), .int (0 : Int32)]) (rest := []) (ws2 := [(a0, .inr (9, [.int th, .ref a1, .ref a2, .ref a3, .int sm, .ref a4, .int ln, .int nx, .int cd, .int dg, .int pw, .long hs])), (a1, .inl (cI, 378, .inl x11.2)), (a2, .inl (cI, 378, .inl asd)), (a3, .inl (cI, 1512, .inl sv)), (a4, .inl (cI, 120, .inl mt))]) ⟨hx, hb, hml, hown, hts⟩ (cX6_pushes_ok l G cI cG a0 a1 a2 a3 a4 th sa asd sv sm mt ln nx cd dg pw hs (bI t0) (sa ((4 : Int32)).toNatClampNeg) dg pw (0 : Int32) (0 : Int32) (0 : Int32) x11 ex11) (cwV 7 hts gX6_does_X6_pushes rfl rfl rfl hdX6_pushes ⟨Nat.le_of_ble_eq_true rfl, Nat.le_of_ble_eq_true rfl⟩) hP hD hS hA hK 9 rfl rfl rfl [0, 1, 2, 3, 4] rfl rfl rfl rfl rfl rfl rfl rfl hl.1 (Nat.le_of_ble_eq_true rfl) dX6_does_117 ⟨Nat.zero_le _, Nat.zero_le _⟩ (fun H locs hP hD hS => ?_)
    obtain rfl := o_s h
    rw [hQ]
    exact end_i hx hb hr rfl hP hD hS dX6_does_120 hlocks
  have h := hf
  rw [fX6_does] at h
  have hl := lv_entry ([.ref a0]) (n := 1) (Nat.le_of_ble_eq_true rfl)
  rw [lg_entry_eq]
  generalize (lg_sl ([.ref a0]) ++ List.replicate (1 - (lg_sl ([.ref a0])).length) Slot.unset).toArray = ls at hl ⊢
  have hl : lv_has ls 1 [(0, .ref a0)] := hl
  refine lv_aload_n hx hb dX6_does_0 rfl (lv_at hl 0 rfl) ?_
  refine va_get (D := G) (ci := 9) (v := .int cd) (C := RX6) (T := TX6) (N := 12) hx hb hts hin6 hown hK.1 hP 0 rfl rfl 8 (by decide) hw0 (fun _ h9 => h9) rfl dX6_does_1 ?_
  by_cases c1 : cd = 99
  · have h := o_t h c1
    refine lv_lookup (off := 67) (tgt := 71) hx hb dX6_does_4 (by decide) (by rw [c1]; rfl) (by decide) ?_
    refine lv_aload_n hx hb dX6_does_71 rfl (lv_at hl 0 rfl) ?_
    refine lv_aload_n hx hb dX6_does_72 rfl (lv_at hl 0 rfl) ?_
    refine va_get (D := G) (ci := 9) (v := .int dg) (C := RX6) (T := TX6) (N := 12) hx hb hts hin6 hown hK.1 hP 0 rfl rfl 9 (by decide) hw2 (fun _ h9 => h9) rfl dX6_does_73 ?_
    obtain ⟨x2, ex2, h⟩ := o_b h
    refine call_iV (As := [.int dg]) (rest := []) (ws2 := [(a0, .inr (9, [.int th, .ref a1, .ref a2, .ref a3, .int sm, .ref a4, .int ln, .int nx, .int cd, .int dg, .int pw, .long hs])), (a1, .inl (cI, 378, .inl x2.2)), (a2, .inl (cI, 378, .inl asd)), (a3, .inl (cI, 1512, .inl sv)), (a4, .inl (cI, 120, .inl mt))]) ⟨hx, hb, hml, hown, hts⟩ (cX6_comesIn_ok l G cI cG a0 a1 a2 a3 a4 fu th sa asd sv sm mt ln nx cd dg pw hs dg x2 ex2) (cwV 1 hts gX6_does_X6_comesIn rfl rfl rfl hdX6_comesIn ⟨Nat.le_of_ble_eq_true rfl, Nat.le_of_ble_eq_true rfl⟩) hP hD hS hA hK 9 rfl rfl rfl [0, 1, 2, 3, 4] rfl rfl rfl rfl rfl rfl rfl rfl hl.1 (Nat.le_of_ble_eq_true rfl) dX6_does_76 ⟨Nat.zero_le _, Nat.zero_le _⟩ (fun H locs hP hD hS => ?_)
    obtain rfl := o_s h
    rw [hQ]
    exact end_i hx hb hr rfl hP hD hS dX6_does_79 hlocks
  have h := o_f h c1
  by_cases c3 : cd = 100
  · have h := o_t h c3
    refine lv_lookup (off := 62) (tgt := 66) hx hb dX6_does_4 (by decide) (by rw [c3]; rfl) (by decide) ?_
    refine lv_aload_n hx hb dX6_does_66 rfl (lv_at hl 0 rfl) ?_
    obtain ⟨x4, ex4, h⟩ := o_b h
    refine call_iV (As := []) (rest := []) (ws2 := [(a0, .inr (9, [.int th, .ref a1, .ref a2, .ref a3, .int sm, .ref a4, .int ln, .int nx, .int cd, .int dg, .int pw, .long hs])), (a1, .inl (cI, 378, .inl x4.2)), (a2, .inl (cI, 378, .inl asd)), (a3, .inl (cI, 1512, .inl sv)), (a4, .inl (cI, 120, .inl mt))]) ⟨hx, hb, hml, hown, hts⟩ (cX6_delays_ok l G cI cG a0 a1 a2 a3 a4 th sa asd sv sm mt ln nx cd dg pw hs x4 ex4) (cwV 0 hts gX6_does_X6_delays rfl rfl rfl hdX6_delays ⟨Nat.le_of_ble_eq_true rfl, Nat.le_of_ble_eq_true rfl⟩) hP hD hS hA hK 9 rfl rfl rfl [0, 1, 2, 3, 4] rfl rfl rfl rfl rfl rfl rfl rfl hl.1 (Nat.le_of_ble_eq_true rfl) dX6_does_67 ⟨Nat.zero_le _, Nat.zero_le _⟩ (fun H locs hP hD hS => ?_)
    obtain rfl := o_s h
    rw [hQ]
    exact end_i hx hb hr rfl hP hD hS dX6_does_70 hlocks
  have h := o_f h c3
  by_cases c5 : cd = 101
  · have h := o_t h c5
    refine lv_lookup (off := 57) (tgt := 61) hx hb dX6_does_4 (by decide) (by rw [c5]; rfl) (by decide) ?_
    refine lv_aload_n hx hb dX6_does_61 rfl (lv_at hl 0 rfl) ?_
    obtain ⟨x6, ex6, h⟩ := o_b h
    refine call_iV (As := []) (rest := []) (ws2 := [(a0, .inr (9, [.int th, .ref a1, .ref a2, .ref a3, .int sm, .ref a4, .int ln, .int nx, .int cd, .int dg, .int pw, .long hs])), (a1, .inl (cI, 378, .inl x6.2)), (a2, .inl (cI, 378, .inl asd)), (a3, .inl (cI, 1512, .inl sv)), (a4, .inl (cI, 120, .inl mt))]) ⟨hx, hb, hml, hown, hts⟩ (cX6_ends_ok l G cI cG a0 a1 a2 a3 a4 fu th sa asd sv sm mt ln nx cd dg pw hs x6 ex6) (cwV 0 hts gX6_does_X6_ends rfl rfl rfl hdX6_ends ⟨Nat.le_of_ble_eq_true rfl, Nat.le_of_ble_eq_true rfl⟩) hP hD hS hA hK 9 rfl rfl rfl [0, 1, 2, 3, 4] rfl rfl rfl rfl rfl rfl rfl rfl hl.1 (Nat.le_of_ble_eq_true rfl) dX6_does_62 ⟨Nat.zero_le _, Nat.zero_le _⟩ (fun H locs hP hD hS => ?_)
    obtain rfl := o_s h
    rw [hQ]
    exact end_i hx hb hr rfl hP hD hS dX6_does_65 hlocks
  have h := o_f h c5
  by_cases c7 : cd = 110
  · have h := o_t h c7
    refine lv_lookup (off := 52) (tgt := 56) hx hb dX6_does_4 (by decide) (by rw [c7]; rfl) (by decide) ?_
    refine lv_aload_n hx hb dX6_does_56 rfl (lv_at hl 0 rfl) ?_
    obtain ⟨x8, ex8, h⟩ := o_b h
    refine call_iV (As := []) (rest := []) (ws2 := [(a0, .inr (9, [.int th, .ref a1, .ref a2, .ref a3, .int sm, .ref a4, .int ln, .int nx, .int cd, .int dg, .int pw, .long hs])), (a1, .inl (cI, 378, .inl x8.2)), (a2, .inl (cI, 378, .inl asd)), (a3, .inl (cI, 1512, .inl sv)), (a4, .inl (cI, 120, .inl mt))]) ⟨hx, hb, hml, hown, hts⟩ (cX6_begins_ok l G cI cG a0 a1 a2 a3 a4 fu th sa asd sv sm mt ln nx cd dg pw hs x8 ex8) (cwV 0 hts gX6_does_X6_begins rfl rfl rfl hdX6_begins ⟨Nat.le_of_ble_eq_true rfl, Nat.le_of_ble_eq_true rfl⟩) hP hD hS hA hK 9 rfl rfl rfl [0, 1, 2, 3, 4] rfl rfl rfl rfl rfl rfl rfl rfl hl.1 (Nat.le_of_ble_eq_true rfl) dX6_does_57 ⟨Nat.zero_le _, Nat.zero_le _⟩ (fun H locs hP hD hS => ?_)
    obtain rfl := o_s h
    rw [hQ]
    exact end_i hx hb hr rfl hP hD hS dX6_does_60 hlocks
  have h := o_f h c7
  by_cases c9 : cd = 114
  · have h := o_t h c9
    refine lv_lookup (off := 76) (tgt := 80) hx hb dX6_does_4 (by decide) (by rw [c9]; rfl) (by decide) ?_
    refine lv_aload_n hx hb dX6_does_80 rfl (lv_at hl 0 rfl) ?_
    obtain ⟨x10, ex10, h⟩ := o_b h
    refine call_iV (As := []) (rest := []) (ws2 := [(a0, .inr (9, [.int th, .ref a1, .ref a2, .ref a3, .int sm, .ref a4, .int ln, .int nx, .int cd, .int dg, .int pw, .long hs])), (a1, .inl (cI, 378, .inl x10.2)), (a2, .inl (cI, 378, .inl asd)), (a3, .inl (cI, 1512, .inl sv)), (a4, .inl (cI, 120, .inl mt))]) ⟨hx, hb, hml, hown, hts⟩ (cX6_settles_ok l G cI cG a0 a1 a2 a3 a4 fu th sa asd sv sm mt ln nx cd dg pw hs x10 ex10) (cwV 0 hts gX6_does_X6_settles rfl rfl rfl hdX6_settles ⟨Nat.le_of_ble_eq_true rfl, Nat.le_of_ble_eq_true rfl⟩) hP hD hS hA hK 9 rfl rfl rfl [0, 1, 2, 3, 4] rfl rfl rfl rfl rfl rfl rfl rfl hl.1 (Nat.le_of_ble_eq_true rfl) dX6_does_81 ⟨Nat.zero_le _, Nat.zero_le _⟩ (fun H locs hP hD hS => ?_)
    obtain rfl := o_s h
    rw [hQ]
    exact end_i hx hb hr rfl hP hD hS dX6_does_84 hlocks
  have h := o_f h c9
  have kc1 := ne_ti c1 (z := 99) (by decide)
  have kc3 := ne_ti c3 (z := 100) (by decide)
  have kc5 := ne_ti c5 (z := 101) (by decide)
  have kc7 := ne_ti c7 (z := 110) (by decide)
  have kc9 := ne_ti c9 (z := 114) (by decide)
  refine lv_lookup (off := 81) (tgt := 85) hx hb dX6_does_4 (by decide) (by simp [Op.lookupswitch.offset, kc1.symm, kc3.symm, kc5.symm, kc7.symm, kc9.symm]) (by decide) ?_
  refine lv_aload_n hx hb dX6_does_85 rfl (lv_at hl 0 rfl) ?_
  refine lv_aload_n hx hb dX6_does_86 rfl (lv_at hl 0 rfl) ?_
  refine va_get (D := G) (ci := 9) (v := .int cd) (C := RX6) (T := TX6) (N := 12) hx hb hts hin6 hown hK.1 hP 0 rfl rfl 8 (by decide) hw0 (fun _ h9 => h9) rfl dX6_does_87 ?_
  refine lv_bipush (v := 115) hx hb dX6_does_90 (by decide) ?_
  refine lv_icmp_ne (tgt := 99) hx hb dX6_does_92 (by decide) (fun hc => ?_) (fun hc => ?_)
  · have h := o_f h hc
    refine lv_iconst (v := 1) hx hb dX6_does_99 (by decide) ?_
    exact J100 sa true _ _ _ h hP hD hS (lv_sub hl [0] rfl)
  · have h := o_t h hc
    refine lv_iconst (v := 0) hx hb dX6_does_95 (by decide) ?_
    refine lv_goto (tgt := 100) hx hb dX6_does_96 (by decide) ?_
    exact J100 sa false _ _ _ h hP hD hS (lv_sub hl [0] rfl)
theorem hdX6_exchange : yX6_exchange.cls = RX6 ∧ yX6_exchange.cls ≠ "java/lang/invoke/MethodHandle" ∧ yX6_exchange.cls ≠ "java/lang/invoke/VarHandle" ∧ (parseMethodDescriptor yX6_exchange.desc).map (fun d => d.parameters.length) = some 0 := by decide +kernel
set_option maxHeartbeats 4000000 in
set_option maxRecDepth 100000 in
theorem cX6_exchange_ok (l : Launch) (G : va_G) (cI cG : ClassId) (a0 a1 a2 a3 a4 : Nat) (fu : Nat) (th : Int32) (sa : (Nat → Int32)) (asd : (Nat → Int32)) (sv : (Nat → Int32)) (sm : Int32) (mt : (Nat → Int32)) (ln : Int32) (nx : Int32) (cd : Int32) (dg : Int32) (pw : Int32) (hs : Int64) (out : (Nat → Int32) × (Nat → Int32)) (hf : fX6_exchange fu sa asd = some out) : CV l G (tyz cI cG) yX6_exchange wsX6_exchange ({ frames := 0, cells := 0, slots := 0, locals := 0 } : Room) [.ref a0] [(a0, .inr (9, [.int th, .ref a1, .ref a2, .ref a3, .int sm, .ref a4, .int ln, .int nx, .int cd, .int dg, .int pw, .long hs])), (a1, .inl (cI, 378, .inl sa)), (a2, .inl (cI, 378, .inl asd)), (a3, .inl (cI, 1512, .inl sv)), (a4, .inl (cI, 120, .inl mt))] [(a0, .inr (9, [.int th, .ref a1, .ref a2, .ref a3, .int sm, .ref a4, .int ln, .int nx, .int cd, .int dg, .int pw, .long hs])), (a1, .inl (cI, 378, .inl out.1)), (a2, .inl (cI, 378, .inl out.2)), (a3, .inl (cI, 1512, .inl sv)), (a4, .inl (cI, 120, .inl mt))] := by
  intro sz
  refine Met.ofW (cc := cX6_exchange) (maxL := 3) (ret := none) (by decide) rfl ?_
  intro p e s m args below meth c s₁ B hml hv
  obtain ⟨rfl, hsz, hP, hK, hD0⟩ := hv
  have hx := B.exec
  have hb := B.bytes
  have hr := B.returns
  have hts := atoms_spec (ws := wsX6_exchange) B.pre
  have hown : s.vm.findClass RX6 = some m.cls := findClass_of_methodNamed B.named
  have hlocks := B.notSynchronized
  subst hsz
  have hD := hD0.self (sz := s.heap.size)
  generalize hAe : va_A [(a0, .inr (9, [.int th, .ref a1, .ref a2, .ref a3, .int sm, .ref a4, .int ln, .int nx, .int cd, .int dg, .int pw, .long hs])), (a1, .inl (cI, 378, .inl sa)), (a2, .inl (cI, 378, .inl asd)), (a3, .inl (cI, 1512, .inl sv)), (a4, .inl (cI, 120, .inl mt))] s.heap.size = A at hD ⊢
  have hA : ∀ q : Nat, s.heap.size ≤ q → A q := fun q h => by rw [← hAe]; exact Or.inr h
  have hS : va_S A s.heap s.heap [] := va_S.rf
  have hw0 := hts (.fieldLink RX6 7 "SpeedTurnsModel" "s" "[I") (List.mem_of_getElem? (i := 1) rfl)
  have hin6 : ∀ w ∈ u_ws RX6 TX6 12, w ∈ wsX6_exchange := by decide +kernel
  have hw2 := hts (.fieldLink RX6 13 "SpeedTurnsModel" "aside" "[I") (List.mem_of_getElem? (i := 2) rfl)
  show W p l e ({ frames := 0, cells := 0, slots := 0, locals := 0 } : Room) s m _ below meth c s.heap [] 0 0 _ _
  refine W_genQ (fun Q hQ => ?_)
  have L2 : ∀ (k : Nat) (sa : (Nat → Int32)) (asd : (Nat → Int32)) (v1 : Int32) (H : Heap) (locs : List Loc) (ls : Array Slot), fX6_exchange_L2 fu  k sa asd v1 = some out → va_P G vwCl [(a0, .inr (9, [.int th, .ref a1, .ref a2, .ref a3, .int sm, .ref a4, .int ln, .int nx, .int cd, .int dg, .int pw, .long hs])), (a1, .inl (cI, 378, .inl sa)), (a2, .inl (cI, 378, .inl asd)), (a3, .inl (cI, 1512, .inl sv)), (a4, .inl (cI, 120, .inl mt))] H → va_D A [(a0, .inr (9, [.int th, .ref a1, .ref a2, .ref a3, .int sm, .ref a4, .int ln, .int nx, .int cd, .int dg, .int pw, .long hs])), (a1, .inl (cI, 378, .inl sa)), (a2, .inl (cI, 378, .inl asd)), (a3, .inl (cI, 1512, .inl sv)), (a4, .inl (cI, 120, .inl mt))] → va_S A s.heap H locs → lv_has ls 3 [(0, .ref a0), (1, .int v1)] → W p l e ({ frames := 0, cells := 0, slots := 0, locals := 0 } : Room) s m ([.ref a0] : List Value).toArray below meth c H locs 0 0 Q (F0 m 2 ls []) := by
    intro k
    induction k with
    | zero => intro sa asd v1 H locs ls h hP hD hS hl; rw [fX6_exchange_L2] at h; exact o_n h
    | succ k ih =>
      intro sa asd v1 H locs ls h hP hD hS hl
      rw [fX6_exchange_L2] at h
      refine lv_iload_n hx hb dX6_exchange_2 rfl (lv_at hl 1 rfl) ?_
      refine lv_sipush (v := 378) hx hb dX6_exchange_3 (by decide) ?_
      refine lv_icmp_ge (tgt := 41) hx hb dX6_exchange_6 (by decide) (fun hc => ?_) (fun hc => ?_)
      · have h := o_t h hc
        obtain rfl := o_s h
        rw [hQ]
        exact end_v hx hb hr hP hD hS dX6_exchange_41 hlocks
      · have h := o_f h hc
        refine lv_aload_n hx hb dX6_exchange_9 rfl (lv_at hl 0 rfl) ?_
        refine va_get (D := G) (ci := 9) (v := .ref a1) (C := RX6) (T := TX6) (N := 12) hx hb hts hin6 hown hK.1 hP 0 rfl rfl 1 (by decide) hw0 (fun _ h9 => h9) rfl dX6_exchange_10 ?_
        refine lv_iload_n hx hb dX6_exchange_13 rfl (lv_at hl 1 rfl) ?_
        obtain ⟨hin, h⟩ := o_g h
        refine va_iald hx hb hK.1 hP 1 0 rfl rfl hin dX6_exchange_14 ?_
        refine lv_istore_n (lv' := [(2, .int (sa (v1).toNatClampNeg)), (0, .ref a0), (1, .int v1)]) hx hb dX6_exchange_15 rfl hl (by decide) rfl (fun ls hl => ?_)
        refine lv_aload_n hx hb dX6_exchange_16 rfl (lv_at hl 1 rfl) ?_
        refine va_get (D := G) (ci := 9) (v := .ref a1) (C := RX6) (T := TX6) (N := 12) hx hb hts hin6 hown hK.1 hP 0 rfl rfl 1 (by decide) hw0 (fun _ h9 => h9) rfl dX6_exchange_17 ?_
        refine lv_iload_n hx hb dX6_exchange_20 rfl (lv_at hl 2 rfl) ?_
        refine lv_aload_n hx hb dX6_exchange_21 rfl (lv_at hl 1 rfl) ?_
        refine va_get (D := G) (ci := 9) (v := .ref a2) (C := RX6) (T := TX6) (N := 12) hx hb hts hin6 hown hK.1 hP 0 rfl rfl 2 (by decide) hw2 (fun _ h9 => h9) rfl dX6_exchange_22 ?_
        refine lv_iload_n hx hb dX6_exchange_25 rfl (lv_at hl 2 rfl) ?_
        obtain ⟨hin, h⟩ := o_g h
        refine va_iald hx hb hK.1 hP 2 0 rfl rfl hin dX6_exchange_26 ?_
        obtain ⟨hin, h⟩ := o_g h
        refine va_iast hx hb hK.1 hP hD hS 1 0 rfl rfl hin dX6_exchange_27 (fun H locs hP hD hS => ?_)
        have hP : va_P G vwCl [(a0, .inr (9, [.int th, .ref a1, .ref a2, .ref a3, .int sm, .ref a4, .int ln, .int nx, .int cd, .int dg, .int pw, .long hs])), (a1, .inl (cI, 378, .inl (upd sa (v1).toNatClampNeg (asd (v1).toNatClampNeg)))), (a2, .inl (cI, 378, .inl asd)), (a3, .inl (cI, 1512, .inl sv)), (a4, .inl (cI, 120, .inl mt))] H := hP
        have hD : va_D A [(a0, .inr (9, [.int th, .ref a1, .ref a2, .ref a3, .int sm, .ref a4, .int ln, .int nx, .int cd, .int dg, .int pw, .long hs])), (a1, .inl (cI, 378, .inl (upd sa (v1).toNatClampNeg (asd (v1).toNatClampNeg)))), (a2, .inl (cI, 378, .inl asd)), (a3, .inl (cI, 1512, .inl sv)), (a4, .inl (cI, 120, .inl mt))] := hD
        refine lv_aload_n hx hb dX6_exchange_28 rfl (lv_at hl 1 rfl) ?_
        refine va_get (D := G) (ci := 9) (v := .ref a2) (C := RX6) (T := TX6) (N := 12) hx hb hts hin6 hown hK.1 hP 0 rfl rfl 2 (by decide) hw2 (fun _ h9 => h9) rfl dX6_exchange_29 ?_
        refine lv_iload_n hx hb dX6_exchange_32 rfl (lv_at hl 2 rfl) ?_
        refine lv_iload_n hx hb dX6_exchange_33 rfl (lv_at hl 0 rfl) ?_
        obtain ⟨hin, h⟩ := o_g h
        refine va_iast hx hb hK.1 hP hD hS 2 0 rfl rfl hin dX6_exchange_34 (fun H locs hP hD hS => ?_)
        have hP : va_P G vwCl [(a0, .inr (9, [.int th, .ref a1, .ref a2, .ref a3, .int sm, .ref a4, .int ln, .int nx, .int cd, .int dg, .int pw, .long hs])), (a1, .inl (cI, 378, .inl (upd sa (v1).toNatClampNeg (asd (v1).toNatClampNeg)))), (a2, .inl (cI, 378, .inl (upd asd (v1).toNatClampNeg (sa (v1).toNatClampNeg)))), (a3, .inl (cI, 1512, .inl sv)), (a4, .inl (cI, 120, .inl mt))] H := hP
        have hD : va_D A [(a0, .inr (9, [.int th, .ref a1, .ref a2, .ref a3, .int sm, .ref a4, .int ln, .int nx, .int cd, .int dg, .int pw, .long hs])), (a1, .inl (cI, 378, .inl (upd sa (v1).toNatClampNeg (asd (v1).toNatClampNeg)))), (a2, .inl (cI, 378, .inl (upd asd (v1).toNatClampNeg (sa (v1).toNatClampNeg)))), (a3, .inl (cI, 1512, .inl sv)), (a4, .inl (cI, 120, .inl mt))] := hD
        refine lv_iinc (v := (v1 + 1)) (lv' := [(1, .int (v1 + 1)), (2, .int (sa (v1).toNatClampNeg)), (0, .ref a0)]) hx hb dX6_exchange_35 hl (k := 2) rfl rfl (by decide) rfl (fun ls hl => ?_)
        refine lv_goto (tgt := 2) hx hb dX6_exchange_38 (by decide) ?_
        exact ih (upd sa (v1).toNatClampNeg (asd (v1).toNatClampNeg)) (upd asd (v1).toNatClampNeg (sa (v1).toNatClampNeg)) (v1 + 1) _ _ _ h hP hD hS (lv_sub hl [2, 0] rfl)
  have h := hf
  rw [fX6_exchange] at h
  have hl := lv_entry ([.ref a0]) (n := 3) (Nat.le_of_ble_eq_true rfl)
  rw [lg_entry_eq]
  generalize (lg_sl ([.ref a0]) ++ List.replicate (3 - (lg_sl ([.ref a0])).length) Slot.unset).toArray = ls at hl ⊢
  have hl : lv_has ls 3 [(0, .ref a0)] := hl
  refine lv_iconst (v := 0) hx hb dX6_exchange_0 (by decide) ?_
  refine lv_istore_n (lv' := [(1, .int (0 : Int32)), (0, .ref a0)]) hx hb dX6_exchange_1 rfl hl (by decide) rfl (fun ls hl => ?_)
  exact L2 fu sa asd (0 : Int32) _ _ _ h hP hD hS (lv_sub hl [1, 0] rfl)
theorem hdX6_carryOut : yX6_carryOut.cls = RX6 ∧ yX6_carryOut.cls ≠ "java/lang/invoke/MethodHandle" ∧ yX6_carryOut.cls ≠ "java/lang/invoke/VarHandle" ∧ (parseMethodDescriptor yX6_carryOut.desc).map (fun d => d.parameters.length) = some 0 := by decide +kernel
set_option maxHeartbeats 4000000 in
set_option maxRecDepth 100000 in
theorem cX6_carryOut_ok (l : Launch) (G : va_G) (cI cG : ClassId) (a0 a1 a2 a3 a4 : Nat) (fu : Nat) (th : Int32) (sa : (Nat → Int32)) (asd : (Nat → Int32)) (sv : (Nat → Int32)) (sm : Int32) (mt : (Nat → Int32)) (ln : Int32) (nx : Int32) (cd : Int32) (dg : Int32) (pw : Int32) (hs : Int64) (out : Int32 × Int32 × (Nat → Int32) × (Nat → Int32) × (Nat → Int32) × Int32 × Int32 × Int32 × Int32 × Int32) (hf : fX6_carryOut fu th sa asd sv sm mt ln nx cd dg pw = some out) : CI l G (tyz cI cG) yX6_carryOut wsX6_carryOut ({ frames := 7, cells := 0, slots := 0, locals := 157 } : Room) [.ref a0] [(a0, .inr (9, [.int th, .ref a1, .ref a2, .ref a3, .int sm, .ref a4, .int ln, .int nx, .int cd, .int dg, .int pw, .long hs])), (a1, .inl (cI, 378, .inl sa)), (a2, .inl (cI, 378, .inl asd)), (a3, .inl (cI, 1512, .inl sv)), (a4, .inl (cI, 120, .inl mt))] out.1 [(a0, .inr (9, [.int out.2.1, .ref a1, .ref a2, .ref a3, .int out.2.2.2.2.2.1, .ref a4, .int ln, .int out.2.2.2.2.2.2.1, .int out.2.2.2.2.2.2.2.1, .int out.2.2.2.2.2.2.2.2.1, .int out.2.2.2.2.2.2.2.2.2, .long hs])), (a1, .inl (cI, 378, .inl out.2.2.1)), (a2, .inl (cI, 378, .inl out.2.2.2.1)), (a3, .inl (cI, 1512, .inl out.2.2.2.2.1)), (a4, .inl (cI, 120, .inl mt))] := by
  intro sz
  refine Met.ofW (cc := cX6_carryOut) (maxL := 4) (ret := (some .int)) (by decide) rfl ?_
  intro p e s m args below meth c s₁ B hml hv
  obtain ⟨rfl, hsz, hP, hK, hD0⟩ := hv
  have hx := B.exec
  have hb := B.bytes
  have hr := B.returns
  have hts := atoms_spec (ws := wsX6_carryOut) B.pre
  have hown : s.vm.findClass RX6 = some m.cls := findClass_of_methodNamed B.named
  have hlocks := B.notSynchronized
  subst hsz
  have hD := hD0.self (sz := s.heap.size)
  generalize hAe : va_A [(a0, .inr (9, [.int th, .ref a1, .ref a2, .ref a3, .int sm, .ref a4, .int ln, .int nx, .int cd, .int dg, .int pw, .long hs])), (a1, .inl (cI, 378, .inl sa)), (a2, .inl (cI, 378, .inl asd)), (a3, .inl (cI, 1512, .inl sv)), (a4, .inl (cI, 120, .inl mt))] s.heap.size = A at hD ⊢
  have hA : ∀ q : Nat, s.heap.size ≤ q → A q := fun q h => by rw [← hAe]; exact Or.inr h
  have hS : va_S A s.heap s.heap [] := va_S.rf
  have hw0 := hts (.fieldLink RX6 22 "SpeedTurnsModel" "thrown" "I") (List.mem_of_getElem? (i := 1) rfl)
  have hin6 : ∀ w ∈ u_ws RX6 TX6 12, w ∈ wsX6_carryOut := by decide +kernel
  have hw2 := hts (.fieldLink RX6 175 "SpeedTurnsModel" "next" "I") (List.mem_of_getElem? (i := 2) rfl)
  have hw3 := hts (.fieldLink RX6 172 "SpeedTurnsModel" "length" "I") (List.mem_of_getElem? (i := 3) rfl)
  show W p l e ({ frames := 7, cells := 0, slots := 0, locals := 157 } : Room) s m _ below meth c s.heap [] 0 0 _ _
  refine W_genQ (fun Q hQ => ?_)
  have L58 : ∀ (k : Nat) (th : Int32) (sa : (Nat → Int32)) (asd : (Nat → Int32)) (sv : (Nat → Int32)) (sm : Int32) (nx : Int32) (cd : Int32) (dg : Int32) (pw : Int32) (v2 : Int32) (H : Heap) (locs : List Loc) (ls : Array Slot), fX6_carryOut_L58 fu mt ln k th sa asd sv sm nx cd dg pw v2 = some out → va_P G vwCl [(a0, .inr (9, [.int th, .ref a1, .ref a2, .ref a3, .int sm, .ref a4, .int ln, .int nx, .int cd, .int dg, .int pw, .long hs])), (a1, .inl (cI, 378, .inl sa)), (a2, .inl (cI, 378, .inl asd)), (a3, .inl (cI, 1512, .inl sv)), (a4, .inl (cI, 120, .inl mt))] H → va_D A [(a0, .inr (9, [.int th, .ref a1, .ref a2, .ref a3, .int sm, .ref a4, .int ln, .int nx, .int cd, .int dg, .int pw, .long hs])), (a1, .inl (cI, 378, .inl sa)), (a2, .inl (cI, 378, .inl asd)), (a3, .inl (cI, 1512, .inl sv)), (a4, .inl (cI, 120, .inl mt))] → va_S A s.heap H locs → lv_has ls 4 [(0, .ref a0), (2, .int v2)] → W p l e ({ frames := 7, cells := 0, slots := 0, locals := 157 } : Room) s m ([.ref a0] : List Value).toArray below meth c H locs 0 0 Q (F0 m 58 ls []) := by
    intro k
    induction k with
    | zero => intro th sa asd sv sm nx cd dg pw v2 H locs ls h hP hD hS hl; rw [fX6_carryOut_L58] at h; exact o_n h
    | succ k ih =>
      intro th sa asd sv sm nx cd dg pw v2 H locs ls h hP hD hS hl
      rw [fX6_carryOut_L58] at h
      refine lv_aload_n hx hb dX6_carryOut_58 rfl (lv_at hl 0 rfl) ?_
      refine va_get (D := G) (ci := 9) (v := .int nx) (C := RX6) (T := TX6) (N := 12) hx hb hts hin6 hown hK.1 hP 0 rfl rfl 7 (by decide) hw2 (fun _ h9 => h9) rfl dX6_carryOut_59 ?_
      refine lv_aload_n hx hb dX6_carryOut_62 rfl (lv_at hl 0 rfl) ?_
      refine va_get (D := G) (ci := 9) (v := .int ln) (C := RX6) (T := TX6) (N := 12) hx hb hts hin6 hown hK.1 hP 0 rfl rfl 6 (by decide) hw3 (fun _ h9 => h9) rfl dX6_carryOut_63 ?_
      refine lv_icmp_ge (tgt := 124) hx hb dX6_carryOut_66 (by decide) (fun hc => ?_) (fun hc => ?_)
      · have h := o_t h hc
        refine lv_aload_n hx hb dX6_carryOut_124 rfl (lv_at hl 0 rfl) ?_
        obtain ⟨x2, ex2, h⟩ := o_b h
        refine call_vV (As := []) (rest := []) (ws2 := [(a0, .inr (9, [.int th, .ref a1, .ref a2, .ref a3, .int sm, .ref a4, .int ln, .int nx, .int cd, .int dg, .int pw, .long hs])), (a1, .inl (cI, 378, .inl x2.1)), (a2, .inl (cI, 378, .inl x2.2)), (a3, .inl (cI, 1512, .inl sv)), (a4, .inl (cI, 120, .inl mt))]) ⟨hx, hb, hml, hown, hts⟩ (cX6_exchange_ok l G cI cG a0 a1 a2 a3 a4 fu th sa asd sv sm mt ln nx cd dg pw hs x2 ex2) (cwV 0 hts gX6_carryOut_X6_exchange rfl rfl rfl hdX6_exchange ⟨Nat.le_of_ble_eq_true rfl, Nat.le_of_ble_eq_true rfl⟩) hP hD hS hA hK 9 rfl rfl rfl [0, 1, 2, 3, 4] rfl rfl rfl rfl rfl rfl rfl rfl hl.1 (Nat.le_of_ble_eq_true rfl) dX6_carryOut_125 ⟨Nat.zero_le _, Nat.zero_le _⟩ (fun H locs hP hD hS => ?_)
        refine lv_aload_n hx hb dX6_carryOut_128 rfl (lv_at hl 0 rfl) ?_
        obtain ⟨x3, ex3, h⟩ := o_b h
        refine call_vV (As := []) (rest := []) (ws2 := [(a0, .inr (9, [.int th, .ref a1, .ref a2, .ref a3, .int x3.2, .ref a4, .int ln, .int nx, .int cd, .int dg, .int pw, .long hs])), (a1, .inl (cI, 378, .inl x2.1)), (a2, .inl (cI, 378, .inl x2.2)), (a3, .inl (cI, 1512, .inl x3.1)), (a4, .inl (cI, 120, .inl mt))]) ⟨hx, hb, hml, hown, hts⟩ (cX6_save_ok l G cI cG a0 a1 a2 a3 a4 fu th x2.1 x2.2 sv sm mt ln nx cd dg pw hs x3 ex3) (cwV 0 hts gX6_carryOut_X6_save rfl rfl rfl hdX6_save ⟨Nat.le_of_ble_eq_true rfl, Nat.le_of_ble_eq_true rfl⟩) hP hD hS hA hK 9 rfl rfl rfl [0, 1, 2, 3, 4] rfl rfl rfl rfl rfl rfl rfl rfl hl.1 (Nat.le_of_ble_eq_true rfl) dX6_carryOut_129 ⟨Nat.zero_le _, Nat.zero_le _⟩ (fun H locs hP hD hS => ?_)
        refine lv_aload_n hx hb dX6_carryOut_132 rfl (lv_at hl 0 rfl) ?_
        obtain ⟨x4, ex4, h⟩ := o_b h
        refine call_vV (As := []) (rest := []) (ws2 := [(a0, .inr (9, [.int th, .ref a1, .ref a2, .ref a3, .int x3.2, .ref a4, .int ln, .int nx, .int cd, .int dg, .int pw, .long hs])), (a1, .inl (cI, 378, .inl x4.1)), (a2, .inl (cI, 378, .inl x4.2)), (a3, .inl (cI, 1512, .inl x3.1)), (a4, .inl (cI, 120, .inl mt))]) ⟨hx, hb, hml, hown, hts⟩ (cX6_exchange_ok l G cI cG a0 a1 a2 a3 a4 fu th x2.1 x2.2 x3.1 x3.2 mt ln nx cd dg pw hs x4 ex4) (cwV 0 hts gX6_carryOut_X6_exchange rfl rfl rfl hdX6_exchange ⟨Nat.le_of_ble_eq_true rfl, Nat.le_of_ble_eq_true rfl⟩) hP hD hS hA hK 9 rfl rfl rfl [0, 1, 2, 3, 4] rfl rfl rfl rfl rfl rfl rfl rfl hl.1 (Nat.le_of_ble_eq_true rfl) dX6_carryOut_133 ⟨Nat.zero_le _, Nat.zero_le _⟩ (fun H locs hP hD hS => ?_)
        refine lv_iload_n hx hb dX6_carryOut_136 rfl (lv_at hl 1 rfl) ?_
        obtain rfl := o_s h
        rw [hQ]
        exact end_i hx hb hr rfl hP hD hS dX6_carryOut_137 hlocks
      · have h := o_f h hc
        refine lv_aload_n hx hb dX6_carryOut_69 rfl (lv_at hl 0 rfl) ?_
        obtain ⟨x5, ex5, h⟩ := o_b h
        refine call_iV (As := []) (rest := []) (ws2 := [(a0, .inr (9, [.int th, .ref a1, .ref a2, .ref a3, .int sm, .ref a4, .int ln, .int x5.2.1, .int x5.2.2.1, .int x5.2.2.2.1, .int x5.2.2.2.2, .long hs])), (a1, .inl (cI, 378, .inl sa)), (a2, .inl (cI, 378, .inl asd)), (a3, .inl (cI, 1512, .inl sv)), (a4, .inl (cI, 120, .inl mt))]) ⟨hx, hb, hml, hown, hts⟩ (cX6_readsCommand_ok l G cI cG a0 a1 a2 a3 a4 th sa asd sv sm mt ln nx cd dg pw hs x5 ex5) (cwV 0 hts gX6_carryOut_X6_readsCommand rfl rfl rfl hdX6_readsCommand ⟨Nat.le_of_ble_eq_true rfl, Nat.le_of_ble_eq_true rfl⟩) hP hD hS hA hK 9 rfl rfl rfl [0, 1, 2, 3, 4] rfl rfl rfl rfl rfl rfl rfl rfl hl.1 (Nat.le_of_ble_eq_true rfl) dX6_carryOut_70 ⟨Nat.zero_le _, Nat.zero_le _⟩ (fun H locs hP hD hS => ?_)
        refine lv_if_eq (tgt := 87) hx hb dX6_carryOut_73 (by decide) (fun hc => ?_) (fun hc => ?_)
        · have h := o_t h hc
          refine lv_iconst (v := 0) hx hb dX6_carryOut_87 (by decide) ?_
          refine lv_istore_n (lv' := [(1, .int (0 : Int32)), (0, .ref a0), (2, .int v2)]) hx hb dX6_carryOut_88 rfl hl (by decide) rfl (fun ls hl => ?_)
          refine lv_iload_n hx hb dX6_carryOut_89 rfl (lv_at hl 0 rfl) ?_
          refine lv_if_ne (tgt := 103) hx hb dX6_carryOut_90 (by decide) (fun c => absurd c (by decide)) (fun _ => ?_)
          refine lv_aload_n hx hb dX6_carryOut_93 rfl (lv_at hl 1 rfl) ?_
          obtain ⟨x6, ex6, h⟩ := o_b h
          refine call_vV (As := []) (rest := []) (ws2 := [(a0, .inr (9, [.int th, .ref a1, .ref a2, .ref a3, .int sm, .ref a4, .int ln, .int x5.2.1, .int x5.2.2.1, .int x5.2.2.2.1, .int x5.2.2.2.2, .long hs])), (a1, .inl (cI, 378, .inl x6)), (a2, .inl (cI, 378, .inl asd)), (a3, .inl (cI, 1512, .inl sv)), (a4, .inl (cI, 120, .inl mt))]) ⟨hx, hb, hml, hown, hts⟩ (cX6_release_ok l G cI cG a0 a1 a2 a3 a4 fu th sa asd sv sm mt ln x5.2.1 x5.2.2.1 x5.2.2.2.1 x5.2.2.2.2 hs x6 ex6) (cwV 0 hts gX6_carryOut_X6_release rfl rfl rfl hdX6_release ⟨Nat.le_of_ble_eq_true rfl, Nat.le_of_ble_eq_true rfl⟩) hP hD hS hA hK 9 rfl rfl rfl [0, 1, 2, 3, 4] rfl rfl rfl rfl rfl rfl rfl rfl hl.1 (Nat.le_of_ble_eq_true rfl) dX6_carryOut_94 ⟨Nat.zero_le _, Nat.zero_le _⟩ (fun H locs hP hD hS => ?_)
          refine lv_sipush (v := (-1000)) hx hb dX6_carryOut_97 (by decide) ?_
          refine lv_iload_n hx hb dX6_carryOut_100 rfl (lv_at hl 2 rfl) ?_
          refine lv_isub hx hb dX6_carryOut_101 ?_
          obtain rfl := o_s h
          rw [hQ]
          exact end_i hx hb hr rfl hP hD hS dX6_carryOut_102 hlocks
        · have h := o_f h hc
          refine lv_aload_n hx hb dX6_carryOut_76 rfl (lv_at hl 0 rfl) ?_
          obtain ⟨x7, ex7, h⟩ := o_b h
          refine call_iV (As := []) (rest := []) (ws2 := [(a0, .inr (9, [.int th, .ref a1, .ref a2, .ref a3, .int sm, .ref a4, .int ln, .int x5.2.1, .int x5.2.2.1, .int x5.2.2.2.1, .int x5.2.2.2.2, .long hs])), (a1, .inl (cI, 378, .inl sa)), (a2, .inl (cI, 378, .inl asd)), (a3, .inl (cI, 1512, .inl sv)), (a4, .inl (cI, 120, .inl mt))]) ⟨hx, hb, hml, hown, hts⟩ (cX6_canDo_ok l G cI cG a0 a1 a2 a3 a4 th sa asd sv sm mt ln x5.2.1 x5.2.2.1 x5.2.2.2.1 x5.2.2.2.2 hs x7 ex7) (cwV 0 hts gX6_carryOut_X6_canDo rfl rfl rfl hdX6_canDo ⟨Nat.le_of_ble_eq_true rfl, Nat.le_of_ble_eq_true rfl⟩) hP hD hS hA hK 9 rfl rfl rfl [0, 1, 2, 3, 4] rfl rfl rfl rfl rfl rfl rfl rfl hl.1 (Nat.le_of_ble_eq_true rfl) dX6_carryOut_77 ⟨Nat.zero_le _, Nat.zero_le _⟩ (fun H locs hP hD hS => ?_)
          refine lv_if_eq (tgt := 87) hx hb dX6_carryOut_80 (by decide) (fun hc => ?_) (fun hc => ?_)
          · have h := o_t h hc
            refine lv_iconst (v := 0) hx hb dX6_carryOut_87 (by decide) ?_
            refine lv_istore_n (lv' := [(1, .int (0 : Int32)), (0, .ref a0), (2, .int v2)]) hx hb dX6_carryOut_88 rfl hl (by decide) rfl (fun ls hl => ?_)
            refine lv_iload_n hx hb dX6_carryOut_89 rfl (lv_at hl 0 rfl) ?_
            refine lv_if_ne (tgt := 103) hx hb dX6_carryOut_90 (by decide) (fun c => absurd c (by decide)) (fun _ => ?_)
            refine lv_aload_n hx hb dX6_carryOut_93 rfl (lv_at hl 1 rfl) ?_
            obtain ⟨x8, ex8, h⟩ := o_b h
            refine call_vV (As := []) (rest := []) (ws2 := [(a0, .inr (9, [.int th, .ref a1, .ref a2, .ref a3, .int sm, .ref a4, .int ln, .int x5.2.1, .int x5.2.2.1, .int x5.2.2.2.1, .int x5.2.2.2.2, .long hs])), (a1, .inl (cI, 378, .inl x8)), (a2, .inl (cI, 378, .inl asd)), (a3, .inl (cI, 1512, .inl sv)), (a4, .inl (cI, 120, .inl mt))]) ⟨hx, hb, hml, hown, hts⟩ (cX6_release_ok l G cI cG a0 a1 a2 a3 a4 fu th sa asd sv sm mt ln x5.2.1 x5.2.2.1 x5.2.2.2.1 x5.2.2.2.2 hs x8 ex8) (cwV 0 hts gX6_carryOut_X6_release rfl rfl rfl hdX6_release ⟨Nat.le_of_ble_eq_true rfl, Nat.le_of_ble_eq_true rfl⟩) hP hD hS hA hK 9 rfl rfl rfl [0, 1, 2, 3, 4] rfl rfl rfl rfl rfl rfl rfl rfl hl.1 (Nat.le_of_ble_eq_true rfl) dX6_carryOut_94 ⟨Nat.zero_le _, Nat.zero_le _⟩ (fun H locs hP hD hS => ?_)
            refine lv_sipush (v := (-1000)) hx hb dX6_carryOut_97 (by decide) ?_
            refine lv_iload_n hx hb dX6_carryOut_100 rfl (lv_at hl 2 rfl) ?_
            refine lv_isub hx hb dX6_carryOut_101 ?_
            obtain rfl := o_s h
            rw [hQ]
            exact end_i hx hb hr rfl hP hD hS dX6_carryOut_102 hlocks
          · have h := o_f h hc
            refine lv_iconst (v := 1) hx hb dX6_carryOut_83 (by decide) ?_
            refine lv_goto (tgt := 88) hx hb dX6_carryOut_84 (by decide) ?_
            refine lv_istore_n (lv' := [(1, .int (1 : Int32)), (0, .ref a0), (2, .int v2)]) hx hb dX6_carryOut_88 rfl hl (by decide) rfl (fun ls hl => ?_)
            refine lv_iload_n hx hb dX6_carryOut_89 rfl (lv_at hl 0 rfl) ?_
            refine lv_if_ne (tgt := 103) hx hb dX6_carryOut_90 (by decide) (fun _ => ?_) (fun c => absurd c (by decide))
            refine lv_aload_n hx hb dX6_carryOut_103 rfl (lv_at hl 1 rfl) ?_
            obtain ⟨x9, ex9, h⟩ := o_b h
            refine call_iV (As := []) (rest := []) (ws2 := [(a0, .inr (9, [.int th, .ref a1, .ref a2, .ref a3, .int sm, .ref a4, .int ln, .int x5.2.1, .int x5.2.2.1, .int x5.2.2.2.1, .int x5.2.2.2.2, .long hs])), (a1, .inl (cI, 378, .inl x9.2)), (a2, .inl (cI, 378, .inl asd)), (a3, .inl (cI, 1512, .inl sv)), (a4, .inl (cI, 120, .inl mt))]) ⟨hx, hb, hml, hown, hts⟩ (cX6_does_ok l G cI cG a0 a1 a2 a3 a4 fu th sa asd sv sm mt ln x5.2.1 x5.2.2.1 x5.2.2.2.1 x5.2.2.2.2 hs x9 ex9) (cwV 0 hts gX6_carryOut_X6_does rfl rfl rfl hdX6_does ⟨Nat.le_of_ble_eq_true rfl, Nat.le_of_ble_eq_true rfl⟩) hP hD hS hA hK 9 rfl rfl rfl [0, 1, 2, 3, 4] rfl rfl rfl rfl rfl rfl rfl rfl hl.1 (Nat.le_of_ble_eq_true rfl) dX6_carryOut_104 ⟨Nat.zero_le _, Nat.zero_le _⟩ (fun H locs hP hD hS => ?_)
            refine lv_istore_n (lv' := [(3, .int x9.1), (1, .int (1 : Int32)), (0, .ref a0), (2, .int v2)]) hx hb dX6_carryOut_107 rfl hl (by decide) rfl (fun ls hl => ?_)
            refine lv_iload_n hx hb dX6_carryOut_108 rfl (lv_at hl 3 rfl) ?_
            refine lv_iload_n hx hb dX6_carryOut_109 rfl (lv_at hl 0 rfl) ?_
            refine lv_iconst (v := (-1)) hx hb dX6_carryOut_110 (by decide) ?_
            refine lv_icmp_ge (tgt := 118) hx hb dX6_carryOut_111 (by decide) (fun hc => ?_) (fun hc => ?_)
            · have h := o_t h hc
              refine lv_iconst (v := 1) hx hb dX6_carryOut_118 (by decide) ?_
              refine lv_iadd hx hb dX6_carryOut_119 ?_
              refine lv_istore_n (lv' := [(2, .int (v2 + (1 : Int32))), (3, .int x9.1), (1, .int (1 : Int32)), (0, .ref a0)]) hx hb dX6_carryOut_120 rfl hl (by decide) rfl (fun ls hl => ?_)
              refine lv_goto (tgt := 58) hx hb dX6_carryOut_121 (by decide) ?_
              exact ih th x9.2 asd sv sm x5.2.1 x5.2.2.1 x5.2.2.2.1 x5.2.2.2.2 (v2 + (1 : Int32)) _ _ _ h hP hD hS (lv_sub hl [3, 0] rfl)
            · have h := o_f h hc
              refine lv_iconst (v := 0) hx hb dX6_carryOut_114 (by decide) ?_
              refine lv_goto (tgt := 119) hx hb dX6_carryOut_115 (by decide) ?_
              refine lv_iadd hx hb dX6_carryOut_119 ?_
              refine lv_istore_n (lv' := [(2, .int (v2 + (0 : Int32))), (3, .int x9.1), (1, .int (1 : Int32)), (0, .ref a0)]) hx hb dX6_carryOut_120 rfl hl (by decide) rfl (fun ls hl => ?_)
              refine lv_goto (tgt := 58) hx hb dX6_carryOut_121 (by decide) ?_
              exact ih th x9.2 asd sv sm x5.2.1 x5.2.2.1 x5.2.2.2.1 x5.2.2.2.2 (v2 + (0 : Int32)) _ _ _ h hP hD hS (lv_sub hl [3, 0] rfl)
  have J35 : ∀ (th : Int32) (sa : (Nat → Int32)) (asd : (Nat → Int32)) (sv : (Nat → Int32)) (sm : Int32) (nx : Int32) (cd : Int32) (dg : Int32) (pw : Int32) (v1 : Bool) (H : Heap) (locs : List Loc) (ls : Array Slot), fX6_carryOut_J35 fu mt ln th sa asd sv sm nx cd dg pw v1 = some out → va_P G vwCl [(a0, .inr (9, [.int th, .ref a1, .ref a2, .ref a3, .int sm, .ref a4, .int ln, .int nx, .int cd, .int dg, .int pw, .long hs])), (a1, .inl (cI, 378, .inl sa)), (a2, .inl (cI, 378, .inl asd)), (a3, .inl (cI, 1512, .inl sv)), (a4, .inl (cI, 120, .inl mt))] H → va_D A [(a0, .inr (9, [.int th, .ref a1, .ref a2, .ref a3, .int sm, .ref a4, .int ln, .int nx, .int cd, .int dg, .int pw, .long hs])), (a1, .inl (cI, 378, .inl sa)), (a2, .inl (cI, 378, .inl asd)), (a3, .inl (cI, 1512, .inl sv)), (a4, .inl (cI, 120, .inl mt))] → va_S A s.heap H locs → lv_has ls 4 [(0, .ref a0), (1, .int (bI v1))] → W p l e ({ frames := 7, cells := 0, slots := 0, locals := 157 } : Room) s m ([.ref a0] : List Value).toArray below meth c H locs 0 0 Q (F0 m 35 ls []) := by
    intro th sa asd sv sm nx cd dg pw v1 H locs ls h hP hD hS hl
    rw [fX6_carryOut_J35] at h
    refine lv_iload_n hx hb dX6_carryOut_35 rfl (lv_at hl 1 rfl) ?_
    refine lv_if_ne (tgt := 47) hx hb dX6_carryOut_36 (by decide) (fun hc => ?_) (fun hc => ?_)
    · have h := o_f h hc
      refine lv_aload_n hx hb dX6_carryOut_47 rfl (lv_at hl 0 rfl) ?_
      obtain ⟨x1, ex1, h⟩ := o_b h
      refine call_vV (As := []) (rest := []) (ws2 := [(a0, .inr (9, [.int th, .ref a1, .ref a2, .ref a3, .int sm, .ref a4, .int ln, .int nx, .int cd, .int dg, .int pw, .long hs])), (a1, .inl (cI, 378, .inl sa)), (a2, .inl (cI, 378, .inl x1)), (a3, .inl (cI, 1512, .inl sv)), (a4, .inl (cI, 120, .inl mt))]) ⟨hx, hb, hml, hown, hts⟩ (cX6_hold_ok l G cI cG a0 a1 a2 a3 a4 fu th sa asd sv sm mt ln nx cd dg pw hs x1 ex1) (cwV 0 hts gX6_carryOut_X6_hold rfl rfl rfl hdX6_hold ⟨Nat.le_of_ble_eq_true rfl, Nat.le_of_ble_eq_true rfl⟩) hP hD hS hA hK 9 rfl rfl rfl [0, 1, 2, 3, 4] rfl rfl rfl rfl rfl rfl rfl rfl hl.1 (Nat.le_of_ble_eq_true rfl) dX6_carryOut_48 ⟨Nat.zero_le _, Nat.zero_le _⟩ (fun H locs hP hD hS => ?_)
      refine lv_aload_n hx hb dX6_carryOut_51 rfl (lv_at hl 0 rfl) ?_
      refine lv_iconst (v := 0) hx hb dX6_carryOut_52 (by decide) ?_
      refine va_put (D := G) (ci := 9) (v := .int (0 : Int32)) (ty := .int) (C := RX6) (T := TX6) (N := 12) hx hb hts hin6 tyX6 tyX6_ok nmX6 hown hK.1 hP hD hS 0 rfl rfl 7 (by decide) hw2 (fun _ h9 => h9) rfl (by decide +kernel) rfl rfl (Nat.le_of_ble_eq_true rfl) dX6_carryOut_53 (fun H locs hP hD hS => ?_)
      have hP : va_P G vwCl [(a0, .inr (9, [.int th, .ref a1, .ref a2, .ref a3, .int sm, .ref a4, .int ln, .int (0 : Int32), .int cd, .int dg, .int pw, .long hs])), (a1, .inl (cI, 378, .inl sa)), (a2, .inl (cI, 378, .inl x1)), (a3, .inl (cI, 1512, .inl sv)), (a4, .inl (cI, 120, .inl mt))] H := hP
      have hD : va_D A [(a0, .inr (9, [.int th, .ref a1, .ref a2, .ref a3, .int sm, .ref a4, .int ln, .int (0 : Int32), .int cd, .int dg, .int pw, .long hs])), (a1, .inl (cI, 378, .inl sa)), (a2, .inl (cI, 378, .inl x1)), (a3, .inl (cI, 1512, .inl sv)), (a4, .inl (cI, 120, .inl mt))] := hD
      refine lv_iconst (v := 0) hx hb dX6_carryOut_56 (by decide) ?_
      refine lv_istore_n (lv' := [(2, .int (0 : Int32)), (0, .ref a0), (1, .int (bI v1))]) hx hb dX6_carryOut_57 rfl hl (by decide) rfl (fun ls hl => ?_)
      exact L58 fu th sa x1 sv sm (0 : Int32) cd dg pw (0 : Int32) _ _ _ h hP hD hS (lv_sub hl [1, 0] rfl)
    · have h := o_t h hc
      refine lv_bipush (v := (-10)) hx hb dX6_carryOut_39 (by decide) ?_
      refine lv_aload_n hx hb dX6_carryOut_41 rfl (lv_at hl 0 rfl) ?_
      refine va_get (D := G) (ci := 9) (v := .int nx) (C := RX6) (T := TX6) (N := 12) hx hb hts hin6 hown hK.1 hP 0 rfl rfl 7 (by decide) hw2 (fun _ h9 => h9) rfl dX6_carryOut_42 ?_
      refine lv_isub hx hb dX6_carryOut_45 ?_
      obtain rfl := o_s h
      rw [hQ]
      exact end_i hx hb hr rfl hP hD hS dX6_carryOut_46 hlocks
  have L12 : ∀ (k : Nat) (th : Int32) (sa : (Nat → Int32)) (asd : (Nat → Int32)) (sv : (Nat → Int32)) (sm : Int32) (nx : Int32) (cd : Int32) (dg : Int32) (pw : Int32) (v1 : Bool) (H : Heap) (locs : List Loc) (ls : Array Slot), fX6_carryOut_L12 fu mt ln k th sa asd sv sm nx cd dg pw v1 = some out → va_P G vwCl [(a0, .inr (9, [.int th, .ref a1, .ref a2, .ref a3, .int sm, .ref a4, .int ln, .int nx, .int cd, .int dg, .int pw, .long hs])), (a1, .inl (cI, 378, .inl sa)), (a2, .inl (cI, 378, .inl asd)), (a3, .inl (cI, 1512, .inl sv)), (a4, .inl (cI, 120, .inl mt))] H → va_D A [(a0, .inr (9, [.int th, .ref a1, .ref a2, .ref a3, .int sm, .ref a4, .int ln, .int nx, .int cd, .int dg, .int pw, .long hs])), (a1, .inl (cI, 378, .inl sa)), (a2, .inl (cI, 378, .inl asd)), (a3, .inl (cI, 1512, .inl sv)), (a4, .inl (cI, 120, .inl mt))] → va_S A s.heap H locs → lv_has ls 4 [(0, .ref a0), (1, .int (bI v1))] → W p l e ({ frames := 7, cells := 0, slots := 0, locals := 157 } : Room) s m ([.ref a0] : List Value).toArray below meth c H locs 0 0 Q (F0 m 12 ls []) := by
    intro k
    induction k with
    | zero => intro th sa asd sv sm nx cd dg pw v1 H locs ls h hP hD hS hl; rw [fX6_carryOut_L12] at h; exact o_n h
    | succ k ih =>
      intro th sa asd sv sm nx cd dg pw v1 H locs ls h hP hD hS hl
      rw [fX6_carryOut_L12] at h
      refine lv_iload_n hx hb dX6_carryOut_12 rfl (lv_at hl 1 rfl) ?_
      refine lv_if_eq (tgt := 35) hx hb dX6_carryOut_13 (by decide) (fun hc => ?_) (fun hc => ?_)
      · have h := o_t h hc
        exact J35 th sa asd sv sm nx cd dg pw v1 _ _ _ h hP hD hS (lv_sub hl [0, 1] rfl)
      · have h := o_f h hc
        refine lv_aload_n hx hb dX6_carryOut_16 rfl (lv_at hl 0 rfl) ?_
        refine va_get (D := G) (ci := 9) (v := .int nx) (C := RX6) (T := TX6) (N := 12) hx hb hts hin6 hown hK.1 hP 0 rfl rfl 7 (by decide) hw2 (fun _ h9 => h9) rfl dX6_carryOut_17 ?_
        refine lv_aload_n hx hb dX6_carryOut_20 rfl (lv_at hl 0 rfl) ?_
        refine va_get (D := G) (ci := 9) (v := .int ln) (C := RX6) (T := TX6) (N := 12) hx hb hts hin6 hown hK.1 hP 0 rfl rfl 6 (by decide) hw3 (fun _ h9 => h9) rfl dX6_carryOut_21 ?_
        refine lv_icmp_ge (tgt := 35) hx hb dX6_carryOut_24 (by decide) (fun hc => ?_) (fun hc => ?_)
        · have h := o_t h hc
          exact J35 th sa asd sv sm nx cd dg pw v1 _ _ _ h hP hD hS (lv_sub hl [0, 1] rfl)
        · have h := o_f h hc
          refine lv_aload_n hx hb dX6_carryOut_27 rfl (lv_at hl 0 rfl) ?_
          obtain ⟨x10, ex10, h⟩ := o_b h
          refine call_iV (As := []) (rest := []) (ws2 := [(a0, .inr (9, [.int th, .ref a1, .ref a2, .ref a3, .int sm, .ref a4, .int ln, .int x10.2.1, .int x10.2.2.1, .int x10.2.2.2.1, .int x10.2.2.2.2, .long hs])), (a1, .inl (cI, 378, .inl sa)), (a2, .inl (cI, 378, .inl asd)), (a3, .inl (cI, 1512, .inl sv)), (a4, .inl (cI, 120, .inl mt))]) ⟨hx, hb, hml, hown, hts⟩ (cX6_readsCommand_ok l G cI cG a0 a1 a2 a3 a4 th sa asd sv sm mt ln nx cd dg pw hs x10 ex10) (cwV 0 hts gX6_carryOut_X6_readsCommand rfl rfl rfl hdX6_readsCommand ⟨Nat.le_of_ble_eq_true rfl, Nat.le_of_ble_eq_true rfl⟩) hP hD hS hA hK 9 rfl rfl rfl [0, 1, 2, 3, 4] rfl rfl rfl rfl rfl rfl rfl rfl hl.1 (Nat.le_of_ble_eq_true rfl) dX6_carryOut_28 ⟨Nat.zero_le _, Nat.zero_le _⟩ (fun H locs hP hD hS => ?_)
          refine lv_istore_n (lv' := [(1, .int (bI x10.1)), (0, .ref a0)]) hx hb dX6_carryOut_31 rfl hl (by decide) rfl (fun ls hl => ?_)
          refine lv_goto (tgt := 12) hx hb dX6_carryOut_32 (by decide) ?_
          exact ih th sa asd sv sm x10.2.1 x10.2.2.1 x10.2.2.2.1 x10.2.2.2.2 x10.1 _ _ _ h hP hD hS (lv_sub hl [1, 0] rfl)
  have h := hf
  rw [fX6_carryOut] at h
  have hl := lv_entry ([.ref a0]) (n := 4) (Nat.le_of_ble_eq_true rfl)
  rw [lg_entry_eq]
  generalize (lg_sl ([.ref a0]) ++ List.replicate (4 - (lg_sl ([.ref a0])).length) Slot.unset).toArray = ls at hl ⊢
  have hl : lv_has ls 4 [(0, .ref a0)] := hl
  refine lv_aload_n hx hb dX6_carryOut_0 rfl (lv_at hl 0 rfl) ?_
  refine lv_iconst (v := 0) hx hb dX6_carryOut_1 (by decide) ?_
  refine va_put (D := G) (ci := 9) (v := .int (0 : Int32)) (ty := .int) (C := RX6) (T := TX6) (N := 12) hx hb hts hin6 tyX6 tyX6_ok nmX6 hown hK.1 hP hD hS 0 rfl rfl 0 (by decide) hw0 (fun _ h9 => h9) rfl (by decide +kernel) rfl rfl (Nat.le_of_ble_eq_true rfl) dX6_carryOut_2 (fun H locs hP hD hS => ?_)
  have hP : va_P G vwCl [(a0, .inr (9, [.int (0 : Int32), .ref a1, .ref a2, .ref a3, .int sm, .ref a4, .int ln, .int nx, .int cd, .int dg, .int pw, .long hs])), (a1, .inl (cI, 378, .inl sa)), (a2, .inl (cI, 378, .inl asd)), (a3, .inl (cI, 1512, .inl sv)), (a4, .inl (cI, 120, .inl mt))] H := hP
  have hD : va_D A [(a0, .inr (9, [.int (0 : Int32), .ref a1, .ref a2, .ref a3, .int sm, .ref a4, .int ln, .int nx, .int cd, .int dg, .int pw, .long hs])), (a1, .inl (cI, 378, .inl sa)), (a2, .inl (cI, 378, .inl asd)), (a3, .inl (cI, 1512, .inl sv)), (a4, .inl (cI, 120, .inl mt))] := hD
  refine lv_aload_n hx hb dX6_carryOut_5 rfl (lv_at hl 0 rfl) ?_
  refine lv_iconst (v := 0) hx hb dX6_carryOut_6 (by decide) ?_
  refine va_put (D := G) (ci := 9) (v := .int (0 : Int32)) (ty := .int) (C := RX6) (T := TX6) (N := 12) hx hb hts hin6 tyX6 tyX6_ok nmX6 hown hK.1 hP hD hS 0 rfl rfl 7 (by decide) hw2 (fun _ h9 => h9) rfl (by decide +kernel) rfl rfl (Nat.le_of_ble_eq_true rfl) dX6_carryOut_7 (fun H locs hP hD hS => ?_)
  have hP : va_P G vwCl [(a0, .inr (9, [.int (0 : Int32), .ref a1, .ref a2, .ref a3, .int sm, .ref a4, .int ln, .int (0 : Int32), .int cd, .int dg, .int pw, .long hs])), (a1, .inl (cI, 378, .inl sa)), (a2, .inl (cI, 378, .inl asd)), (a3, .inl (cI, 1512, .inl sv)), (a4, .inl (cI, 120, .inl mt))] H := hP
  have hD : va_D A [(a0, .inr (9, [.int (0 : Int32), .ref a1, .ref a2, .ref a3, .int sm, .ref a4, .int ln, .int (0 : Int32), .int cd, .int dg, .int pw, .long hs])), (a1, .inl (cI, 378, .inl sa)), (a2, .inl (cI, 378, .inl asd)), (a3, .inl (cI, 1512, .inl sv)), (a4, .inl (cI, 120, .inl mt))] := hD
  refine lv_iconst (v := 1) hx hb dX6_carryOut_10 (by decide) ?_
  refine lv_istore_n (lv' := [(1, .int (1 : Int32)), (0, .ref a0)]) hx hb dX6_carryOut_11 rfl hl (by decide) rfl (fun ls hl => ?_)
  exact L12 fu (0 : Int32) sa asd sv sm (0 : Int32) cd dg pw true _ _ _ h hP hD hS (lv_sub hl [1, 0] rfl)
theorem hdX6_undo : yX6_undo.cls = RX6 ∧ yX6_undo.cls ≠ "java/lang/invoke/MethodHandle" ∧ yX6_undo.cls ≠ "java/lang/invoke/VarHandle" ∧ (parseMethodDescriptor yX6_undo.desc).map (fun d => d.parameters.length) = some 0 := by decide +kernel
set_option maxHeartbeats 4000000 in
set_option maxRecDepth 100000 in
theorem cX6_undo_ok (l : Launch) (G : va_G) (cI cG : ClassId) (a0 a1 a2 a3 a4 : Nat) (fu : Nat) (th : Int32) (sa : (Nat → Int32)) (asd : (Nat → Int32)) (sv : (Nat → Int32)) (sm : Int32) (mt : (Nat → Int32)) (ln : Int32) (nx : Int32) (cd : Int32) (dg : Int32) (pw : Int32) (hs : Int64) (out : Int32 × Int32 × (Nat → Int32) × Int32) (hf : fX6_undo fu th sa sv sm = some out) : CI l G (tyz cI cG) yX6_undo wsX6_undo ({ frames := 1, cells := 0, slots := 0, locals := 21 } : Room) [.ref a0] [(a0, .inr (9, [.int th, .ref a1, .ref a2, .ref a3, .int sm, .ref a4, .int ln, .int nx, .int cd, .int dg, .int pw, .long hs])), (a1, .inl (cI, 378, .inl sa)), (a2, .inl (cI, 378, .inl asd)), (a3, .inl (cI, 1512, .inl sv)), (a4, .inl (cI, 120, .inl mt))] out.1 [(a0, .inr (9, [.int out.2.1, .ref a1, .ref a2, .ref a3, .int out.2.2.2, .ref a4, .int ln, .int nx, .int cd, .int dg, .int pw, .long hs])), (a1, .inl (cI, 378, .inl out.2.2.1)), (a2, .inl (cI, 378, .inl asd)), (a3, .inl (cI, 1512, .inl sv)), (a4, .inl (cI, 120, .inl mt))] := by
  intro sz
  refine Met.ofW (cc := cX6_undo) (maxL := 2) (ret := (some .int)) (by decide) rfl ?_
  intro p e s m args below meth c s₁ B hml hv
  obtain ⟨rfl, hsz, hP, hK, hD0⟩ := hv
  have hx := B.exec
  have hb := B.bytes
  have hr := B.returns
  have hts := atoms_spec (ws := wsX6_undo) B.pre
  have hown : s.vm.findClass RX6 = some m.cls := findClass_of_methodNamed B.named
  have hlocks := B.notSynchronized
  subst hsz
  have hD := hD0.self (sz := s.heap.size)
  generalize hAe : va_A [(a0, .inr (9, [.int th, .ref a1, .ref a2, .ref a3, .int sm, .ref a4, .int ln, .int nx, .int cd, .int dg, .int pw, .long hs])), (a1, .inl (cI, 378, .inl sa)), (a2, .inl (cI, 378, .inl asd)), (a3, .inl (cI, 1512, .inl sv)), (a4, .inl (cI, 120, .inl mt))] s.heap.size = A at hD ⊢
  have hA : ∀ q : Nat, s.heap.size ≤ q → A q := fun q h => by rw [← hAe]; exact Or.inr h
  have hS : va_S A s.heap s.heap [] := va_S.rf
  have hw0 := hts (.fieldLink RX6 22 "SpeedTurnsModel" "thrown" "I") (List.mem_of_getElem? (i := 1) rfl)
  have hin6 : ∀ w ∈ u_ws RX6 TX6 12, w ∈ wsX6_undo := by decide +kernel
  have hw2 := hts (.fieldLink RX6 26 "SpeedTurnsModel" "savedMany" "I") (List.mem_of_getElem? (i := 2) rfl)
  have hw3 := hts (.fieldLink RX6 7 "SpeedTurnsModel" "s" "[I") (List.mem_of_getElem? (i := 3) rfl)
  have hw4 := hts (.fieldLink RX6 16 "SpeedTurnsModel" "saved" "[I") (List.mem_of_getElem? (i := 4) rfl)
  show W p l e ({ frames := 1, cells := 0, slots := 0, locals := 21 } : Room) s m _ below meth c s.heap [] 0 0 _ _
  refine W_genQ (fun Q hQ => ?_)
  have L30 : ∀ (k : Nat) (th : Int32) (sa : (Nat → Int32)) (sm : Int32) (v1 : Int32) (H : Heap) (locs : List Loc) (ls : Array Slot), fX6_undo_L30 fu sv k th sa sm v1 = some out → va_P G vwCl [(a0, .inr (9, [.int th, .ref a1, .ref a2, .ref a3, .int sm, .ref a4, .int ln, .int nx, .int cd, .int dg, .int pw, .long hs])), (a1, .inl (cI, 378, .inl sa)), (a2, .inl (cI, 378, .inl asd)), (a3, .inl (cI, 1512, .inl sv)), (a4, .inl (cI, 120, .inl mt))] H → va_D A [(a0, .inr (9, [.int th, .ref a1, .ref a2, .ref a3, .int sm, .ref a4, .int ln, .int nx, .int cd, .int dg, .int pw, .long hs])), (a1, .inl (cI, 378, .inl sa)), (a2, .inl (cI, 378, .inl asd)), (a3, .inl (cI, 1512, .inl sv)), (a4, .inl (cI, 120, .inl mt))] → va_S A s.heap H locs → lv_has ls 2 [(0, .ref a0), (1, .int v1)] → W p l e ({ frames := 1, cells := 0, slots := 0, locals := 21 } : Room) s m ([.ref a0] : List Value).toArray below meth c H locs 0 0 Q (F0 m 30 ls []) := by
    intro k
    induction k with
    | zero => intro th sa sm v1 H locs ls h hP hD hS hl; rw [fX6_undo_L30] at h; exact o_n h
    | succ k ih =>
      intro th sa sm v1 H locs ls h hP hD hS hl
      rw [fX6_undo_L30] at h
      refine lv_iload_n hx hb dX6_undo_30 rfl (lv_at hl 1 rfl) ?_
      refine lv_sipush (v := 378) hx hb dX6_undo_31 (by decide) ?_
      refine lv_icmp_ge (tgt := 64) hx hb dX6_undo_34 (by decide) (fun hc => ?_) (fun hc => ?_)
      · have h := o_t h hc
        refine lv_aload_n hx hb dX6_undo_64 rfl (lv_at hl 0 rfl) ?_
        refine va_get (D := G) (ci := 9) (v := .int sm) (C := RX6) (T := TX6) (N := 12) hx hb hts hin6 hown hK.1 hP 0 rfl rfl 4 (by decide) hw2 (fun _ h9 => h9) rfl dX6_undo_65 ?_
        obtain rfl := o_s h
        rw [hQ]
        exact end_i hx hb hr rfl hP hD hS dX6_undo_68 hlocks
      · have h := o_f h hc
        refine lv_aload_n hx hb dX6_undo_37 rfl (lv_at hl 0 rfl) ?_
        refine va_get (D := G) (ci := 9) (v := .ref a1) (C := RX6) (T := TX6) (N := 12) hx hb hts hin6 hown hK.1 hP 0 rfl rfl 1 (by decide) hw3 (fun _ h9 => h9) rfl dX6_undo_38 ?_
        refine lv_iload_n hx hb dX6_undo_41 rfl (lv_at hl 1 rfl) ?_
        refine lv_aload_n hx hb dX6_undo_42 rfl (lv_at hl 0 rfl) ?_
        refine va_get (D := G) (ci := 9) (v := .ref a3) (C := RX6) (T := TX6) (N := 12) hx hb hts hin6 hown hK.1 hP 0 rfl rfl 3 (by decide) hw4 (fun _ h9 => h9) rfl dX6_undo_43 ?_
        refine lv_sipush (v := 378) hx hb dX6_undo_46 (by decide) ?_
        refine lv_aload_n hx hb dX6_undo_49 rfl (lv_at hl 0 rfl) ?_
        refine va_get (D := G) (ci := 9) (v := .int sm) (C := RX6) (T := TX6) (N := 12) hx hb hts hin6 hown hK.1 hP 0 rfl rfl 4 (by decide) hw2 (fun _ h9 => h9) rfl dX6_undo_50 ?_
        refine lv_imul hx hb dX6_undo_53 ?_
        refine lv_iload_n hx hb dX6_undo_54 rfl (lv_at hl 1 rfl) ?_
        refine lv_iadd hx hb dX6_undo_55 ?_
        obtain ⟨hin, h⟩ := o_g h
        refine va_iald hx hb hK.1 hP 3 0 rfl rfl hin dX6_undo_56 ?_
        obtain ⟨hin, h⟩ := o_g h
        refine va_iast hx hb hK.1 hP hD hS 1 0 rfl rfl hin dX6_undo_57 (fun H locs hP hD hS => ?_)
        have hP : va_P G vwCl [(a0, .inr (9, [.int th, .ref a1, .ref a2, .ref a3, .int sm, .ref a4, .int ln, .int nx, .int cd, .int dg, .int pw, .long hs])), (a1, .inl (cI, 378, .inl (upd sa (v1).toNatClampNeg (sv ((((378 : Int32) * sm) + v1)).toNatClampNeg)))), (a2, .inl (cI, 378, .inl asd)), (a3, .inl (cI, 1512, .inl sv)), (a4, .inl (cI, 120, .inl mt))] H := hP
        have hD : va_D A [(a0, .inr (9, [.int th, .ref a1, .ref a2, .ref a3, .int sm, .ref a4, .int ln, .int nx, .int cd, .int dg, .int pw, .long hs])), (a1, .inl (cI, 378, .inl (upd sa (v1).toNatClampNeg (sv ((((378 : Int32) * sm) + v1)).toNatClampNeg)))), (a2, .inl (cI, 378, .inl asd)), (a3, .inl (cI, 1512, .inl sv)), (a4, .inl (cI, 120, .inl mt))] := hD
        refine lv_iinc (v := (v1 + 1)) (lv' := [(1, .int (v1 + 1)), (0, .ref a0)]) hx hb dX6_undo_58 hl (k := 1) rfl rfl (by decide) rfl (fun ls hl => ?_)
        refine lv_goto (tgt := 30) hx hb dX6_undo_61 (by decide) ?_
        exact ih th (upd sa (v1).toNatClampNeg (sv ((((378 : Int32) * sm) + v1)).toNatClampNeg)) sm (v1 + 1) _ _ _ h hP hD hS (lv_sub hl [1, 0] rfl)
  have h := hf
  rw [fX6_undo] at h
  have hl := lv_entry ([.ref a0]) (n := 2) (Nat.le_of_ble_eq_true rfl)
  rw [lg_entry_eq]
  generalize (lg_sl ([.ref a0]) ++ List.replicate (2 - (lg_sl ([.ref a0])).length) Slot.unset).toArray = ls at hl ⊢
  have hl : lv_has ls 2 [(0, .ref a0)] := hl
  refine lv_aload_n hx hb dX6_undo_0 rfl (lv_at hl 0 rfl) ?_
  refine lv_iconst (v := 0) hx hb dX6_undo_1 (by decide) ?_
  refine va_put (D := G) (ci := 9) (v := .int (0 : Int32)) (ty := .int) (C := RX6) (T := TX6) (N := 12) hx hb hts hin6 tyX6 tyX6_ok nmX6 hown hK.1 hP hD hS 0 rfl rfl 0 (by decide) hw0 (fun _ h9 => h9) rfl (by decide +kernel) rfl rfl (Nat.le_of_ble_eq_true rfl) dX6_undo_2 (fun H locs hP hD hS => ?_)
  have hP : va_P G vwCl [(a0, .inr (9, [.int (0 : Int32), .ref a1, .ref a2, .ref a3, .int sm, .ref a4, .int ln, .int nx, .int cd, .int dg, .int pw, .long hs])), (a1, .inl (cI, 378, .inl sa)), (a2, .inl (cI, 378, .inl asd)), (a3, .inl (cI, 1512, .inl sv)), (a4, .inl (cI, 120, .inl mt))] H := hP
  have hD : va_D A [(a0, .inr (9, [.int (0 : Int32), .ref a1, .ref a2, .ref a3, .int sm, .ref a4, .int ln, .int nx, .int cd, .int dg, .int pw, .long hs])), (a1, .inl (cI, 378, .inl sa)), (a2, .inl (cI, 378, .inl asd)), (a3, .inl (cI, 1512, .inl sv)), (a4, .inl (cI, 120, .inl mt))] := hD
  refine lv_aload_n hx hb dX6_undo_5 rfl (lv_at hl 0 rfl) ?_
  refine va_get (D := G) (ci := 9) (v := .int sm) (C := RX6) (T := TX6) (N := 12) hx hb hts hin6 hown hK.1 hP 0 rfl rfl 4 (by decide) hw2 (fun _ h9 => h9) rfl dX6_undo_6 ?_
  refine lv_if_ne (tgt := 18) hx hb dX6_undo_9 (by decide) (fun hc => ?_) (fun hc => ?_)
  · have h := o_f h hc
    refine lv_aload_n hx hb dX6_undo_18 rfl (lv_at hl 0 rfl) ?_
    refine lv_dup hx hb dX6_undo_19 rfl ?_
    refine va_get (D := G) (ci := 9) (v := .int sm) (C := RX6) (T := TX6) (N := 12) hx hb hts hin6 hown hK.1 hP 0 rfl rfl 4 (by decide) hw2 (fun _ h9 => h9) rfl dX6_undo_20 ?_
    refine lv_iconst (v := 1) hx hb dX6_undo_23 (by decide) ?_
    refine lv_isub hx hb dX6_undo_24 ?_
    refine va_put (D := G) (ci := 9) (v := .int (sm - (1 : Int32))) (ty := .int) (C := RX6) (T := TX6) (N := 12) hx hb hts hin6 tyX6 tyX6_ok nmX6 hown hK.1 hP hD hS 0 rfl rfl 4 (by decide) hw2 (fun _ h9 => h9) rfl (by decide +kernel) rfl rfl (Nat.le_of_ble_eq_true rfl) dX6_undo_25 (fun H locs hP hD hS => ?_)
    have hP : va_P G vwCl [(a0, .inr (9, [.int (0 : Int32), .ref a1, .ref a2, .ref a3, .int (sm - (1 : Int32)), .ref a4, .int ln, .int nx, .int cd, .int dg, .int pw, .long hs])), (a1, .inl (cI, 378, .inl sa)), (a2, .inl (cI, 378, .inl asd)), (a3, .inl (cI, 1512, .inl sv)), (a4, .inl (cI, 120, .inl mt))] H := hP
    have hD : va_D A [(a0, .inr (9, [.int (0 : Int32), .ref a1, .ref a2, .ref a3, .int (sm - (1 : Int32)), .ref a4, .int ln, .int nx, .int cd, .int dg, .int pw, .long hs])), (a1, .inl (cI, 378, .inl sa)), (a2, .inl (cI, 378, .inl asd)), (a3, .inl (cI, 1512, .inl sv)), (a4, .inl (cI, 120, .inl mt))] := hD
    refine lv_iconst (v := 0) hx hb dX6_undo_28 (by decide) ?_
    refine lv_istore_n (lv' := [(1, .int (0 : Int32)), (0, .ref a0)]) hx hb dX6_undo_29 rfl hl (by decide) rfl (fun ls hl => ?_)
    exact L30 fu (0 : Int32) sa (sm - (1 : Int32)) (0 : Int32) _ _ _ h hP hD hS (lv_sub hl [1, 0] rfl)
  · have h := o_t h hc
    refine lv_aload_n hx hb dX6_undo_12 rfl (lv_at hl 0 rfl) ?_
    refine lv_iconst (v := 1) hx hb dX6_undo_13 (by decide) ?_
    obtain ⟨x1, ex1, h⟩ := o_b h
    refine call_iV (As := [.int (1 : Int32)]) (rest := []) (ws2 := [(a0, .inr (9, [.int x1.2, .ref a1, .ref a2, .ref a3, .int sm, .ref a4, .int ln, .int nx, .int cd, .int dg, .int pw, .long hs])), (a1, .inl (cI, 378, .inl sa)), (a2, .inl (cI, 378, .inl asd)), (a3, .inl (cI, 1512, .inl sv)), (a4, .inl (cI, 120, .inl mt))]) ⟨hx, hb, hml, hown, hts⟩ (cX6_fails_ok l G cI cG a0 a1 a2 a3 a4 (0 : Int32) sa asd sv sm mt ln nx cd dg pw hs (1 : Int32) x1 ex1) (cwV 1 hts gX6_undo_X6_fails rfl rfl rfl hdX6_fails ⟨Nat.le_of_ble_eq_true rfl, Nat.le_of_ble_eq_true rfl⟩) hP hD hS hA hK 9 rfl rfl rfl [0, 1, 2, 3, 4] rfl rfl rfl rfl rfl rfl rfl rfl hl.1 (Nat.le_of_ble_eq_true rfl) dX6_undo_14 ⟨Nat.zero_le _, Nat.zero_le _⟩ (fun H locs hP hD hS => ?_)
    obtain rfl := o_s h
    rw [hQ]
    exact end_i hx hb hr rfl hP hD hS dX6_undo_17 hlocks
theorem hdX6_take : yX6_take.cls = RX6 ∧ yX6_take.cls ≠ "java/lang/invoke/MethodHandle" ∧ yX6_take.cls ≠ "java/lang/invoke/VarHandle" ∧ (parseMethodDescriptor yX6_take.desc).map (fun d => d.parameters.length) = some 1 := by decide +kernel
set_option maxHeartbeats 4000000 in
set_option maxRecDepth 100000 in
theorem cX6_take_ok (l : Launch) (G : va_G) (cI cG : ClassId) (a0 a1 a2 a3 a4 : Nat) (th : Int32) (sa : (Nat → Int32)) (asd : (Nat → Int32)) (sv : (Nat → Int32)) (sm : Int32) (mt : (Nat → Int32)) (ln : Int32) (nx : Int32) (cd : Int32) (dg : Int32) (pw : Int32) (hs : Int64) (p1 : Int32) (out : Int64) (hf : fX6_take hs p1 = some out) : CV l G (tyz cI cG) yX6_take wsX6_take ({ frames := 0, cells := 0, slots := 0, locals := 0 } : Room) [.ref a0, .int p1] [(a0, .inr (9, [.int th, .ref a1, .ref a2, .ref a3, .int sm, .ref a4, .int ln, .int nx, .int cd, .int dg, .int pw, .long hs])), (a1, .inl (cI, 378, .inl sa)), (a2, .inl (cI, 378, .inl asd)), (a3, .inl (cI, 1512, .inl sv)), (a4, .inl (cI, 120, .inl mt))] [(a0, .inr (9, [.int th, .ref a1, .ref a2, .ref a3, .int sm, .ref a4, .int ln, .int nx, .int cd, .int dg, .int pw, .long out])), (a1, .inl (cI, 378, .inl sa)), (a2, .inl (cI, 378, .inl asd)), (a3, .inl (cI, 1512, .inl sv)), (a4, .inl (cI, 120, .inl mt))] := by
  intro sz
  refine Met.ofW (cc := cX6_take) (maxL := 2) (ret := none) (by decide) rfl ?_
  intro p e s m args below meth c s₁ B hml hv
  obtain ⟨rfl, hsz, hP, hK, hD0⟩ := hv
  have hx := B.exec
  have hb := B.bytes
  have hr := B.returns
  have hts := atoms_spec (ws := wsX6_take) B.pre
  have hown : s.vm.findClass RX6 = some m.cls := findClass_of_methodNamed B.named
  have hlocks := B.notSynchronized
  subst hsz
  have hD := hD0.self (sz := s.heap.size)
  generalize hAe : va_A [(a0, .inr (9, [.int th, .ref a1, .ref a2, .ref a3, .int sm, .ref a4, .int ln, .int nx, .int cd, .int dg, .int pw, .long hs])), (a1, .inl (cI, 378, .inl sa)), (a2, .inl (cI, 378, .inl asd)), (a3, .inl (cI, 1512, .inl sv)), (a4, .inl (cI, 120, .inl mt))] s.heap.size = A at hD ⊢
  have hA : ∀ q : Nat, s.heap.size ≤ q → A q := fun q h => by rw [← hAe]; exact Or.inr h
  have hS : va_S A s.heap s.heap [] := va_S.rf
  have hw0 := hts (.constantLong RX6 215 (31)) (List.mem_of_getElem? (i := 1) rfl)
  have hw1 := hts (.fieldLink RX6 217 "SpeedTurnsModel" "hash" "J") (List.mem_of_getElem? (i := 2) rfl)
  have hin6 : ∀ w ∈ u_ws RX6 TX6 12, w ∈ wsX6_take := by decide +kernel
  show W p l e ({ frames := 0, cells := 0, slots := 0, locals := 0 } : Room) s m _ below meth c s.heap [] 0 0 _ _
  refine W_genQ (fun Q hQ => ?_)
  have h := hf
  rw [fX6_take] at h
  have hl := lv_entry ([.ref a0, .int p1]) (n := 2) (Nat.le_of_ble_eq_true rfl)
  rw [lg_entry_eq]
  generalize (lg_sl ([.ref a0, .int p1]) ++ List.replicate (2 - (lg_sl ([.ref a0, .int p1])).length) Slot.unset).toArray = ls at hl ⊢
  have hl : lv_has ls 2 [(0, .ref a0), (1, .int p1)] := hl
  refine lv_aload_n hx hb dX6_take_0 rfl (lv_at hl 0 rfl) ?_
  refine lv_ldc2 (v := 31) hx hb hown hw0 dX6_take_1 ?_
  refine lv_aload_n hx hb dX6_take_4 rfl (lv_at hl 0 rfl) ?_
  refine va_get (D := G) (ci := 9) (v := .long hs) (C := RX6) (T := TX6) (N := 12) hx hb hts hin6 hown hK.1 hP 0 rfl rfl 11 (by decide) hw1 (fun _ h9 => h9) rfl dX6_take_5 ?_
  refine lv_lmul hx hb dX6_take_8 ?_
  refine lv_iload_n hx hb dX6_take_9 rfl (lv_at hl 1 rfl) ?_
  refine lv_i2l (v := (p1).toInt64) hx hb dX6_take_10 rfl ?_
  refine lv_ladd hx hb dX6_take_11 ?_
  refine va_put (D := G) (ci := 9) (v := .long (((31 : Int64) * hs) + ((p1).toInt64))) (ty := .long) (C := RX6) (T := TX6) (N := 12) hx hb hts hin6 tyX6 tyX6_ok nmX6 hown hK.1 hP hD hS 0 rfl rfl 11 (by decide) hw1 (fun _ h9 => h9) rfl (by decide +kernel) rfl rfl (Nat.le_of_ble_eq_true rfl) dX6_take_12 (fun H locs hP hD hS => ?_)
  have hP : va_P G vwCl [(a0, .inr (9, [.int th, .ref a1, .ref a2, .ref a3, .int sm, .ref a4, .int ln, .int nx, .int cd, .int dg, .int pw, .long (((31 : Int64) * hs) + ((p1).toInt64))])), (a1, .inl (cI, 378, .inl sa)), (a2, .inl (cI, 378, .inl asd)), (a3, .inl (cI, 1512, .inl sv)), (a4, .inl (cI, 120, .inl mt))] H := hP
  have hD : va_D A [(a0, .inr (9, [.int th, .ref a1, .ref a2, .ref a3, .int sm, .ref a4, .int ln, .int nx, .int cd, .int dg, .int pw, .long (((31 : Int64) * hs) + ((p1).toInt64))])), (a1, .inl (cI, 378, .inl sa)), (a2, .inl (cI, 378, .inl asd)), (a3, .inl (cI, 1512, .inl sv)), (a4, .inl (cI, 120, .inl mt))] := hD
  obtain rfl := o_s h
  rw [hQ]
  exact end_v hx hb hr hP hD hS dX6_take_15 hlocks
theorem hdX6_digest : yX6_digest.cls = RX6 ∧ yX6_digest.cls ≠ "java/lang/invoke/MethodHandle" ∧ yX6_digest.cls ≠ "java/lang/invoke/VarHandle" ∧ (parseMethodDescriptor yX6_digest.desc).map (fun d => d.parameters.length) = some 0 := by decide +kernel
set_option maxHeartbeats 4000000 in
set_option maxRecDepth 100000 in
theorem cX6_digest_ok (l : Launch) (G : va_G) (cI cG : ClassId) (a0 a1 a2 a3 a4 : Nat) (fu : Nat) (th : Int32) (sa : (Nat → Int32)) (asd : (Nat → Int32)) (sv : (Nat → Int32)) (sm : Int32) (mt : (Nat → Int32)) (ln : Int32) (nx : Int32) (cd : Int32) (dg : Int32) (pw : Int32) (hs : Int64) (out : Int64 × Int32 × Int64) (hf : fX6_digest fu th sa sm ln hs = some out) : CL l G (tyz cI cG) yX6_digest wsX6_digest ({ frames := 4, cells := 0, slots := 0, locals := 90 } : Room) [.ref a0] [(a0, .inr (9, [.int th, .ref a1, .ref a2, .ref a3, .int sm, .ref a4, .int ln, .int nx, .int cd, .int dg, .int pw, .long hs])), (a1, .inl (cI, 378, .inl sa)), (a2, .inl (cI, 378, .inl asd)), (a3, .inl (cI, 1512, .inl sv)), (a4, .inl (cI, 120, .inl mt))] out.1 [(a0, .inr (9, [.int out.2.1, .ref a1, .ref a2, .ref a3, .int sm, .ref a4, .int ln, .int nx, .int cd, .int dg, .int pw, .long out.2.2])), (a1, .inl (cI, 378, .inl sa)), (a2, .inl (cI, 378, .inl asd)), (a3, .inl (cI, 1512, .inl sv)), (a4, .inl (cI, 120, .inl mt))] := by
  intro sz
  refine Met.ofW (cc := cX6_digest) (maxL := 3) (ret := (some .long)) (by decide) rfl ?_
  intro p e s m args below meth c s₁ B hml hv
  obtain ⟨rfl, hsz, hP, hK, hD0⟩ := hv
  have hx := B.exec
  have hb := B.bytes
  have hr := B.returns
  have hts := atoms_spec (ws := wsX6_digest) B.pre
  have hown : s.vm.findClass RX6 = some m.cls := findClass_of_methodNamed B.named
  have hlocks := B.notSynchronized
  subst hsz
  have hD := hD0.self (sz := s.heap.size)
  generalize hAe : va_A [(a0, .inr (9, [.int th, .ref a1, .ref a2, .ref a3, .int sm, .ref a4, .int ln, .int nx, .int cd, .int dg, .int pw, .long hs])), (a1, .inl (cI, 378, .inl sa)), (a2, .inl (cI, 378, .inl asd)), (a3, .inl (cI, 1512, .inl sv)), (a4, .inl (cI, 120, .inl mt))] s.heap.size = A at hD ⊢
  have hA : ∀ q : Nat, s.heap.size ≤ q → A q := fun q h => by rw [← hAe]; exact Or.inr h
  have hS : va_S A s.heap s.heap [] := va_S.rf
  have hw0 := hts (.fieldLink RX6 22 "SpeedTurnsModel" "thrown" "I") (List.mem_of_getElem? (i := 1) rfl)
  have hin6 : ∀ w ∈ u_ws RX6 TX6 12, w ∈ wsX6_digest := by decide +kernel
  have hw2 := hts (.constantLong RX6 221 (3343)) (List.mem_of_getElem? (i := 2) rfl)
  have hw3 := hts (.fieldLink RX6 217 "SpeedTurnsModel" "hash" "J") (List.mem_of_getElem? (i := 3) rfl)
  have hw4 := hts (.fieldLink RX6 172 "SpeedTurnsModel" "length" "I") (List.mem_of_getElem? (i := 4) rfl)
  have hw5 := hts (.fieldLink RX6 7 "SpeedTurnsModel" "s" "[I") (List.mem_of_getElem? (i := 5) rfl)
  have hw6 := hts (.fieldLink RX6 26 "SpeedTurnsModel" "savedMany" "I") (List.mem_of_getElem? (i := 6) rfl)
  show W p l e ({ frames := 4, cells := 0, slots := 0, locals := 90 } : Room) s m _ below meth c s.heap [] 0 0 _ _
  refine W_genQ (fun Q hQ => ?_)
  have L175 : ∀ (out175 : Int32 × Int64 × Int32) (k : Nat) (th : Int32) (hs : Int64) (v1 : Int32) (v2 : Int32) (H : Heap) (locs : List Loc) (ls : Array Slot), fX6_digest_L175 fu sa sm ln k th hs v1 v2 = some out175 → (∀ (H : Heap) (locs : List Loc) (ls : Array Slot), va_P G vwCl [(a0, .inr (9, [.int out175.1, .ref a1, .ref a2, .ref a3, .int sm, .ref a4, .int ln, .int nx, .int cd, .int dg, .int pw, .long out175.2.1])), (a1, .inl (cI, 378, .inl sa)), (a2, .inl (cI, 378, .inl asd)), (a3, .inl (cI, 1512, .inl sv)), (a4, .inl (cI, 120, .inl mt))] H → va_D A [(a0, .inr (9, [.int out175.1, .ref a1, .ref a2, .ref a3, .int sm, .ref a4, .int ln, .int nx, .int cd, .int dg, .int pw, .long out175.2.1])), (a1, .inl (cI, 378, .inl sa)), (a2, .inl (cI, 378, .inl asd)), (a3, .inl (cI, 1512, .inl sv)), (a4, .inl (cI, 120, .inl mt))] → va_S A s.heap H locs → lv_has ls 3 [(0, .ref a0), (1, .int out175.2.2)] → W p l e ({ frames := 4, cells := 0, slots := 0, locals := 90 } : Room) s m ([.ref a0] : List Value).toArray below meth c H locs 0 0 Q (F0 m 196 ls [])) → va_P G vwCl [(a0, .inr (9, [.int th, .ref a1, .ref a2, .ref a3, .int sm, .ref a4, .int ln, .int nx, .int cd, .int dg, .int pw, .long hs])), (a1, .inl (cI, 378, .inl sa)), (a2, .inl (cI, 378, .inl asd)), (a3, .inl (cI, 1512, .inl sv)), (a4, .inl (cI, 120, .inl mt))] H → va_D A [(a0, .inr (9, [.int th, .ref a1, .ref a2, .ref a3, .int sm, .ref a4, .int ln, .int nx, .int cd, .int dg, .int pw, .long hs])), (a1, .inl (cI, 378, .inl sa)), (a2, .inl (cI, 378, .inl asd)), (a3, .inl (cI, 1512, .inl sv)), (a4, .inl (cI, 120, .inl mt))] → va_S A s.heap H locs → lv_has ls 3 [(0, .ref a0), (1, .int v1), (2, .int v2)] → W p l e ({ frames := 4, cells := 0, slots := 0, locals := 90 } : Room) s m ([.ref a0] : List Value).toArray below meth c H locs 0 0 Q (F0 m 175 ls []) := by
    intro out175 k
    induction k with
    | zero => intro th hs v1 v2 H locs ls h kk hP hD hS hl; rw [fX6_digest_L175] at h; exact o_n h
    | succ k ih =>
      intro th hs v1 v2 H locs ls h kk hP hD hS hl
      rw [fX6_digest_L175] at h
      refine lv_iload_n hx hb dX6_digest_175 rfl (lv_at hl 2 rfl) ?_
      refine lv_iconst (v := 4) hx hb dX6_digest_176 (by decide) ?_
      refine lv_icmp_ge (tgt := 196) hx hb dX6_digest_177 (by decide) (fun hc => ?_) (fun hc => ?_)
      · have h := o_t h hc
        obtain rfl := o_s h
        exact kk _ _ _ hP hD hS (lv_sub hl [0, 1] rfl)
      · have h := o_f h hc
        refine lv_aload_n hx hb dX6_digest_180 rfl (lv_at hl 0 rfl) ?_
        refine lv_aload_n hx hb dX6_digest_181 rfl (lv_at hl 0 rfl) ?_
        refine lv_iload_n hx hb dX6_digest_182 rfl (lv_at hl 1 rfl) ?_
        refine lv_iload_n hx hb dX6_digest_183 rfl (lv_at hl 2 rfl) ?_
        obtain ⟨x3, ex3, h⟩ := o_b h
        refine call_iV (As := [.int v1, .int v2]) (rest := [.ref a0]) (ws2 := [(a0, .inr (9, [.int th, .ref a1, .ref a2, .ref a3, .int sm, .ref a4, .int ln, .int nx, .int cd, .int dg, .int pw, .long hs])), (a1, .inl (cI, 378, .inl sa)), (a2, .inl (cI, 378, .inl asd)), (a3, .inl (cI, 1512, .inl sv)), (a4, .inl (cI, 120, .inl mt))]) ⟨hx, hb, hml, hown, hts⟩ (cX6_ofAct_ok l G cI cG a0 a1 a2 a3 a4 th sa asd sv sm mt ln nx cd dg pw hs v1 v2 x3 ex3) (cwV 2 hts gX6_digest_X6_ofAct rfl rfl rfl hdX6_ofAct ⟨Nat.le_of_ble_eq_true rfl, Nat.le_of_ble_eq_true rfl⟩) hP hD hS hA hK 9 rfl rfl rfl [0, 1, 2, 3, 4] rfl rfl rfl rfl rfl rfl rfl rfl hl.1 (Nat.le_of_ble_eq_true rfl) dX6_digest_184 ⟨Nat.zero_le _, Nat.zero_le _⟩ (fun H locs hP hD hS => ?_)
        obtain ⟨x4, ex4, h⟩ := o_b h
        refine call_vV (As := [.int x3]) (rest := []) (ws2 := [(a0, .inr (9, [.int th, .ref a1, .ref a2, .ref a3, .int sm, .ref a4, .int ln, .int nx, .int cd, .int dg, .int pw, .long x4])), (a1, .inl (cI, 378, .inl sa)), (a2, .inl (cI, 378, .inl asd)), (a3, .inl (cI, 1512, .inl sv)), (a4, .inl (cI, 120, .inl mt))]) ⟨hx, hb, hml, hown, hts⟩ (cX6_take_ok l G cI cG a0 a1 a2 a3 a4 th sa asd sv sm mt ln nx cd dg pw hs x3 x4 ex4) (cwV 1 hts gX6_digest_X6_take rfl rfl rfl hdX6_take ⟨Nat.le_of_ble_eq_true rfl, Nat.le_of_ble_eq_true rfl⟩) hP hD hS hA hK 9 rfl rfl rfl [0, 1, 2, 3, 4] rfl rfl rfl rfl rfl rfl rfl rfl hl.1 (Nat.le_of_ble_eq_true rfl) dX6_digest_187 ⟨Nat.zero_le _, Nat.zero_le _⟩ (fun H locs hP hD hS => ?_)
        refine lv_iinc (v := (v2 + 1)) (lv' := [(2, .int (v2 + 1)), (0, .ref a0), (1, .int v1)]) hx hb dX6_digest_190 hl (k := 2) rfl rfl (by decide) rfl (fun ls hl => ?_)
        refine lv_goto (tgt := 175) hx hb dX6_digest_193 (by decide) ?_
        exact ih th x4 v1 (v2 + 1) _ _ _ h kk hP hD hS (lv_sub hl [1, 2, 0] rfl)
  have L169 : ∀ (k : Nat) (th : Int32) (hs : Int64) (v1 : Int32) (H : Heap) (locs : List Loc) (ls : Array Slot), fX6_digest_L169 fu sa sm ln k th hs v1 = some out → va_P G vwCl [(a0, .inr (9, [.int th, .ref a1, .ref a2, .ref a3, .int sm, .ref a4, .int ln, .int nx, .int cd, .int dg, .int pw, .long hs])), (a1, .inl (cI, 378, .inl sa)), (a2, .inl (cI, 378, .inl asd)), (a3, .inl (cI, 1512, .inl sv)), (a4, .inl (cI, 120, .inl mt))] H → va_D A [(a0, .inr (9, [.int th, .ref a1, .ref a2, .ref a3, .int sm, .ref a4, .int ln, .int nx, .int cd, .int dg, .int pw, .long hs])), (a1, .inl (cI, 378, .inl sa)), (a2, .inl (cI, 378, .inl asd)), (a3, .inl (cI, 1512, .inl sv)), (a4, .inl (cI, 120, .inl mt))] → va_S A s.heap H locs → lv_has ls 3 [(0, .ref a0), (1, .int v1)] → W p l e ({ frames := 4, cells := 0, slots := 0, locals := 90 } : Room) s m ([.ref a0] : List Value).toArray below meth c H locs 0 0 Q (F0 m 169 ls []) := by
    intro k
    induction k with
    | zero => intro th hs v1 H locs ls h hP hD hS hl; rw [fX6_digest_L169] at h; exact o_n h
    | succ k ih =>
      intro th hs v1 H locs ls h hP hD hS hl
      rw [fX6_digest_L169] at h
      refine lv_iload_n hx hb dX6_digest_169 rfl (lv_at hl 1 rfl) ?_
      refine lv_if_lt (tgt := 202) hx hb dX6_digest_170 (by decide) (fun hc => ?_) (fun hc => ?_)
      · have h := o_t h hc
        refine lv_aload_n hx hb dX6_digest_202 rfl (lv_at hl 0 rfl) ?_
        refine lv_aload_n hx hb dX6_digest_203 rfl (lv_at hl 0 rfl) ?_
        refine va_get (D := G) (ci := 9) (v := .int sm) (C := RX6) (T := TX6) (N := 12) hx hb hts hin6 hown hK.1 hP 0 rfl rfl 4 (by decide) hw6 (fun _ h9 => h9) rfl dX6_digest_204 ?_
        obtain ⟨x2, ex2, h⟩ := o_b h
        refine call_vV (As := [.int sm]) (rest := []) (ws2 := [(a0, .inr (9, [.int th, .ref a1, .ref a2, .ref a3, .int sm, .ref a4, .int ln, .int nx, .int cd, .int dg, .int pw, .long x2])), (a1, .inl (cI, 378, .inl sa)), (a2, .inl (cI, 378, .inl asd)), (a3, .inl (cI, 1512, .inl sv)), (a4, .inl (cI, 120, .inl mt))]) ⟨hx, hb, hml, hown, hts⟩ (cX6_take_ok l G cI cG a0 a1 a2 a3 a4 th sa asd sv sm mt ln nx cd dg pw hs sm x2 ex2) (cwV 1 hts gX6_digest_X6_take rfl rfl rfl hdX6_take ⟨Nat.le_of_ble_eq_true rfl, Nat.le_of_ble_eq_true rfl⟩) hP hD hS hA hK 9 rfl rfl rfl [0, 1, 2, 3, 4] rfl rfl rfl rfl rfl rfl rfl rfl hl.1 (Nat.le_of_ble_eq_true rfl) dX6_digest_207 ⟨Nat.zero_le _, Nat.zero_le _⟩ (fun H locs hP hD hS => ?_)
        refine lv_aload_n hx hb dX6_digest_210 rfl (lv_at hl 0 rfl) ?_
        refine va_get (D := G) (ci := 9) (v := .long x2) (C := RX6) (T := TX6) (N := 12) hx hb hts hin6 hown hK.1 hP 0 rfl rfl 11 (by decide) hw3 (fun _ h9 => h9) rfl dX6_digest_211 ?_
        obtain rfl := o_s h
        rw [hQ]
        exact end_l hx hb hr rfl hP hD hS dX6_digest_214 hlocks
      · have h := o_f h hc
        refine lv_iconst (v := 0) hx hb dX6_digest_173 (by decide) ?_
        refine lv_istore_n (lv' := [(2, .int (0 : Int32)), (0, .ref a0), (1, .int v1)]) hx hb dX6_digest_174 rfl hl (by decide) rfl (fun ls hl => ?_)
        obtain ⟨y5, ey5, h⟩ := o_b h
        refine L175 y5 fu th hs v1 (0 : Int32) _ _ _ ey5 (fun H locs ls hP hD hS hl => ?_) hP hD hS (lv_sub hl [1, 2, 0] rfl)
        refine lv_iinc (v := (y5.2.2 + (-1))) (lv' := [(1, .int (y5.2.2 + (-1))), (0, .ref a0)]) hx hb dX6_digest_196 hl (k := 1) rfl rfl (by decide) rfl (fun ls hl => ?_)
        refine lv_goto (tgt := 169) hx hb dX6_digest_199 (by decide) ?_
        exact ih y5.1 y5.2.1 (y5.2.2 + (-1)) _ _ _ h hP hD hS (lv_sub hl [1, 0] rfl)
  have L129 : ∀ (k : Nat) (th : Int32) (hs : Int64) (v1 : Int32) (H : Heap) (locs : List Loc) (ls : Array Slot), fX6_digest_L129 fu sa sm ln k th hs v1 = some out → va_P G vwCl [(a0, .inr (9, [.int th, .ref a1, .ref a2, .ref a3, .int sm, .ref a4, .int ln, .int nx, .int cd, .int dg, .int pw, .long hs])), (a1, .inl (cI, 378, .inl sa)), (a2, .inl (cI, 378, .inl asd)), (a3, .inl (cI, 1512, .inl sv)), (a4, .inl (cI, 120, .inl mt))] H → va_D A [(a0, .inr (9, [.int th, .ref a1, .ref a2, .ref a3, .int sm, .ref a4, .int ln, .int nx, .int cd, .int dg, .int pw, .long hs])), (a1, .inl (cI, 378, .inl sa)), (a2, .inl (cI, 378, .inl asd)), (a3, .inl (cI, 1512, .inl sv)), (a4, .inl (cI, 120, .inl mt))] → va_S A s.heap H locs → lv_has ls 3 [(0, .ref a0), (1, .int v1)] → W p l e ({ frames := 4, cells := 0, slots := 0, locals := 90 } : Room) s m ([.ref a0] : List Value).toArray below meth c H locs 0 0 Q (F0 m 129 ls []) := by
    intro k
    induction k with
    | zero => intro th hs v1 H locs ls h hP hD hS hl; rw [fX6_digest_L129] at h; exact o_n h
    | succ k ih =>
      intro th hs v1 H locs ls h hP hD hS hl
      rw [fX6_digest_L129] at h
      refine lv_iload_n hx hb dX6_digest_129 rfl (lv_at hl 1 rfl) ?_
      refine lv_aload_n hx hb dX6_digest_130 rfl (lv_at hl 0 rfl) ?_
      refine va_get (D := G) (ci := 9) (v := .ref a1) (C := RX6) (T := TX6) (N := 12) hx hb hts hin6 hown hK.1 hP 0 rfl rfl 1 (by decide) hw5 (fun _ h9 => h9) rfl dX6_digest_131 ?_
      refine lv_bipush (v := 6) hx hb dX6_digest_134 (by decide) ?_
      obtain ⟨hin, h⟩ := o_g h
      refine va_iald hx hb hK.1 hP 1 0 rfl rfl hin dX6_digest_136 ?_
      refine lv_icmp_ge (tgt := 159) hx hb dX6_digest_137 (by decide) (fun hc => ?_) (fun hc => ?_)
      · have h := o_t h hc
        refine lv_aload_n hx hb dX6_digest_159 rfl (lv_at hl 0 rfl) ?_
        refine va_get (D := G) (ci := 9) (v := .ref a1) (C := RX6) (T := TX6) (N := 12) hx hb hts hin6 hown hK.1 hP 0 rfl rfl 1 (by decide) hw5 (fun _ h9 => h9) rfl dX6_digest_160 ?_
        refine lv_bipush (v := 8) hx hb dX6_digest_163 (by decide) ?_
        obtain ⟨hin, h⟩ := o_g h
        refine va_iald hx hb hK.1 hP 1 0 rfl rfl hin dX6_digest_165 ?_
        refine lv_iconst (v := 1) hx hb dX6_digest_166 (by decide) ?_
        refine lv_isub hx hb dX6_digest_167 ?_
        refine lv_istore_n (lv' := [(1, .int ((sa ((8 : Int32)).toNatClampNeg) - (1 : Int32))), (0, .ref a0)]) hx hb dX6_digest_168 rfl hl (by decide) rfl (fun ls hl => ?_)
        exact L169 fu th hs ((sa ((8 : Int32)).toNatClampNeg) - (1 : Int32)) _ _ _ h hP hD hS (lv_sub hl [1, 0] rfl)
      · have h := o_f h hc
        refine lv_aload_n hx hb dX6_digest_140 rfl (lv_at hl 0 rfl) ?_
        refine lv_aload_n hx hb dX6_digest_141 rfl (lv_at hl 0 rfl) ?_
        refine va_get (D := G) (ci := 9) (v := .ref a1) (C := RX6) (T := TX6) (N := 12) hx hb hts hin6 hown hK.1 hP 0 rfl rfl 1 (by decide) hw5 (fun _ h9 => h9) rfl dX6_digest_142 ?_
        refine lv_bipush (v := 72) hx hb dX6_digest_145 (by decide) ?_
        refine lv_iload_n hx hb dX6_digest_147 rfl (lv_at hl 1 rfl) ?_
        refine lv_iadd hx hb dX6_digest_148 ?_
        obtain ⟨hin, h⟩ := o_g h
        refine va_iald hx hb hK.1 hP 1 0 rfl rfl hin dX6_digest_149 ?_
        obtain ⟨x6, ex6, h⟩ := o_b h
        refine call_vV (As := [.int (sa (((72 : Int32) + v1)).toNatClampNeg)]) (rest := []) (ws2 := [(a0, .inr (9, [.int th, .ref a1, .ref a2, .ref a3, .int sm, .ref a4, .int ln, .int nx, .int cd, .int dg, .int pw, .long x6])), (a1, .inl (cI, 378, .inl sa)), (a2, .inl (cI, 378, .inl asd)), (a3, .inl (cI, 1512, .inl sv)), (a4, .inl (cI, 120, .inl mt))]) ⟨hx, hb, hml, hown, hts⟩ (cX6_take_ok l G cI cG a0 a1 a2 a3 a4 th sa asd sv sm mt ln nx cd dg pw hs (sa (((72 : Int32) + v1)).toNatClampNeg) x6 ex6) (cwV 1 hts gX6_digest_X6_take rfl rfl rfl hdX6_take ⟨Nat.le_of_ble_eq_true rfl, Nat.le_of_ble_eq_true rfl⟩) hP hD hS hA hK 9 rfl rfl rfl [0, 1, 2, 3, 4] rfl rfl rfl rfl rfl rfl rfl rfl hl.1 (Nat.le_of_ble_eq_true rfl) dX6_digest_150 ⟨Nat.zero_le _, Nat.zero_le _⟩ (fun H locs hP hD hS => ?_)
        refine lv_iinc (v := (v1 + 1)) (lv' := [(1, .int (v1 + 1)), (0, .ref a0)]) hx hb dX6_digest_153 hl (k := 1) rfl rfl (by decide) rfl (fun ls hl => ?_)
        refine lv_goto (tgt := 129) hx hb dX6_digest_156 (by decide) ?_
        exact ih th x6 (v1 + 1) _ _ _ h hP hD hS (lv_sub hl [1, 0] rfl)
  have L99 : ∀ (out99 : Int32 × Int64 × Int32) (k : Nat) (th : Int32) (hs : Int64) (v1 : Int32) (v2 : Int32) (H : Heap) (locs : List Loc) (ls : Array Slot), fX6_digest_L99 fu sa sm ln k th hs v1 v2 = some out99 → (∀ (H : Heap) (locs : List Loc) (ls : Array Slot), va_P G vwCl [(a0, .inr (9, [.int out99.1, .ref a1, .ref a2, .ref a3, .int sm, .ref a4, .int ln, .int nx, .int cd, .int dg, .int pw, .long out99.2.1])), (a1, .inl (cI, 378, .inl sa)), (a2, .inl (cI, 378, .inl asd)), (a3, .inl (cI, 1512, .inl sv)), (a4, .inl (cI, 120, .inl mt))] H → va_D A [(a0, .inr (9, [.int out99.1, .ref a1, .ref a2, .ref a3, .int sm, .ref a4, .int ln, .int nx, .int cd, .int dg, .int pw, .long out99.2.1])), (a1, .inl (cI, 378, .inl sa)), (a2, .inl (cI, 378, .inl asd)), (a3, .inl (cI, 1512, .inl sv)), (a4, .inl (cI, 120, .inl mt))] → va_S A s.heap H locs → lv_has ls 3 [(0, .ref a0), (1, .int out99.2.2)] → W p l e ({ frames := 4, cells := 0, slots := 0, locals := 90 } : Room) s m ([.ref a0] : List Value).toArray below meth c H locs 0 0 Q (F0 m 121 ls [])) → va_P G vwCl [(a0, .inr (9, [.int th, .ref a1, .ref a2, .ref a3, .int sm, .ref a4, .int ln, .int nx, .int cd, .int dg, .int pw, .long hs])), (a1, .inl (cI, 378, .inl sa)), (a2, .inl (cI, 378, .inl asd)), (a3, .inl (cI, 1512, .inl sv)), (a4, .inl (cI, 120, .inl mt))] H → va_D A [(a0, .inr (9, [.int th, .ref a1, .ref a2, .ref a3, .int sm, .ref a4, .int ln, .int nx, .int cd, .int dg, .int pw, .long hs])), (a1, .inl (cI, 378, .inl sa)), (a2, .inl (cI, 378, .inl asd)), (a3, .inl (cI, 1512, .inl sv)), (a4, .inl (cI, 120, .inl mt))] → va_S A s.heap H locs → lv_has ls 3 [(0, .ref a0), (1, .int v1), (2, .int v2)] → W p l e ({ frames := 4, cells := 0, slots := 0, locals := 90 } : Room) s m ([.ref a0] : List Value).toArray below meth c H locs 0 0 Q (F0 m 99 ls []) := by
    intro out99 k
    induction k with
    | zero => intro th hs v1 v2 H locs ls h kk hP hD hS hl; rw [fX6_digest_L99] at h; exact o_n h
    | succ k ih =>
      intro th hs v1 v2 H locs ls h kk hP hD hS hl
      rw [fX6_digest_L99] at h
      refine lv_iload_n hx hb dX6_digest_99 rfl (lv_at hl 2 rfl) ?_
      refine lv_bipush (v := 7) hx hb dX6_digest_100 (by decide) ?_
      refine lv_icmp_ge (tgt := 121) hx hb dX6_digest_102 (by decide) (fun hc => ?_) (fun hc => ?_)
      · have h := o_t h hc
        obtain rfl := o_s h
        exact kk _ _ _ hP hD hS (lv_sub hl [0, 1] rfl)
      · have h := o_f h hc
        refine lv_aload_n hx hb dX6_digest_105 rfl (lv_at hl 0 rfl) ?_
        refine lv_aload_n hx hb dX6_digest_106 rfl (lv_at hl 0 rfl) ?_
        refine lv_iload_n hx hb dX6_digest_107 rfl (lv_at hl 1 rfl) ?_
        refine lv_iload_n hx hb dX6_digest_108 rfl (lv_at hl 2 rfl) ?_
        obtain ⟨x7, ex7, h⟩ := o_b h
        refine call_iV (As := [.int v1, .int v2]) (rest := [.ref a0]) (ws2 := [(a0, .inr (9, [.int th, .ref a1, .ref a2, .ref a3, .int sm, .ref a4, .int ln, .int nx, .int cd, .int dg, .int pw, .long hs])), (a1, .inl (cI, 378, .inl sa)), (a2, .inl (cI, 378, .inl asd)), (a3, .inl (cI, 1512, .inl sv)), (a4, .inl (cI, 120, .inl mt))]) ⟨hx, hb, hml, hown, hts⟩ (cX6_ofEffect_ok l G cI cG a0 a1 a2 a3 a4 th sa asd sv sm mt ln nx cd dg pw hs v1 v2 x7 ex7) (cwV 2 hts gX6_digest_X6_ofEffect rfl rfl rfl hdX6_ofEffect ⟨Nat.le_of_ble_eq_true rfl, Nat.le_of_ble_eq_true rfl⟩) hP hD hS hA hK 9 rfl rfl rfl [0, 1, 2, 3, 4] rfl rfl rfl rfl rfl rfl rfl rfl hl.1 (Nat.le_of_ble_eq_true rfl) dX6_digest_109 ⟨Nat.zero_le _, Nat.zero_le _⟩ (fun H locs hP hD hS => ?_)
        obtain ⟨x8, ex8, h⟩ := o_b h
        refine call_vV (As := [.int x7]) (rest := []) (ws2 := [(a0, .inr (9, [.int th, .ref a1, .ref a2, .ref a3, .int sm, .ref a4, .int ln, .int nx, .int cd, .int dg, .int pw, .long x8])), (a1, .inl (cI, 378, .inl sa)), (a2, .inl (cI, 378, .inl asd)), (a3, .inl (cI, 1512, .inl sv)), (a4, .inl (cI, 120, .inl mt))]) ⟨hx, hb, hml, hown, hts⟩ (cX6_take_ok l G cI cG a0 a1 a2 a3 a4 th sa asd sv sm mt ln nx cd dg pw hs x7 x8 ex8) (cwV 1 hts gX6_digest_X6_take rfl rfl rfl hdX6_take ⟨Nat.le_of_ble_eq_true rfl, Nat.le_of_ble_eq_true rfl⟩) hP hD hS hA hK 9 rfl rfl rfl [0, 1, 2, 3, 4] rfl rfl rfl rfl rfl rfl rfl rfl hl.1 (Nat.le_of_ble_eq_true rfl) dX6_digest_112 ⟨Nat.zero_le _, Nat.zero_le _⟩ (fun H locs hP hD hS => ?_)
        refine lv_iinc (v := (v2 + 1)) (lv' := [(2, .int (v2 + 1)), (0, .ref a0), (1, .int v1)]) hx hb dX6_digest_115 hl (k := 2) rfl rfl (by decide) rfl (fun ls hl => ?_)
        refine lv_goto (tgt := 99) hx hb dX6_digest_118 (by decide) ?_
        exact ih th x8 v1 (v2 + 1) _ _ _ h kk hP hD hS (lv_sub hl [1, 2, 0] rfl)
  have L87 : ∀ (k : Nat) (th : Int32) (hs : Int64) (v1 : Int32) (H : Heap) (locs : List Loc) (ls : Array Slot), fX6_digest_L87 fu sa sm ln k th hs v1 = some out → va_P G vwCl [(a0, .inr (9, [.int th, .ref a1, .ref a2, .ref a3, .int sm, .ref a4, .int ln, .int nx, .int cd, .int dg, .int pw, .long hs])), (a1, .inl (cI, 378, .inl sa)), (a2, .inl (cI, 378, .inl asd)), (a3, .inl (cI, 1512, .inl sv)), (a4, .inl (cI, 120, .inl mt))] H → va_D A [(a0, .inr (9, [.int th, .ref a1, .ref a2, .ref a3, .int sm, .ref a4, .int ln, .int nx, .int cd, .int dg, .int pw, .long hs])), (a1, .inl (cI, 378, .inl sa)), (a2, .inl (cI, 378, .inl asd)), (a3, .inl (cI, 1512, .inl sv)), (a4, .inl (cI, 120, .inl mt))] → va_S A s.heap H locs → lv_has ls 3 [(0, .ref a0), (1, .int v1)] → W p l e ({ frames := 4, cells := 0, slots := 0, locals := 90 } : Room) s m ([.ref a0] : List Value).toArray below meth c H locs 0 0 Q (F0 m 87 ls []) := by
    intro k
    induction k with
    | zero => intro th hs v1 H locs ls h hP hD hS hl; rw [fX6_digest_L87] at h; exact o_n h
    | succ k ih =>
      intro th hs v1 H locs ls h hP hD hS hl
      rw [fX6_digest_L87] at h
      refine lv_iload_n hx hb dX6_digest_87 rfl (lv_at hl 1 rfl) ?_
      refine lv_aload_n hx hb dX6_digest_88 rfl (lv_at hl 0 rfl) ?_
      refine va_get (D := G) (ci := 9) (v := .ref a1) (C := RX6) (T := TX6) (N := 12) hx hb hts hin6 hown hK.1 hP 0 rfl rfl 1 (by decide) hw5 (fun _ h9 => h9) rfl dX6_digest_89 ?_
      refine lv_iconst (v := 1) hx hb dX6_digest_92 (by decide) ?_
      obtain ⟨hin, h⟩ := o_g h
      refine va_iald hx hb hK.1 hP 1 0 rfl rfl hin dX6_digest_93 ?_
      refine lv_icmp_ge (tgt := 127) hx hb dX6_digest_94 (by decide) (fun hc => ?_) (fun hc => ?_)
      · have h := o_t h hc
        refine lv_iconst (v := 0) hx hb dX6_digest_127 (by decide) ?_
        refine lv_istore_n (lv' := [(1, .int (0 : Int32)), (0, .ref a0)]) hx hb dX6_digest_128 rfl hl (by decide) rfl (fun ls hl => ?_)
        exact L129 fu th hs (0 : Int32) _ _ _ h hP hD hS (lv_sub hl [1, 0] rfl)
      · have h := o_f h hc
        refine lv_iconst (v := 0) hx hb dX6_digest_97 (by decide) ?_
        refine lv_istore_n (lv' := [(2, .int (0 : Int32)), (0, .ref a0), (1, .int v1)]) hx hb dX6_digest_98 rfl hl (by decide) rfl (fun ls hl => ?_)
        obtain ⟨y9, ey9, h⟩ := o_b h
        refine L99 y9 fu th hs v1 (0 : Int32) _ _ _ ey9 (fun H locs ls hP hD hS hl => ?_) hP hD hS (lv_sub hl [1, 2, 0] rfl)
        refine lv_iinc (v := (y9.2.2 + 1)) (lv' := [(1, .int (y9.2.2 + 1)), (0, .ref a0)]) hx hb dX6_digest_121 hl (k := 1) rfl rfl (by decide) rfl (fun ls hl => ?_)
        refine lv_goto (tgt := 87) hx hb dX6_digest_124 (by decide) ?_
        exact ih y9.1 y9.2.1 (y9.2.2 + 1) _ _ _ h hP hD hS (lv_sub hl [1, 0] rfl)
  have L57 : ∀ (out57 : Int32 × Int64 × Int32) (k : Nat) (th : Int32) (hs : Int64) (v1 : Int32) (v2 : Int32) (H : Heap) (locs : List Loc) (ls : Array Slot), fX6_digest_L57 fu sa sm ln k th hs v1 v2 = some out57 → (∀ (H : Heap) (locs : List Loc) (ls : Array Slot), va_P G vwCl [(a0, .inr (9, [.int out57.1, .ref a1, .ref a2, .ref a3, .int sm, .ref a4, .int ln, .int nx, .int cd, .int dg, .int pw, .long out57.2.1])), (a1, .inl (cI, 378, .inl sa)), (a2, .inl (cI, 378, .inl asd)), (a3, .inl (cI, 1512, .inl sv)), (a4, .inl (cI, 120, .inl mt))] H → va_D A [(a0, .inr (9, [.int out57.1, .ref a1, .ref a2, .ref a3, .int sm, .ref a4, .int ln, .int nx, .int cd, .int dg, .int pw, .long out57.2.1])), (a1, .inl (cI, 378, .inl sa)), (a2, .inl (cI, 378, .inl asd)), (a3, .inl (cI, 1512, .inl sv)), (a4, .inl (cI, 120, .inl mt))] → va_S A s.heap H locs → lv_has ls 3 [(0, .ref a0), (1, .int out57.2.2)] → W p l e ({ frames := 4, cells := 0, slots := 0, locals := 90 } : Room) s m ([.ref a0] : List Value).toArray below meth c H locs 0 0 Q (F0 m 79 ls [])) → va_P G vwCl [(a0, .inr (9, [.int th, .ref a1, .ref a2, .ref a3, .int sm, .ref a4, .int ln, .int nx, .int cd, .int dg, .int pw, .long hs])), (a1, .inl (cI, 378, .inl sa)), (a2, .inl (cI, 378, .inl asd)), (a3, .inl (cI, 1512, .inl sv)), (a4, .inl (cI, 120, .inl mt))] H → va_D A [(a0, .inr (9, [.int th, .ref a1, .ref a2, .ref a3, .int sm, .ref a4, .int ln, .int nx, .int cd, .int dg, .int pw, .long hs])), (a1, .inl (cI, 378, .inl sa)), (a2, .inl (cI, 378, .inl asd)), (a3, .inl (cI, 1512, .inl sv)), (a4, .inl (cI, 120, .inl mt))] → va_S A s.heap H locs → lv_has ls 3 [(0, .ref a0), (1, .int v1), (2, .int v2)] → W p l e ({ frames := 4, cells := 0, slots := 0, locals := 90 } : Room) s m ([.ref a0] : List Value).toArray below meth c H locs 0 0 Q (F0 m 57 ls []) := by
    intro out57 k
    induction k with
    | zero => intro th hs v1 v2 H locs ls h kk hP hD hS hl; rw [fX6_digest_L57] at h; exact o_n h
    | succ k ih =>
      intro th hs v1 v2 H locs ls h kk hP hD hS hl
      rw [fX6_digest_L57] at h
      refine lv_iload_n hx hb dX6_digest_57 rfl (lv_at hl 2 rfl) ?_
      refine lv_bipush (v := 9) hx hb dX6_digest_58 (by decide) ?_
      refine lv_icmp_ge (tgt := 79) hx hb dX6_digest_60 (by decide) (fun hc => ?_) (fun hc => ?_)
      · have h := o_t h hc
        obtain rfl := o_s h
        exact kk _ _ _ hP hD hS (lv_sub hl [0, 1] rfl)
      · have h := o_f h hc
        refine lv_aload_n hx hb dX6_digest_63 rfl (lv_at hl 0 rfl) ?_
        refine lv_aload_n hx hb dX6_digest_64 rfl (lv_at hl 0 rfl) ?_
        refine lv_iload_n hx hb dX6_digest_65 rfl (lv_at hl 1 rfl) ?_
        refine lv_iload_n hx hb dX6_digest_66 rfl (lv_at hl 2 rfl) ?_
        obtain ⟨x10, ex10, h⟩ := o_b h
        refine call_iV (As := [.int v1, .int v2]) (rest := [.ref a0]) (ws2 := [(a0, .inr (9, [.int th, .ref a1, .ref a2, .ref a3, .int sm, .ref a4, .int ln, .int nx, .int cd, .int dg, .int pw, .long hs])), (a1, .inl (cI, 378, .inl sa)), (a2, .inl (cI, 378, .inl asd)), (a3, .inl (cI, 1512, .inl sv)), (a4, .inl (cI, 120, .inl mt))]) ⟨hx, hb, hml, hown, hts⟩ (cX6_valueOfFighter_ok l G cI cG a0 a1 a2 a3 a4 fu th sa asd sv sm mt ln nx cd dg pw hs v1 v2 x10 ex10) (cwV 2 hts gX6_digest_X6_valueOfFighter rfl rfl rfl hdX6_valueOfFighter ⟨Nat.le_of_ble_eq_true rfl, Nat.le_of_ble_eq_true rfl⟩) hP hD hS hA hK 9 rfl rfl rfl [0, 1, 2, 3, 4] rfl rfl rfl rfl rfl rfl rfl rfl hl.1 (Nat.le_of_ble_eq_true rfl) dX6_digest_67 ⟨Nat.zero_le _, Nat.zero_le _⟩ (fun H locs hP hD hS => ?_)
        obtain ⟨x11, ex11, h⟩ := o_b h
        refine call_vV (As := [.int x10]) (rest := []) (ws2 := [(a0, .inr (9, [.int th, .ref a1, .ref a2, .ref a3, .int sm, .ref a4, .int ln, .int nx, .int cd, .int dg, .int pw, .long x11])), (a1, .inl (cI, 378, .inl sa)), (a2, .inl (cI, 378, .inl asd)), (a3, .inl (cI, 1512, .inl sv)), (a4, .inl (cI, 120, .inl mt))]) ⟨hx, hb, hml, hown, hts⟩ (cX6_take_ok l G cI cG a0 a1 a2 a3 a4 th sa asd sv sm mt ln nx cd dg pw hs x10 x11 ex11) (cwV 1 hts gX6_digest_X6_take rfl rfl rfl hdX6_take ⟨Nat.le_of_ble_eq_true rfl, Nat.le_of_ble_eq_true rfl⟩) hP hD hS hA hK 9 rfl rfl rfl [0, 1, 2, 3, 4] rfl rfl rfl rfl rfl rfl rfl rfl hl.1 (Nat.le_of_ble_eq_true rfl) dX6_digest_70 ⟨Nat.zero_le _, Nat.zero_le _⟩ (fun H locs hP hD hS => ?_)
        refine lv_iinc (v := (v2 + 1)) (lv' := [(2, .int (v2 + 1)), (0, .ref a0), (1, .int v1)]) hx hb dX6_digest_73 hl (k := 2) rfl rfl (by decide) rfl (fun ls hl => ?_)
        refine lv_goto (tgt := 57) hx hb dX6_digest_76 (by decide) ?_
        exact ih th x11 v1 (v2 + 1) _ _ _ h kk hP hD hS (lv_sub hl [1, 2, 0] rfl)
  have L45 : ∀ (k : Nat) (th : Int32) (hs : Int64) (v1 : Int32) (H : Heap) (locs : List Loc) (ls : Array Slot), fX6_digest_L45 fu sa sm ln k th hs v1 = some out → va_P G vwCl [(a0, .inr (9, [.int th, .ref a1, .ref a2, .ref a3, .int sm, .ref a4, .int ln, .int nx, .int cd, .int dg, .int pw, .long hs])), (a1, .inl (cI, 378, .inl sa)), (a2, .inl (cI, 378, .inl asd)), (a3, .inl (cI, 1512, .inl sv)), (a4, .inl (cI, 120, .inl mt))] H → va_D A [(a0, .inr (9, [.int th, .ref a1, .ref a2, .ref a3, .int sm, .ref a4, .int ln, .int nx, .int cd, .int dg, .int pw, .long hs])), (a1, .inl (cI, 378, .inl sa)), (a2, .inl (cI, 378, .inl asd)), (a3, .inl (cI, 1512, .inl sv)), (a4, .inl (cI, 120, .inl mt))] → va_S A s.heap H locs → lv_has ls 3 [(0, .ref a0), (1, .int v1)] → W p l e ({ frames := 4, cells := 0, slots := 0, locals := 90 } : Room) s m ([.ref a0] : List Value).toArray below meth c H locs 0 0 Q (F0 m 45 ls []) := by
    intro k
    induction k with
    | zero => intro th hs v1 H locs ls h hP hD hS hl; rw [fX6_digest_L45] at h; exact o_n h
    | succ k ih =>
      intro th hs v1 H locs ls h hP hD hS hl
      rw [fX6_digest_L45] at h
      refine lv_iload_n hx hb dX6_digest_45 rfl (lv_at hl 1 rfl) ?_
      refine lv_aload_n hx hb dX6_digest_46 rfl (lv_at hl 0 rfl) ?_
      refine va_get (D := G) (ci := 9) (v := .ref a1) (C := RX6) (T := TX6) (N := 12) hx hb hts hin6 hown hK.1 hP 0 rfl rfl 1 (by decide) hw5 (fun _ h9 => h9) rfl dX6_digest_47 ?_
      refine lv_iconst (v := 0) hx hb dX6_digest_50 (by decide) ?_
      obtain ⟨hin, h⟩ := o_g h
      refine va_iald hx hb hK.1 hP 1 0 rfl rfl hin dX6_digest_51 ?_
      refine lv_icmp_ge (tgt := 85) hx hb dX6_digest_52 (by decide) (fun hc => ?_) (fun hc => ?_)
      · have h := o_t h hc
        refine lv_iconst (v := 0) hx hb dX6_digest_85 (by decide) ?_
        refine lv_istore_n (lv' := [(1, .int (0 : Int32)), (0, .ref a0)]) hx hb dX6_digest_86 rfl hl (by decide) rfl (fun ls hl => ?_)
        exact L87 fu th hs (0 : Int32) _ _ _ h hP hD hS (lv_sub hl [1, 0] rfl)
      · have h := o_f h hc
        refine lv_iconst (v := 0) hx hb dX6_digest_55 (by decide) ?_
        refine lv_istore_n (lv' := [(2, .int (0 : Int32)), (0, .ref a0), (1, .int v1)]) hx hb dX6_digest_56 rfl hl (by decide) rfl (fun ls hl => ?_)
        obtain ⟨y12, ey12, h⟩ := o_b h
        refine L57 y12 fu th hs v1 (0 : Int32) _ _ _ ey12 (fun H locs ls hP hD hS hl => ?_) hP hD hS (lv_sub hl [1, 2, 0] rfl)
        refine lv_iinc (v := (y12.2.2 + 1)) (lv' := [(1, .int (y12.2.2 + 1)), (0, .ref a0)]) hx hb dX6_digest_79 hl (k := 1) rfl rfl (by decide) rfl (fun ls hl => ?_)
        refine lv_goto (tgt := 45) hx hb dX6_digest_82 (by decide) ?_
        exact ih y12.1 y12.2.1 (y12.2.2 + 1) _ _ _ h hP hD hS (lv_sub hl [1, 0] rfl)
  have L22 : ∀ (k : Nat) (th : Int32) (hs : Int64) (v1 : Int32) (H : Heap) (locs : List Loc) (ls : Array Slot), fX6_digest_L22 fu sa sm ln k th hs v1 = some out → va_P G vwCl [(a0, .inr (9, [.int th, .ref a1, .ref a2, .ref a3, .int sm, .ref a4, .int ln, .int nx, .int cd, .int dg, .int pw, .long hs])), (a1, .inl (cI, 378, .inl sa)), (a2, .inl (cI, 378, .inl asd)), (a3, .inl (cI, 1512, .inl sv)), (a4, .inl (cI, 120, .inl mt))] H → va_D A [(a0, .inr (9, [.int th, .ref a1, .ref a2, .ref a3, .int sm, .ref a4, .int ln, .int nx, .int cd, .int dg, .int pw, .long hs])), (a1, .inl (cI, 378, .inl sa)), (a2, .inl (cI, 378, .inl asd)), (a3, .inl (cI, 1512, .inl sv)), (a4, .inl (cI, 120, .inl mt))] → va_S A s.heap H locs → lv_has ls 3 [(0, .ref a0), (1, .int v1)] → W p l e ({ frames := 4, cells := 0, slots := 0, locals := 90 } : Room) s m ([.ref a0] : List Value).toArray below meth c H locs 0 0 Q (F0 m 22 ls []) := by
    intro k
    induction k with
    | zero => intro th hs v1 H locs ls h hP hD hS hl; rw [fX6_digest_L22] at h; exact o_n h
    | succ k ih =>
      intro th hs v1 H locs ls h hP hD hS hl
      rw [fX6_digest_L22] at h
      refine lv_iload_n hx hb dX6_digest_22 rfl (lv_at hl 1 rfl) ?_
      refine lv_bipush (v := 9) hx hb dX6_digest_23 (by decide) ?_
      refine lv_icmp_ge (tgt := 43) hx hb dX6_digest_25 (by decide) (fun hc => ?_) (fun hc => ?_)
      · have h := o_t h hc
        refine lv_iconst (v := 0) hx hb dX6_digest_43 (by decide) ?_
        refine lv_istore_n (lv' := [(1, .int (0 : Int32)), (0, .ref a0)]) hx hb dX6_digest_44 rfl hl (by decide) rfl (fun ls hl => ?_)
        exact L45 fu th hs (0 : Int32) _ _ _ h hP hD hS (lv_sub hl [1, 0] rfl)
      · have h := o_f h hc
        refine lv_aload_n hx hb dX6_digest_28 rfl (lv_at hl 0 rfl) ?_
        refine lv_aload_n hx hb dX6_digest_29 rfl (lv_at hl 0 rfl) ?_
        refine lv_iload_n hx hb dX6_digest_30 rfl (lv_at hl 1 rfl) ?_
        obtain ⟨x13, ex13, h⟩ := o_b h
        refine call_iV (As := [.int v1]) (rest := [.ref a0]) (ws2 := [(a0, .inr (9, [.int th, .ref a1, .ref a2, .ref a3, .int sm, .ref a4, .int ln, .int nx, .int cd, .int dg, .int pw, .long hs])), (a1, .inl (cI, 378, .inl sa)), (a2, .inl (cI, 378, .inl asd)), (a3, .inl (cI, 1512, .inl sv)), (a4, .inl (cI, 120, .inl mt))]) ⟨hx, hb, hml, hown, hts⟩ (cX6_valueOf_ok l G cI cG a0 a1 a2 a3 a4 fu th sa asd sv sm mt ln nx cd dg pw hs v1 x13 ex13) (cwV 1 hts gX6_digest_X6_valueOf rfl rfl rfl hdX6_valueOf ⟨Nat.le_of_ble_eq_true rfl, Nat.le_of_ble_eq_true rfl⟩) hP hD hS hA hK 9 rfl rfl rfl [0, 1, 2, 3, 4] rfl rfl rfl rfl rfl rfl rfl rfl hl.1 (Nat.le_of_ble_eq_true rfl) dX6_digest_31 ⟨Nat.zero_le _, Nat.zero_le _⟩ (fun H locs hP hD hS => ?_)
        obtain ⟨x14, ex14, h⟩ := o_b h
        refine call_vV (As := [.int x13]) (rest := []) (ws2 := [(a0, .inr (9, [.int th, .ref a1, .ref a2, .ref a3, .int sm, .ref a4, .int ln, .int nx, .int cd, .int dg, .int pw, .long x14])), (a1, .inl (cI, 378, .inl sa)), (a2, .inl (cI, 378, .inl asd)), (a3, .inl (cI, 1512, .inl sv)), (a4, .inl (cI, 120, .inl mt))]) ⟨hx, hb, hml, hown, hts⟩ (cX6_take_ok l G cI cG a0 a1 a2 a3 a4 th sa asd sv sm mt ln nx cd dg pw hs x13 x14 ex14) (cwV 1 hts gX6_digest_X6_take rfl rfl rfl hdX6_take ⟨Nat.le_of_ble_eq_true rfl, Nat.le_of_ble_eq_true rfl⟩) hP hD hS hA hK 9 rfl rfl rfl [0, 1, 2, 3, 4] rfl rfl rfl rfl rfl rfl rfl rfl hl.1 (Nat.le_of_ble_eq_true rfl) dX6_digest_34 ⟨Nat.zero_le _, Nat.zero_le _⟩ (fun H locs hP hD hS => ?_)
        refine lv_iinc (v := (v1 + 1)) (lv' := [(1, .int (v1 + 1)), (0, .ref a0)]) hx hb dX6_digest_37 hl (k := 1) rfl rfl (by decide) rfl (fun ls hl => ?_)
        refine lv_goto (tgt := 22) hx hb dX6_digest_40 (by decide) ?_
        exact ih th x14 (v1 + 1) _ _ _ h hP hD hS (lv_sub hl [1, 0] rfl)
  have h := hf
  rw [fX6_digest] at h
  have hl := lv_entry ([.ref a0]) (n := 3) (Nat.le_of_ble_eq_true rfl)
  rw [lg_entry_eq]
  generalize (lg_sl ([.ref a0]) ++ List.replicate (3 - (lg_sl ([.ref a0])).length) Slot.unset).toArray = ls at hl ⊢
  have hl : lv_has ls 3 [(0, .ref a0)] := hl
  refine lv_aload_n hx hb dX6_digest_0 rfl (lv_at hl 0 rfl) ?_
  refine lv_iconst (v := 0) hx hb dX6_digest_1 (by decide) ?_
  refine va_put (D := G) (ci := 9) (v := .int (0 : Int32)) (ty := .int) (C := RX6) (T := TX6) (N := 12) hx hb hts hin6 tyX6 tyX6_ok nmX6 hown hK.1 hP hD hS 0 rfl rfl 0 (by decide) hw0 (fun _ h9 => h9) rfl (by decide +kernel) rfl rfl (Nat.le_of_ble_eq_true rfl) dX6_digest_2 (fun H locs hP hD hS => ?_)
  have hP : va_P G vwCl [(a0, .inr (9, [.int (0 : Int32), .ref a1, .ref a2, .ref a3, .int sm, .ref a4, .int ln, .int nx, .int cd, .int dg, .int pw, .long hs])), (a1, .inl (cI, 378, .inl sa)), (a2, .inl (cI, 378, .inl asd)), (a3, .inl (cI, 1512, .inl sv)), (a4, .inl (cI, 120, .inl mt))] H := hP
  have hD : va_D A [(a0, .inr (9, [.int (0 : Int32), .ref a1, .ref a2, .ref a3, .int sm, .ref a4, .int ln, .int nx, .int cd, .int dg, .int pw, .long hs])), (a1, .inl (cI, 378, .inl sa)), (a2, .inl (cI, 378, .inl asd)), (a3, .inl (cI, 1512, .inl sv)), (a4, .inl (cI, 120, .inl mt))] := hD
  refine lv_aload_n hx hb dX6_digest_5 rfl (lv_at hl 0 rfl) ?_
  refine lv_ldc2 (v := 3343) hx hb hown hw2 dX6_digest_6 ?_
  refine va_put (D := G) (ci := 9) (v := .long (3343 : Int64)) (ty := .long) (C := RX6) (T := TX6) (N := 12) hx hb hts hin6 tyX6 tyX6_ok nmX6 hown hK.1 hP hD hS 0 rfl rfl 11 (by decide) hw3 (fun _ h9 => h9) rfl (by decide +kernel) rfl rfl (Nat.le_of_ble_eq_true rfl) dX6_digest_9 (fun H locs hP hD hS => ?_)
  have hP : va_P G vwCl [(a0, .inr (9, [.int (0 : Int32), .ref a1, .ref a2, .ref a3, .int sm, .ref a4, .int ln, .int nx, .int cd, .int dg, .int pw, .long (3343 : Int64)])), (a1, .inl (cI, 378, .inl sa)), (a2, .inl (cI, 378, .inl asd)), (a3, .inl (cI, 1512, .inl sv)), (a4, .inl (cI, 120, .inl mt))] H := hP
  have hD : va_D A [(a0, .inr (9, [.int (0 : Int32), .ref a1, .ref a2, .ref a3, .int sm, .ref a4, .int ln, .int nx, .int cd, .int dg, .int pw, .long (3343 : Int64)])), (a1, .inl (cI, 378, .inl sa)), (a2, .inl (cI, 378, .inl asd)), (a3, .inl (cI, 1512, .inl sv)), (a4, .inl (cI, 120, .inl mt))] := hD
  refine lv_aload_n hx hb dX6_digest_12 rfl (lv_at hl 0 rfl) ?_
  refine lv_aload_n hx hb dX6_digest_13 rfl (lv_at hl 0 rfl) ?_
  refine va_get (D := G) (ci := 9) (v := .int ln) (C := RX6) (T := TX6) (N := 12) hx hb hts hin6 hown hK.1 hP 0 rfl rfl 6 (by decide) hw4 (fun _ h9 => h9) rfl dX6_digest_14 ?_
  obtain ⟨x1, ex1, h⟩ := o_b h
  refine call_vV (As := [.int ln]) (rest := []) (ws2 := [(a0, .inr (9, [.int (0 : Int32), .ref a1, .ref a2, .ref a3, .int sm, .ref a4, .int ln, .int nx, .int cd, .int dg, .int pw, .long x1])), (a1, .inl (cI, 378, .inl sa)), (a2, .inl (cI, 378, .inl asd)), (a3, .inl (cI, 1512, .inl sv)), (a4, .inl (cI, 120, .inl mt))]) ⟨hx, hb, hml, hown, hts⟩ (cX6_take_ok l G cI cG a0 a1 a2 a3 a4 (0 : Int32) sa asd sv sm mt ln nx cd dg pw (3343 : Int64) ln x1 ex1) (cwV 1 hts gX6_digest_X6_take rfl rfl rfl hdX6_take ⟨Nat.le_of_ble_eq_true rfl, Nat.le_of_ble_eq_true rfl⟩) hP hD hS hA hK 9 rfl rfl rfl [0, 1, 2, 3, 4] rfl rfl rfl rfl rfl rfl rfl rfl hl.1 (Nat.le_of_ble_eq_true rfl) dX6_digest_17 ⟨Nat.zero_le _, Nat.zero_le _⟩ (fun H locs hP hD hS => ?_)
  refine lv_iconst (v := 0) hx hb dX6_digest_20 (by decide) ?_
  refine lv_istore_n (lv' := [(1, .int (0 : Int32)), (0, .ref a0)]) hx hb dX6_digest_21 rfl hl (by decide) rfl (fun ls hl => ?_)
  exact L22 fu (0 : Int32) x1 (0 : Int32) _ _ _ h hP hD hS (lv_sub hl [1, 0] rfl)
