theorem hdX1_copyFrom : yX1_copyFrom.cls = RX1 ∧ yX1_copyFrom.cls ≠ "java/lang/invoke/MethodHandle" ∧ yX1_copyFrom.cls ≠ "java/lang/invoke/VarHandle" ∧ (parseMethodDescriptor yX1_copyFrom.desc).map (fun d => d.parameters.length) = some 1 := by decide +kernel
set_option maxHeartbeats 4000000 in
set_option maxRecDepth 100000 in
theorem cX1_copyFrom_ok (l : Launch) (G : va_G) (cI cG : ClassId) (a0 a1 a2 a3 a4 a5 a6 a7 a8 a9 b0 b1 b2 b3 b4 b5 b6 b7 b8 b9 : Nat) (ft : Tab) (er : Tab) (eb : Int32) (li : Tab) (st : Tab) (rd : Int32) (tu : Int32) (la : Int32) (dl : Bool) (sh : Int32) (tb : Int32) (o_ft : Tab) (o_er : Tab) (o_eb : Int32) (o_li : Tab) (o_st : Tab) (o_rd : Int32) (o_tu : Int32) (o_la : Int32) (o_dl : Bool) (o_sh : Int32) (o_tb : Int32) (out : Tab × Tab × Int32 × Tab × Tab × Int32 × Int32 × Int32 × Bool × Int32 × Int32) (hf : fX1_copyFrom ft er eb li st rd tu la dl sh tb o_ft o_er o_eb o_li o_st o_rd o_tu o_la o_dl o_sh o_tb = some out) : CV l G (tyz cI cG) yX1_copyFrom wsX1_copyFrom ({ frames := 3, cells := 0, slots := 0, locals := 102 } : Room) [.ref a0, .ref b0] [(a0, .inr (1, [.ref a1, .ref a3, .ref a6, .ref a8, .int rd, .int tu, .int la, .int (bI dl), .int sh, .int tb])), (a1, .inr (4, [.int ft.1, .ref a2, .int ft.2.2.2])), (a2, .inl (cI, ft.2.1, .inl ft.2.2.1)), (a3, .inr (0, [.ref a4, .int eb])), (a4, .inr (4, [.int er.1, .ref a5, .int er.2.2.2])), (a5, .inl (cI, er.2.1, .inl er.2.2.1)), (a6, .inr (4, [.int li.1, .ref a7, .int li.2.2.2])), (a7, .inl (cI, li.2.1, .inl li.2.2.1)), (a8, .inr (4, [.int st.1, .ref a9, .int st.2.2.2])), (a9, .inl (cI, st.2.1, .inl st.2.2.1)), (b0, .inr (1, [.ref b1, .ref b3, .ref b6, .ref b8, .int o_rd, .int o_tu, .int o_la, .int (bI o_dl), .int o_sh, .int o_tb])), (b1, .inr (4, [.int o_ft.1, .ref b2, .int o_ft.2.2.2])), (b2, .inl (cI, o_ft.2.1, .inl o_ft.2.2.1)), (b3, .inr (0, [.ref b4, .int o_eb])), (b4, .inr (4, [.int o_er.1, .ref b5, .int o_er.2.2.2])), (b5, .inl (cI, o_er.2.1, .inl o_er.2.2.1)), (b6, .inr (4, [.int o_li.1, .ref b7, .int o_li.2.2.2])), (b7, .inl (cI, o_li.2.1, .inl o_li.2.2.1)), (b8, .inr (4, [.int o_st.1, .ref b9, .int o_st.2.2.2])), (b9, .inl (cI, o_st.2.1, .inl o_st.2.2.1))] [(a0, .inr (1, [.ref a1, .ref a3, .ref a6, .ref a8, .int out.2.2.2.2.2.1, .int out.2.2.2.2.2.2.1, .int out.2.2.2.2.2.2.2.1, .int (bI out.2.2.2.2.2.2.2.2.1), .int out.2.2.2.2.2.2.2.2.2.1, .int out.2.2.2.2.2.2.2.2.2.2])), (a1, .inr (4, [.int out.1.1, .ref a2, .int out.1.2.2.2])), (a2, .inl (cI, out.1.2.1, .inl out.1.2.2.1)), (a3, .inr (0, [.ref a4, .int out.2.2.1])), (a4, .inr (4, [.int out.2.1.1, .ref a5, .int out.2.1.2.2.2])), (a5, .inl (cI, out.2.1.2.1, .inl out.2.1.2.2.1)), (a6, .inr (4, [.int out.2.2.2.1.1, .ref a7, .int out.2.2.2.1.2.2.2])), (a7, .inl (cI, out.2.2.2.1.2.1, .inl out.2.2.2.1.2.2.1)), (a8, .inr (4, [.int out.2.2.2.2.1.1, .ref a9, .int out.2.2.2.2.1.2.2.2])), (a9, .inl (cI, out.2.2.2.2.1.2.1, .inl out.2.2.2.2.1.2.2.1)), (b0, .inr (1, [.ref b1, .ref b3, .ref b6, .ref b8, .int o_rd, .int o_tu, .int o_la, .int (bI o_dl), .int o_sh, .int o_tb])), (b1, .inr (4, [.int o_ft.1, .ref b2, .int o_ft.2.2.2])), (b2, .inl (cI, o_ft.2.1, .inl o_ft.2.2.1)), (b3, .inr (0, [.ref b4, .int o_eb])), (b4, .inr (4, [.int o_er.1, .ref b5, .int o_er.2.2.2])), (b5, .inl (cI, o_er.2.1, .inl o_er.2.2.1)), (b6, .inr (4, [.int o_li.1, .ref b7, .int o_li.2.2.2])), (b7, .inl (cI, o_li.2.1, .inl o_li.2.2.1)), (b8, .inr (4, [.int o_st.1, .ref b9, .int o_st.2.2.2])), (b9, .inl (cI, o_st.2.1, .inl o_st.2.2.1))] := by
  intro sz
  refine Met.ofW (cc := cX1_copyFrom) (maxL := 2) (ret := none) (by decide) rfl ?_
  intro p e s m args below meth c s₁ B hml hv
  obtain ⟨rfl, hsz, hP, hK, hD0⟩ := hv
  have hx := B.exec
  have hb := B.bytes
  have hr := B.returns
  have hts := atoms_spec (ws := wsX1_copyFrom) B.pre
  have hown : s.vm.findClass RX1 = some m.cls := findClass_of_methodNamed B.named
  have hlocks := B.notSynchronized
  subst hsz
  have hD := hD0.self (sz := s.heap.size)
  generalize hAe : va_A ([(a0, .inr (1, [.ref a1, .ref a3, .ref a6, .ref a8, .int rd, .int tu, .int la, .int (bI dl), .int sh, .int tb])), (a1, .inr (4, [.int ft.1, .ref a2, .int ft.2.2.2])), (a2, .inl (cI, ft.2.1, .inl ft.2.2.1)), (a3, .inr (0, [.ref a4, .int eb])), (a4, .inr (4, [.int er.1, .ref a5, .int er.2.2.2])), (a5, .inl (cI, er.2.1, .inl er.2.2.1)), (a6, .inr (4, [.int li.1, .ref a7, .int li.2.2.2])), (a7, .inl (cI, li.2.1, .inl li.2.2.1)), (a8, .inr (4, [.int st.1, .ref a9, .int st.2.2.2])), (a9, .inl (cI, st.2.1, .inl st.2.2.1)), (b0, .inr (1, [.ref b1, .ref b3, .ref b6, .ref b8, .int o_rd, .int o_tu, .int o_la, .int (bI o_dl), .int o_sh, .int o_tb])), (b1, .inr (4, [.int o_ft.1, .ref b2, .int o_ft.2.2.2])), (b2, .inl (cI, o_ft.2.1, .inl o_ft.2.2.1)), (b3, .inr (0, [.ref b4, .int o_eb])), (b4, .inr (4, [.int o_er.1, .ref b5, .int o_er.2.2.2])), (b5, .inl (cI, o_er.2.1, .inl o_er.2.2.1)), (b6, .inr (4, [.int o_li.1, .ref b7, .int o_li.2.2.2])), (b7, .inl (cI, o_li.2.1, .inl o_li.2.2.1)), (b8, .inr (4, [.int o_st.1, .ref b9, .int o_st.2.2.2])), (b9, .inl (cI, o_st.2.1, .inl o_st.2.2.1))]) s.heap.size = A at hD ⊢
  have hA : ∀ q : Nat, s.heap.size ≤ q → A q := fun q h => by rw [← hAe]; exact Or.inr h
  have hS : va_S A s.heap s.heap [] := va_S.rf
  have hw0 := hts (.fieldLink RX1 16 "SpeedTurns$Game" "fighters" "LSpeedTurns$Table;") (List.mem_of_getElem? (i := 1) rfl)
  have hw1 := hts (.fieldLink RX1 23 "SpeedTurns$Game" "effects" "LSpeedTurns$Effects;") (List.mem_of_getElem? (i := 6) rfl)
  have hw2 := hts (.fieldLink RX1 27 "SpeedTurns$Game" "list" "LSpeedTurns$Table;") (List.mem_of_getElem? (i := 11) rfl)
  have hw3 := hts (.fieldLink RX1 30 "SpeedTurns$Game" "stack" "LSpeedTurns$Table;") (List.mem_of_getElem? (i := 12) rfl)
  have hw4 := hts (.fieldLink RX1 33 "SpeedTurns$Game" "round" "I") (List.mem_of_getElem? (i := 13) rfl)
  have hw5 := hts (.fieldLink RX1 37 "SpeedTurns$Game" "turn" "I") (List.mem_of_getElem? (i := 14) rfl)
  have hw6 := hts (.fieldLink RX1 40 "SpeedTurns$Game" "latest" "I") (List.mem_of_getElem? (i := 15) rfl)
  have hw7 := hts (.fieldLink RX1 43 "SpeedTurns$Game" "delayable" "Z") (List.mem_of_getElem? (i := 16) rfl)
  have hw8 := hts (.fieldLink RX1 47 "SpeedTurns$Game" "shock" "I") (List.mem_of_getElem? (i := 17) rfl)
  have hw9 := hts (.fieldLink RX1 50 "SpeedTurns$Game" "turnsBegun" "I") (List.mem_of_getElem? (i := 18) rfl)
  show W p l e ({ frames := 3, cells := 0, slots := 0, locals := 102 } : Room) s m _ below meth c s.heap [] 0 0 _ _
  refine W_genQ (fun Q hQ => ?_)
  have h := hf
  rw [fX1_copyFrom] at h
  have hl := lv_entry ([.ref a0, .ref b0]) (n := 2) (Nat.le_of_ble_eq_true rfl)
  rw [lg_entry_eq]
  generalize (lg_sl ([.ref a0, .ref b0]) ++ List.replicate (2 - (lg_sl ([.ref a0, .ref b0])).length) Slot.unset).toArray = ls at hl ⊢
  have hl : lv_has ls 2 [(0, .ref a0), (1, .ref b0)] := hl
  refine lv_aload_n hx hb dX1_copyFrom_0 rfl (lv_at hl 0 rfl) ?_
  refine va_get (D := G) (ci := 1) (v := .ref a1) (C := RX1) (T := TX1) (N := 10) hx hb hts huX1_copyFrom_X1 hown hK.1 hP 0 rfl rfl 0 (by decide) hw0 (fun _ h9 => h9) rfl dX1_copyFrom_1 ?_
  refine lv_aload_n hx hb dX1_copyFrom_4 rfl (lv_at hl 1 rfl) ?_
  refine va_get (D := G) (ci := 1) (v := .ref b1) (C := RX1) (T := TX1) (N := 10) hx hb hts huX1_copyFrom_X1 hown hK.1 hP 10 rfl rfl 0 (by decide) hw0 (fun _ h9 => h9) rfl dX1_copyFrom_5 ?_
  obtain ⟨x1, ex1, h⟩ := o_b h
  refine call_vV (As := [.ref b1]) (rest := []) (ws2 := [(a0, .inr (1, [.ref a1, .ref a3, .ref a6, .ref a8, .int rd, .int tu, .int la, .int (bI dl), .int sh, .int tb])), (a1, .inr (4, [.int x1.1, .ref a2, .int x1.2.2.2])), (a2, .inl (cI, x1.2.1, .inl x1.2.2.1)), (a3, .inr (0, [.ref a4, .int eb])), (a4, .inr (4, [.int er.1, .ref a5, .int er.2.2.2])), (a5, .inl (cI, er.2.1, .inl er.2.2.1)), (a6, .inr (4, [.int li.1, .ref a7, .int li.2.2.2])), (a7, .inl (cI, li.2.1, .inl li.2.2.1)), (a8, .inr (4, [.int st.1, .ref a9, .int st.2.2.2])), (a9, .inl (cI, st.2.1, .inl st.2.2.1)), (b0, .inr (1, [.ref b1, .ref b3, .ref b6, .ref b8, .int o_rd, .int o_tu, .int o_la, .int (bI o_dl), .int o_sh, .int o_tb])), (b1, .inr (4, [.int o_ft.1, .ref b2, .int o_ft.2.2.2])), (b2, .inl (cI, o_ft.2.1, .inl o_ft.2.2.1)), (b3, .inr (0, [.ref b4, .int o_eb])), (b4, .inr (4, [.int o_er.1, .ref b5, .int o_er.2.2.2])), (b5, .inl (cI, o_er.2.1, .inl o_er.2.2.1)), (b6, .inr (4, [.int o_li.1, .ref b7, .int o_li.2.2.2])), (b7, .inl (cI, o_li.2.1, .inl o_li.2.2.1)), (b8, .inr (4, [.int o_st.1, .ref b9, .int o_st.2.2.2])), (b9, .inl (cI, o_st.2.1, .inl o_st.2.2.1))]) ⟨hx, hb, hml, hown, hts⟩ (cX4_copyFrom_ok l G cI cG a1 a2 b1 b2 ft o_ft x1 ex1) (cwV 1 hts gX1_copyFrom_X4_copyFrom_53 rfl rfl rfl hdX4_copyFrom ⟨Nat.le_of_ble_eq_true rfl, Nat.le_of_ble_eq_true rfl⟩) hP hD hS hA hK 4 rfl rfl rfl [1, 2, 11, 12] rfl rfl rfl rfl rfl rfl rfl rfl hl.1 (Nat.le_of_ble_eq_true rfl) dX1_copyFrom_8 ⟨Nat.zero_le _, Nat.zero_le _⟩ (fun H locs hP hD hS => ?_)
  refine lv_aload_n hx hb dX1_copyFrom_11 rfl (lv_at hl 0 rfl) ?_
  refine va_get (D := G) (ci := 1) (v := .ref a3) (C := RX1) (T := TX1) (N := 10) hx hb hts huX1_copyFrom_X1 hown hK.1 hP 0 rfl rfl 1 (by decide) hw1 (fun _ h9 => h9) rfl dX1_copyFrom_12 ?_
  refine lv_aload_n hx hb dX1_copyFrom_15 rfl (lv_at hl 1 rfl) ?_
  refine va_get (D := G) (ci := 1) (v := .ref b3) (C := RX1) (T := TX1) (N := 10) hx hb hts huX1_copyFrom_X1 hown hK.1 hP 10 rfl rfl 1 (by decide) hw1 (fun _ h9 => h9) rfl dX1_copyFrom_16 ?_
  obtain ⟨x2, ex2, h⟩ := o_b h
  refine call_vV (As := [.ref b3]) (rest := []) (ws2 := [(a0, .inr (1, [.ref a1, .ref a3, .ref a6, .ref a8, .int rd, .int tu, .int la, .int (bI dl), .int sh, .int tb])), (a1, .inr (4, [.int x1.1, .ref a2, .int x1.2.2.2])), (a2, .inl (cI, x1.2.1, .inl x1.2.2.1)), (a3, .inr (0, [.ref a4, .int x2.2])), (a4, .inr (4, [.int x2.1.1, .ref a5, .int x2.1.2.2.2])), (a5, .inl (cI, x2.1.2.1, .inl x2.1.2.2.1)), (a6, .inr (4, [.int li.1, .ref a7, .int li.2.2.2])), (a7, .inl (cI, li.2.1, .inl li.2.2.1)), (a8, .inr (4, [.int st.1, .ref a9, .int st.2.2.2])), (a9, .inl (cI, st.2.1, .inl st.2.2.1)), (b0, .inr (1, [.ref b1, .ref b3, .ref b6, .ref b8, .int o_rd, .int o_tu, .int o_la, .int (bI o_dl), .int o_sh, .int o_tb])), (b1, .inr (4, [.int o_ft.1, .ref b2, .int o_ft.2.2.2])), (b2, .inl (cI, o_ft.2.1, .inl o_ft.2.2.1)), (b3, .inr (0, [.ref b4, .int o_eb])), (b4, .inr (4, [.int o_er.1, .ref b5, .int o_er.2.2.2])), (b5, .inl (cI, o_er.2.1, .inl o_er.2.2.1)), (b6, .inr (4, [.int o_li.1, .ref b7, .int o_li.2.2.2])), (b7, .inl (cI, o_li.2.1, .inl o_li.2.2.1)), (b8, .inr (4, [.int o_st.1, .ref b9, .int o_st.2.2.2])), (b9, .inl (cI, o_st.2.1, .inl o_st.2.2.1))]) ⟨hx, hb, hml, hown, hts⟩ (cX0_copyFrom_ok l G cI cG a3 a4 a5 b3 b4 b5 er eb o_er o_eb x2 ex2) (cwV 1 hts gX1_copyFrom_X0_copyFrom_57 rfl rfl rfl hdX0_copyFrom ⟨Nat.le_of_ble_eq_true rfl, Nat.le_of_ble_eq_true rfl⟩) hP hD hS hA hK 0 rfl rfl rfl [3, 4, 5, 13, 14, 15] rfl rfl rfl rfl rfl rfl rfl rfl hl.1 (Nat.le_of_ble_eq_true rfl) dX1_copyFrom_19 ⟨Nat.zero_le _, Nat.zero_le _⟩ (fun H locs hP hD hS => ?_)
  refine lv_aload_n hx hb dX1_copyFrom_22 rfl (lv_at hl 0 rfl) ?_
  refine va_get (D := G) (ci := 1) (v := .ref a6) (C := RX1) (T := TX1) (N := 10) hx hb hts huX1_copyFrom_X1 hown hK.1 hP 0 rfl rfl 2 (by decide) hw2 (fun _ h9 => h9) rfl dX1_copyFrom_23 ?_
  refine lv_aload_n hx hb dX1_copyFrom_26 rfl (lv_at hl 1 rfl) ?_
  refine va_get (D := G) (ci := 1) (v := .ref b6) (C := RX1) (T := TX1) (N := 10) hx hb hts huX1_copyFrom_X1 hown hK.1 hP 10 rfl rfl 2 (by decide) hw2 (fun _ h9 => h9) rfl dX1_copyFrom_27 ?_
  obtain ⟨x3, ex3, h⟩ := o_b h
  refine call_vV (As := [.ref b6]) (rest := []) (ws2 := [(a0, .inr (1, [.ref a1, .ref a3, .ref a6, .ref a8, .int rd, .int tu, .int la, .int (bI dl), .int sh, .int tb])), (a1, .inr (4, [.int x1.1, .ref a2, .int x1.2.2.2])), (a2, .inl (cI, x1.2.1, .inl x1.2.2.1)), (a3, .inr (0, [.ref a4, .int x2.2])), (a4, .inr (4, [.int x2.1.1, .ref a5, .int x2.1.2.2.2])), (a5, .inl (cI, x2.1.2.1, .inl x2.1.2.2.1)), (a6, .inr (4, [.int x3.1, .ref a7, .int x3.2.2.2])), (a7, .inl (cI, x3.2.1, .inl x3.2.2.1)), (a8, .inr (4, [.int st.1, .ref a9, .int st.2.2.2])), (a9, .inl (cI, st.2.1, .inl st.2.2.1)), (b0, .inr (1, [.ref b1, .ref b3, .ref b6, .ref b8, .int o_rd, .int o_tu, .int o_la, .int (bI o_dl), .int o_sh, .int o_tb])), (b1, .inr (4, [.int o_ft.1, .ref b2, .int o_ft.2.2.2])), (b2, .inl (cI, o_ft.2.1, .inl o_ft.2.2.1)), (b3, .inr (0, [.ref b4, .int o_eb])), (b4, .inr (4, [.int o_er.1, .ref b5, .int o_er.2.2.2])), (b5, .inl (cI, o_er.2.1, .inl o_er.2.2.1)), (b6, .inr (4, [.int o_li.1, .ref b7, .int o_li.2.2.2])), (b7, .inl (cI, o_li.2.1, .inl o_li.2.2.1)), (b8, .inr (4, [.int o_st.1, .ref b9, .int o_st.2.2.2])), (b9, .inl (cI, o_st.2.1, .inl o_st.2.2.1))]) ⟨hx, hb, hml, hown, hts⟩ (cX4_copyFrom_ok l G cI cG a6 a7 b6 b7 li o_li x3 ex3) (cwV 1 hts gX1_copyFrom_X4_copyFrom_53 rfl rfl rfl hdX4_copyFrom ⟨Nat.le_of_ble_eq_true rfl, Nat.le_of_ble_eq_true rfl⟩) hP hD hS hA hK 4 rfl rfl rfl [6, 7, 16, 17] rfl rfl rfl rfl rfl rfl rfl rfl hl.1 (Nat.le_of_ble_eq_true rfl) dX1_copyFrom_30 ⟨Nat.zero_le _, Nat.zero_le _⟩ (fun H locs hP hD hS => ?_)
  refine lv_aload_n hx hb dX1_copyFrom_33 rfl (lv_at hl 0 rfl) ?_
  refine va_get (D := G) (ci := 1) (v := .ref a8) (C := RX1) (T := TX1) (N := 10) hx hb hts huX1_copyFrom_X1 hown hK.1 hP 0 rfl rfl 3 (by decide) hw3 (fun _ h9 => h9) rfl dX1_copyFrom_34 ?_
  refine lv_aload_n hx hb dX1_copyFrom_37 rfl (lv_at hl 1 rfl) ?_
  refine va_get (D := G) (ci := 1) (v := .ref b8) (C := RX1) (T := TX1) (N := 10) hx hb hts huX1_copyFrom_X1 hown hK.1 hP 10 rfl rfl 3 (by decide) hw3 (fun _ h9 => h9) rfl dX1_copyFrom_38 ?_
  obtain ⟨x4, ex4, h⟩ := o_b h
  refine call_vV (As := [.ref b8]) (rest := []) (ws2 := [(a0, .inr (1, [.ref a1, .ref a3, .ref a6, .ref a8, .int rd, .int tu, .int la, .int (bI dl), .int sh, .int tb])), (a1, .inr (4, [.int x1.1, .ref a2, .int x1.2.2.2])), (a2, .inl (cI, x1.2.1, .inl x1.2.2.1)), (a3, .inr (0, [.ref a4, .int x2.2])), (a4, .inr (4, [.int x2.1.1, .ref a5, .int x2.1.2.2.2])), (a5, .inl (cI, x2.1.2.1, .inl x2.1.2.2.1)), (a6, .inr (4, [.int x3.1, .ref a7, .int x3.2.2.2])), (a7, .inl (cI, x3.2.1, .inl x3.2.2.1)), (a8, .inr (4, [.int x4.1, .ref a9, .int x4.2.2.2])), (a9, .inl (cI, x4.2.1, .inl x4.2.2.1)), (b0, .inr (1, [.ref b1, .ref b3, .ref b6, .ref b8, .int o_rd, .int o_tu, .int o_la, .int (bI o_dl), .int o_sh, .int o_tb])), (b1, .inr (4, [.int o_ft.1, .ref b2, .int o_ft.2.2.2])), (b2, .inl (cI, o_ft.2.1, .inl o_ft.2.2.1)), (b3, .inr (0, [.ref b4, .int o_eb])), (b4, .inr (4, [.int o_er.1, .ref b5, .int o_er.2.2.2])), (b5, .inl (cI, o_er.2.1, .inl o_er.2.2.1)), (b6, .inr (4, [.int o_li.1, .ref b7, .int o_li.2.2.2])), (b7, .inl (cI, o_li.2.1, .inl o_li.2.2.1)), (b8, .inr (4, [.int o_st.1, .ref b9, .int o_st.2.2.2])), (b9, .inl (cI, o_st.2.1, .inl o_st.2.2.1))]) ⟨hx, hb, hml, hown, hts⟩ (cX4_copyFrom_ok l G cI cG a8 a9 b8 b9 st o_st x4 ex4) (cwV 1 hts gX1_copyFrom_X4_copyFrom_53 rfl rfl rfl hdX4_copyFrom ⟨Nat.le_of_ble_eq_true rfl, Nat.le_of_ble_eq_true rfl⟩) hP hD hS hA hK 4 rfl rfl rfl [8, 9, 18, 19] rfl rfl rfl rfl rfl rfl rfl rfl hl.1 (Nat.le_of_ble_eq_true rfl) dX1_copyFrom_41 ⟨Nat.zero_le _, Nat.zero_le _⟩ (fun H locs hP hD hS => ?_)
  refine lv_aload_n hx hb dX1_copyFrom_44 rfl (lv_at hl 0 rfl) ?_
  refine lv_aload_n hx hb dX1_copyFrom_45 rfl (lv_at hl 1 rfl) ?_
  refine va_get (D := G) (ci := 1) (v := .int o_rd) (C := RX1) (T := TX1) (N := 10) hx hb hts huX1_copyFrom_X1 hown hK.1 hP 10 rfl rfl 4 (by decide) hw4 (fun _ h9 => h9) rfl dX1_copyFrom_46 ?_
  refine va_put (D := G) (ci := 1) (v := .int o_rd) (ty := .int) (C := RX1) (T := TX1) (N := 10) hx hb hts huX1_copyFrom_X1 tyX1 tyX1_ok nmX1 hown hK.1 hP hD hS 0 rfl rfl 4 (by decide) hw4 (fun _ h9 => h9) rfl (by decide +kernel) rfl rfl (Nat.le_of_ble_eq_true rfl) dX1_copyFrom_49 (fun H locs hP hD hS => ?_)
  have hP : va_P G vwCl ([(a0, .inr (1, [.ref a1, .ref a3, .ref a6, .ref a8, .int o_rd, .int tu, .int la, .int (bI dl), .int sh, .int tb])), (a1, .inr (4, [.int x1.1, .ref a2, .int x1.2.2.2])), (a2, .inl (cI, x1.2.1, .inl x1.2.2.1)), (a3, .inr (0, [.ref a4, .int x2.2])), (a4, .inr (4, [.int x2.1.1, .ref a5, .int x2.1.2.2.2])), (a5, .inl (cI, x2.1.2.1, .inl x2.1.2.2.1)), (a6, .inr (4, [.int x3.1, .ref a7, .int x3.2.2.2])), (a7, .inl (cI, x3.2.1, .inl x3.2.2.1)), (a8, .inr (4, [.int x4.1, .ref a9, .int x4.2.2.2])), (a9, .inl (cI, x4.2.1, .inl x4.2.2.1)), (b0, .inr (1, [.ref b1, .ref b3, .ref b6, .ref b8, .int o_rd, .int o_tu, .int o_la, .int (bI o_dl), .int o_sh, .int o_tb])), (b1, .inr (4, [.int o_ft.1, .ref b2, .int o_ft.2.2.2])), (b2, .inl (cI, o_ft.2.1, .inl o_ft.2.2.1)), (b3, .inr (0, [.ref b4, .int o_eb])), (b4, .inr (4, [.int o_er.1, .ref b5, .int o_er.2.2.2])), (b5, .inl (cI, o_er.2.1, .inl o_er.2.2.1)), (b6, .inr (4, [.int o_li.1, .ref b7, .int o_li.2.2.2])), (b7, .inl (cI, o_li.2.1, .inl o_li.2.2.1)), (b8, .inr (4, [.int o_st.1, .ref b9, .int o_st.2.2.2])), (b9, .inl (cI, o_st.2.1, .inl o_st.2.2.1))]) H := hP
  have hD : va_D A ([(a0, .inr (1, [.ref a1, .ref a3, .ref a6, .ref a8, .int o_rd, .int tu, .int la, .int (bI dl), .int sh, .int tb])), (a1, .inr (4, [.int x1.1, .ref a2, .int x1.2.2.2])), (a2, .inl (cI, x1.2.1, .inl x1.2.2.1)), (a3, .inr (0, [.ref a4, .int x2.2])), (a4, .inr (4, [.int x2.1.1, .ref a5, .int x2.1.2.2.2])), (a5, .inl (cI, x2.1.2.1, .inl x2.1.2.2.1)), (a6, .inr (4, [.int x3.1, .ref a7, .int x3.2.2.2])), (a7, .inl (cI, x3.2.1, .inl x3.2.2.1)), (a8, .inr (4, [.int x4.1, .ref a9, .int x4.2.2.2])), (a9, .inl (cI, x4.2.1, .inl x4.2.2.1)), (b0, .inr (1, [.ref b1, .ref b3, .ref b6, .ref b8, .int o_rd, .int o_tu, .int o_la, .int (bI o_dl), .int o_sh, .int o_tb])), (b1, .inr (4, [.int o_ft.1, .ref b2, .int o_ft.2.2.2])), (b2, .inl (cI, o_ft.2.1, .inl o_ft.2.2.1)), (b3, .inr (0, [.ref b4, .int o_eb])), (b4, .inr (4, [.int o_er.1, .ref b5, .int o_er.2.2.2])), (b5, .inl (cI, o_er.2.1, .inl o_er.2.2.1)), (b6, .inr (4, [.int o_li.1, .ref b7, .int o_li.2.2.2])), (b7, .inl (cI, o_li.2.1, .inl o_li.2.2.1)), (b8, .inr (4, [.int o_st.1, .ref b9, .int o_st.2.2.2])), (b9, .inl (cI, o_st.2.1, .inl o_st.2.2.1))]) := hD
  refine lv_aload_n hx hb dX1_copyFrom_52 rfl (lv_at hl 0 rfl) ?_
  refine lv_aload_n hx hb dX1_copyFrom_53 rfl (lv_at hl 1 rfl) ?_
  refine va_get (D := G) (ci := 1) (v := .int o_tu) (C := RX1) (T := TX1) (N := 10) hx hb hts huX1_copyFrom_X1 hown hK.1 hP 10 rfl rfl 5 (by decide) hw5 (fun _ h9 => h9) rfl dX1_copyFrom_54 ?_
  refine va_put (D := G) (ci := 1) (v := .int o_tu) (ty := .int) (C := RX1) (T := TX1) (N := 10) hx hb hts huX1_copyFrom_X1 tyX1 tyX1_ok nmX1 hown hK.1 hP hD hS 0 rfl rfl 5 (by decide) hw5 (fun _ h9 => h9) rfl (by decide +kernel) rfl rfl (Nat.le_of_ble_eq_true rfl) dX1_copyFrom_57 (fun H locs hP hD hS => ?_)
  have hP : va_P G vwCl ([(a0, .inr (1, [.ref a1, .ref a3, .ref a6, .ref a8, .int o_rd, .int o_tu, .int la, .int (bI dl), .int sh, .int tb])), (a1, .inr (4, [.int x1.1, .ref a2, .int x1.2.2.2])), (a2, .inl (cI, x1.2.1, .inl x1.2.2.1)), (a3, .inr (0, [.ref a4, .int x2.2])), (a4, .inr (4, [.int x2.1.1, .ref a5, .int x2.1.2.2.2])), (a5, .inl (cI, x2.1.2.1, .inl x2.1.2.2.1)), (a6, .inr (4, [.int x3.1, .ref a7, .int x3.2.2.2])), (a7, .inl (cI, x3.2.1, .inl x3.2.2.1)), (a8, .inr (4, [.int x4.1, .ref a9, .int x4.2.2.2])), (a9, .inl (cI, x4.2.1, .inl x4.2.2.1)), (b0, .inr (1, [.ref b1, .ref b3, .ref b6, .ref b8, .int o_rd, .int o_tu, .int o_la, .int (bI o_dl), .int o_sh, .int o_tb])), (b1, .inr (4, [.int o_ft.1, .ref b2, .int o_ft.2.2.2])), (b2, .inl (cI, o_ft.2.1, .inl o_ft.2.2.1)), (b3, .inr (0, [.ref b4, .int o_eb])), (b4, .inr (4, [.int o_er.1, .ref b5, .int o_er.2.2.2])), (b5, .inl (cI, o_er.2.1, .inl o_er.2.2.1)), (b6, .inr (4, [.int o_li.1, .ref b7, .int o_li.2.2.2])), (b7, .inl (cI, o_li.2.1, .inl o_li.2.2.1)), (b8, .inr (4, [.int o_st.1, .ref b9, .int o_st.2.2.2])), (b9, .inl (cI, o_st.2.1, .inl o_st.2.2.1))]) H := hP
  have hD : va_D A ([(a0, .inr (1, [.ref a1, .ref a3, .ref a6, .ref a8, .int o_rd, .int o_tu, .int la, .int (bI dl), .int sh, .int tb])), (a1, .inr (4, [.int x1.1, .ref a2, .int x1.2.2.2])), (a2, .inl (cI, x1.2.1, .inl x1.2.2.1)), (a3, .inr (0, [.ref a4, .int x2.2])), (a4, .inr (4, [.int x2.1.1, .ref a5, .int x2.1.2.2.2])), (a5, .inl (cI, x2.1.2.1, .inl x2.1.2.2.1)), (a6, .inr (4, [.int x3.1, .ref a7, .int x3.2.2.2])), (a7, .inl (cI, x3.2.1, .inl x3.2.2.1)), (a8, .inr (4, [.int x4.1, .ref a9, .int x4.2.2.2])), (a9, .inl (cI, x4.2.1, .inl x4.2.2.1)), (b0, .inr (1, [.ref b1, .ref b3, .ref b6, .ref b8, .int o_rd, .int o_tu, .int o_la, .int (bI o_dl), .int o_sh, .int o_tb])), (b1, .inr (4, [.int o_ft.1, .ref b2, .int o_ft.2.2.2])), (b2, .inl (cI, o_ft.2.1, .inl o_ft.2.2.1)), (b3, .inr (0, [.ref b4, .int o_eb])), (b4, .inr (4, [.int o_er.1, .ref b5, .int o_er.2.2.2])), (b5, .inl (cI, o_er.2.1, .inl o_er.2.2.1)), (b6, .inr (4, [.int o_li.1, .ref b7, .int o_li.2.2.2])), (b7, .inl (cI, o_li.2.1, .inl o_li.2.2.1)), (b8, .inr (4, [.int o_st.1, .ref b9, .int o_st.2.2.2])), (b9, .inl (cI, o_st.2.1, .inl o_st.2.2.1))]) := hD
  refine lv_aload_n hx hb dX1_copyFrom_60 rfl (lv_at hl 0 rfl) ?_
  refine lv_aload_n hx hb dX1_copyFrom_61 rfl (lv_at hl 1 rfl) ?_
  refine va_get (D := G) (ci := 1) (v := .int o_la) (C := RX1) (T := TX1) (N := 10) hx hb hts huX1_copyFrom_X1 hown hK.1 hP 10 rfl rfl 6 (by decide) hw6 (fun _ h9 => h9) rfl dX1_copyFrom_62 ?_
  refine va_put (D := G) (ci := 1) (v := .int o_la) (ty := .int) (C := RX1) (T := TX1) (N := 10) hx hb hts huX1_copyFrom_X1 tyX1 tyX1_ok nmX1 hown hK.1 hP hD hS 0 rfl rfl 6 (by decide) hw6 (fun _ h9 => h9) rfl (by decide +kernel) rfl rfl (Nat.le_of_ble_eq_true rfl) dX1_copyFrom_65 (fun H locs hP hD hS => ?_)
  have hP : va_P G vwCl ([(a0, .inr (1, [.ref a1, .ref a3, .ref a6, .ref a8, .int o_rd, .int o_tu, .int o_la, .int (bI dl), .int sh, .int tb])), (a1, .inr (4, [.int x1.1, .ref a2, .int x1.2.2.2])), (a2, .inl (cI, x1.2.1, .inl x1.2.2.1)), (a3, .inr (0, [.ref a4, .int x2.2])), (a4, .inr (4, [.int x2.1.1, .ref a5, .int x2.1.2.2.2])), (a5, .inl (cI, x2.1.2.1, .inl x2.1.2.2.1)), (a6, .inr (4, [.int x3.1, .ref a7, .int x3.2.2.2])), (a7, .inl (cI, x3.2.1, .inl x3.2.2.1)), (a8, .inr (4, [.int x4.1, .ref a9, .int x4.2.2.2])), (a9, .inl (cI, x4.2.1, .inl x4.2.2.1)), (b0, .inr (1, [.ref b1, .ref b3, .ref b6, .ref b8, .int o_rd, .int o_tu, .int o_la, .int (bI o_dl), .int o_sh, .int o_tb])), (b1, .inr (4, [.int o_ft.1, .ref b2, .int o_ft.2.2.2])), (b2, .inl (cI, o_ft.2.1, .inl o_ft.2.2.1)), (b3, .inr (0, [.ref b4, .int o_eb])), (b4, .inr (4, [.int o_er.1, .ref b5, .int o_er.2.2.2])), (b5, .inl (cI, o_er.2.1, .inl o_er.2.2.1)), (b6, .inr (4, [.int o_li.1, .ref b7, .int o_li.2.2.2])), (b7, .inl (cI, o_li.2.1, .inl o_li.2.2.1)), (b8, .inr (4, [.int o_st.1, .ref b9, .int o_st.2.2.2])), (b9, .inl (cI, o_st.2.1, .inl o_st.2.2.1))]) H := hP
  have hD : va_D A ([(a0, .inr (1, [.ref a1, .ref a3, .ref a6, .ref a8, .int o_rd, .int o_tu, .int o_la, .int (bI dl), .int sh, .int tb])), (a1, .inr (4, [.int x1.1, .ref a2, .int x1.2.2.2])), (a2, .inl (cI, x1.2.1, .inl x1.2.2.1)), (a3, .inr (0, [.ref a4, .int x2.2])), (a4, .inr (4, [.int x2.1.1, .ref a5, .int x2.1.2.2.2])), (a5, .inl (cI, x2.1.2.1, .inl x2.1.2.2.1)), (a6, .inr (4, [.int x3.1, .ref a7, .int x3.2.2.2])), (a7, .inl (cI, x3.2.1, .inl x3.2.2.1)), (a8, .inr (4, [.int x4.1, .ref a9, .int x4.2.2.2])), (a9, .inl (cI, x4.2.1, .inl x4.2.2.1)), (b0, .inr (1, [.ref b1, .ref b3, .ref b6, .ref b8, .int o_rd, .int o_tu, .int o_la, .int (bI o_dl), .int o_sh, .int o_tb])), (b1, .inr (4, [.int o_ft.1, .ref b2, .int o_ft.2.2.2])), (b2, .inl (cI, o_ft.2.1, .inl o_ft.2.2.1)), (b3, .inr (0, [.ref b4, .int o_eb])), (b4, .inr (4, [.int o_er.1, .ref b5, .int o_er.2.2.2])), (b5, .inl (cI, o_er.2.1, .inl o_er.2.2.1)), (b6, .inr (4, [.int o_li.1, .ref b7, .int o_li.2.2.2])), (b7, .inl (cI, o_li.2.1, .inl o_li.2.2.1)), (b8, .inr (4, [.int o_st.1, .ref b9, .int o_st.2.2.2])), (b9, .inl (cI, o_st.2.1, .inl o_st.2.2.1))]) := hD
  refine lv_aload_n hx hb dX1_copyFrom_68 rfl (lv_at hl 0 rfl) ?_
  refine lv_aload_n hx hb dX1_copyFrom_69 rfl (lv_at hl 1 rfl) ?_
  refine va_get (D := G) (ci := 1) (v := .int (bI o_dl)) (C := RX1) (T := TX1) (N := 10) hx hb hts huX1_copyFrom_X1 hown hK.1 hP 10 rfl rfl 7 (by decide) hw7 (fun _ h9 => h9) rfl dX1_copyFrom_70 ?_
  refine va_put (D := G) (ci := 1) (v := .int (bI o_dl)) (ty := .boolean) (C := RX1) (T := TX1) (N := 10) hx hb hts huX1_copyFrom_X1 tyX1 tyX1_ok nmX1 hown hK.1 hP hD hS 0 rfl rfl 7 (by decide) hw7 (fun _ h9 => h9) rfl (by decide +kernel) (bI_n _) (bI_f _) (Nat.le_of_ble_eq_true rfl) dX1_copyFrom_73 (fun H locs hP hD hS => ?_)
  have hP : va_P G vwCl ([(a0, .inr (1, [.ref a1, .ref a3, .ref a6, .ref a8, .int o_rd, .int o_tu, .int o_la, .int (bI o_dl), .int sh, .int tb])), (a1, .inr (4, [.int x1.1, .ref a2, .int x1.2.2.2])), (a2, .inl (cI, x1.2.1, .inl x1.2.2.1)), (a3, .inr (0, [.ref a4, .int x2.2])), (a4, .inr (4, [.int x2.1.1, .ref a5, .int x2.1.2.2.2])), (a5, .inl (cI, x2.1.2.1, .inl x2.1.2.2.1)), (a6, .inr (4, [.int x3.1, .ref a7, .int x3.2.2.2])), (a7, .inl (cI, x3.2.1, .inl x3.2.2.1)), (a8, .inr (4, [.int x4.1, .ref a9, .int x4.2.2.2])), (a9, .inl (cI, x4.2.1, .inl x4.2.2.1)), (b0, .inr (1, [.ref b1, .ref b3, .ref b6, .ref b8, .int o_rd, .int o_tu, .int o_la, .int (bI o_dl), .int o_sh, .int o_tb])), (b1, .inr (4, [.int o_ft.1, .ref b2, .int o_ft.2.2.2])), (b2, .inl (cI, o_ft.2.1, .inl o_ft.2.2.1)), (b3, .inr (0, [.ref b4, .int o_eb])), (b4, .inr (4, [.int o_er.1, .ref b5, .int o_er.2.2.2])), (b5, .inl (cI, o_er.2.1, .inl o_er.2.2.1)), (b6, .inr (4, [.int o_li.1, .ref b7, .int o_li.2.2.2])), (b7, .inl (cI, o_li.2.1, .inl o_li.2.2.1)), (b8, .inr (4, [.int o_st.1, .ref b9, .int o_st.2.2.2])), (b9, .inl (cI, o_st.2.1, .inl o_st.2.2.1))]) H := hP
  have hD : va_D A ([(a0, .inr (1, [.ref a1, .ref a3, .ref a6, .ref a8, .int o_rd, .int o_tu, .int o_la, .int (bI o_dl), .int sh, .int tb])), (a1, .inr (4, [.int x1.1, .ref a2, .int x1.2.2.2])), (a2, .inl (cI, x1.2.1, .inl x1.2.2.1)), (a3, .inr (0, [.ref a4, .int x2.2])), (a4, .inr (4, [.int x2.1.1, .ref a5, .int x2.1.2.2.2])), (a5, .inl (cI, x2.1.2.1, .inl x2.1.2.2.1)), (a6, .inr (4, [.int x3.1, .ref a7, .int x3.2.2.2])), (a7, .inl (cI, x3.2.1, .inl x3.2.2.1)), (a8, .inr (4, [.int x4.1, .ref a9, .int x4.2.2.2])), (a9, .inl (cI, x4.2.1, .inl x4.2.2.1)), (b0, .inr (1, [.ref b1, .ref b3, .ref b6, .ref b8, .int o_rd, .int o_tu, .int o_la, .int (bI o_dl), .int o_sh, .int o_tb])), (b1, .inr (4, [.int o_ft.1, .ref b2, .int o_ft.2.2.2])), (b2, .inl (cI, o_ft.2.1, .inl o_ft.2.2.1)), (b3, .inr (0, [.ref b4, .int o_eb])), (b4, .inr (4, [.int o_er.1, .ref b5, .int o_er.2.2.2])), (b5, .inl (cI, o_er.2.1, .inl o_er.2.2.1)), (b6, .inr (4, [.int o_li.1, .ref b7, .int o_li.2.2.2])), (b7, .inl (cI, o_li.2.1, .inl o_li.2.2.1)), (b8, .inr (4, [.int o_st.1, .ref b9, .int o_st.2.2.2])), (b9, .inl (cI, o_st.2.1, .inl o_st.2.2.1))]) := hD
  refine lv_aload_n hx hb dX1_copyFrom_76 rfl (lv_at hl 0 rfl) ?_
  refine lv_aload_n hx hb dX1_copyFrom_77 rfl (lv_at hl 1 rfl) ?_
  refine va_get (D := G) (ci := 1) (v := .int o_sh) (C := RX1) (T := TX1) (N := 10) hx hb hts huX1_copyFrom_X1 hown hK.1 hP 10 rfl rfl 8 (by decide) hw8 (fun _ h9 => h9) rfl dX1_copyFrom_78 ?_
  refine va_put (D := G) (ci := 1) (v := .int o_sh) (ty := .int) (C := RX1) (T := TX1) (N := 10) hx hb hts huX1_copyFrom_X1 tyX1 tyX1_ok nmX1 hown hK.1 hP hD hS 0 rfl rfl 8 (by decide) hw8 (fun _ h9 => h9) rfl (by decide +kernel) rfl rfl (Nat.le_of_ble_eq_true rfl) dX1_copyFrom_81 (fun H locs hP hD hS => ?_)
  have hP : va_P G vwCl ([(a0, .inr (1, [.ref a1, .ref a3, .ref a6, .ref a8, .int o_rd, .int o_tu, .int o_la, .int (bI o_dl), .int o_sh, .int tb])), (a1, .inr (4, [.int x1.1, .ref a2, .int x1.2.2.2])), (a2, .inl (cI, x1.2.1, .inl x1.2.2.1)), (a3, .inr (0, [.ref a4, .int x2.2])), (a4, .inr (4, [.int x2.1.1, .ref a5, .int x2.1.2.2.2])), (a5, .inl (cI, x2.1.2.1, .inl x2.1.2.2.1)), (a6, .inr (4, [.int x3.1, .ref a7, .int x3.2.2.2])), (a7, .inl (cI, x3.2.1, .inl x3.2.2.1)), (a8, .inr (4, [.int x4.1, .ref a9, .int x4.2.2.2])), (a9, .inl (cI, x4.2.1, .inl x4.2.2.1)), (b0, .inr (1, [.ref b1, .ref b3, .ref b6, .ref b8, .int o_rd, .int o_tu, .int o_la, .int (bI o_dl), .int o_sh, .int o_tb])), (b1, .inr (4, [.int o_ft.1, .ref b2, .int o_ft.2.2.2])), (b2, .inl (cI, o_ft.2.1, .inl o_ft.2.2.1)), (b3, .inr (0, [.ref b4, .int o_eb])), (b4, .inr (4, [.int o_er.1, .ref b5, .int o_er.2.2.2])), (b5, .inl (cI, o_er.2.1, .inl o_er.2.2.1)), (b6, .inr (4, [.int o_li.1, .ref b7, .int o_li.2.2.2])), (b7, .inl (cI, o_li.2.1, .inl o_li.2.2.1)), (b8, .inr (4, [.int o_st.1, .ref b9, .int o_st.2.2.2])), (b9, .inl (cI, o_st.2.1, .inl o_st.2.2.1))]) H := hP
  have hD : va_D A ([(a0, .inr (1, [.ref a1, .ref a3, .ref a6, .ref a8, .int o_rd, .int o_tu, .int o_la, .int (bI o_dl), .int o_sh, .int tb])), (a1, .inr (4, [.int x1.1, .ref a2, .int x1.2.2.2])), (a2, .inl (cI, x1.2.1, .inl x1.2.2.1)), (a3, .inr (0, [.ref a4, .int x2.2])), (a4, .inr (4, [.int x2.1.1, .ref a5, .int x2.1.2.2.2])), (a5, .inl (cI, x2.1.2.1, .inl x2.1.2.2.1)), (a6, .inr (4, [.int x3.1, .ref a7, .int x3.2.2.2])), (a7, .inl (cI, x3.2.1, .inl x3.2.2.1)), (a8, .inr (4, [.int x4.1, .ref a9, .int x4.2.2.2])), (a9, .inl (cI, x4.2.1, .inl x4.2.2.1)), (b0, .inr (1, [.ref b1, .ref b3, .ref b6, .ref b8, .int o_rd, .int o_tu, .int o_la, .int (bI o_dl), .int o_sh, .int o_tb])), (b1, .inr (4, [.int o_ft.1, .ref b2, .int o_ft.2.2.2])), (b2, .inl (cI, o_ft.2.1, .inl o_ft.2.2.1)), (b3, .inr (0, [.ref b4, .int o_eb])), (b4, .inr (4, [.int o_er.1, .ref b5, .int o_er.2.2.2])), (b5, .inl (cI, o_er.2.1, .inl o_er.2.2.1)), (b6, .inr (4, [.int o_li.1, .ref b7, .int o_li.2.2.2])), (b7, .inl (cI, o_li.2.1, .inl o_li.2.2.1)), (b8, .inr (4, [.int o_st.1, .ref b9, .int o_st.2.2.2])), (b9, .inl (cI, o_st.2.1, .inl o_st.2.2.1))]) := hD
  refine lv_aload_n hx hb dX1_copyFrom_84 rfl (lv_at hl 0 rfl) ?_
  refine lv_aload_n hx hb dX1_copyFrom_85 rfl (lv_at hl 1 rfl) ?_
  refine va_get (D := G) (ci := 1) (v := .int o_tb) (C := RX1) (T := TX1) (N := 10) hx hb hts huX1_copyFrom_X1 hown hK.1 hP 10 rfl rfl 9 (by decide) hw9 (fun _ h9 => h9) rfl dX1_copyFrom_86 ?_
  refine va_put (D := G) (ci := 1) (v := .int o_tb) (ty := .int) (C := RX1) (T := TX1) (N := 10) hx hb hts huX1_copyFrom_X1 tyX1 tyX1_ok nmX1 hown hK.1 hP hD hS 0 rfl rfl 9 (by decide) hw9 (fun _ h9 => h9) rfl (by decide +kernel) rfl rfl (Nat.le_of_ble_eq_true rfl) dX1_copyFrom_89 (fun H locs hP hD hS => ?_)
  have hP : va_P G vwCl ([(a0, .inr (1, [.ref a1, .ref a3, .ref a6, .ref a8, .int o_rd, .int o_tu, .int o_la, .int (bI o_dl), .int o_sh, .int o_tb])), (a1, .inr (4, [.int x1.1, .ref a2, .int x1.2.2.2])), (a2, .inl (cI, x1.2.1, .inl x1.2.2.1)), (a3, .inr (0, [.ref a4, .int x2.2])), (a4, .inr (4, [.int x2.1.1, .ref a5, .int x2.1.2.2.2])), (a5, .inl (cI, x2.1.2.1, .inl x2.1.2.2.1)), (a6, .inr (4, [.int x3.1, .ref a7, .int x3.2.2.2])), (a7, .inl (cI, x3.2.1, .inl x3.2.2.1)), (a8, .inr (4, [.int x4.1, .ref a9, .int x4.2.2.2])), (a9, .inl (cI, x4.2.1, .inl x4.2.2.1)), (b0, .inr (1, [.ref b1, .ref b3, .ref b6, .ref b8, .int o_rd, .int o_tu, .int o_la, .int (bI o_dl), .int o_sh, .int o_tb])), (b1, .inr (4, [.int o_ft.1, .ref b2, .int o_ft.2.2.2])), (b2, .inl (cI, o_ft.2.1, .inl o_ft.2.2.1)), (b3, .inr (0, [.ref b4, .int o_eb])), (b4, .inr (4, [.int o_er.1, .ref b5, .int o_er.2.2.2])), (b5, .inl (cI, o_er.2.1, .inl o_er.2.2.1)), (b6, .inr (4, [.int o_li.1, .ref b7, .int o_li.2.2.2])), (b7, .inl (cI, o_li.2.1, .inl o_li.2.2.1)), (b8, .inr (4, [.int o_st.1, .ref b9, .int o_st.2.2.2])), (b9, .inl (cI, o_st.2.1, .inl o_st.2.2.1))]) H := hP
  have hD : va_D A ([(a0, .inr (1, [.ref a1, .ref a3, .ref a6, .ref a8, .int o_rd, .int o_tu, .int o_la, .int (bI o_dl), .int o_sh, .int o_tb])), (a1, .inr (4, [.int x1.1, .ref a2, .int x1.2.2.2])), (a2, .inl (cI, x1.2.1, .inl x1.2.2.1)), (a3, .inr (0, [.ref a4, .int x2.2])), (a4, .inr (4, [.int x2.1.1, .ref a5, .int x2.1.2.2.2])), (a5, .inl (cI, x2.1.2.1, .inl x2.1.2.2.1)), (a6, .inr (4, [.int x3.1, .ref a7, .int x3.2.2.2])), (a7, .inl (cI, x3.2.1, .inl x3.2.2.1)), (a8, .inr (4, [.int x4.1, .ref a9, .int x4.2.2.2])), (a9, .inl (cI, x4.2.1, .inl x4.2.2.1)), (b0, .inr (1, [.ref b1, .ref b3, .ref b6, .ref b8, .int o_rd, .int o_tu, .int o_la, .int (bI o_dl), .int o_sh, .int o_tb])), (b1, .inr (4, [.int o_ft.1, .ref b2, .int o_ft.2.2.2])), (b2, .inl (cI, o_ft.2.1, .inl o_ft.2.2.1)), (b3, .inr (0, [.ref b4, .int o_eb])), (b4, .inr (4, [.int o_er.1, .ref b5, .int o_er.2.2.2])), (b5, .inl (cI, o_er.2.1, .inl o_er.2.2.1)), (b6, .inr (4, [.int o_li.1, .ref b7, .int o_li.2.2.2])), (b7, .inl (cI, o_li.2.1, .inl o_li.2.2.1)), (b8, .inr (4, [.int o_st.1, .ref b9, .int o_st.2.2.2])), (b9, .inl (cI, o_st.2.1, .inl o_st.2.2.1))]) := hD
  obtain rfl := o_s h
  rw [hQ]
  exact end_v hx hb hr hP hD hS dX1_copyFrom_92 hlocks
theorem hdX1_fighterCount : yX1_fighterCount.cls = RX1 ∧ yX1_fighterCount.cls ≠ "java/lang/invoke/MethodHandle" ∧ yX1_fighterCount.cls ≠ "java/lang/invoke/VarHandle" ∧ (parseMethodDescriptor yX1_fighterCount.desc).map (fun d => d.parameters.length) = some 0 := by decide +kernel
set_option maxHeartbeats 4000000 in
set_option maxRecDepth 100000 in
theorem cX1_fighterCount_ok (l : Launch) (G : va_G) (cI cG : ClassId) (a0 a1 a2 a3 a4 a5 a6 a7 a8 a9 : Nat) (ft : Tab) (er : Tab) (eb : Int32) (li : Tab) (st : Tab) (rd : Int32) (tu : Int32) (la : Int32) (dl : Bool) (sh : Int32) (tb : Int32) (out : Int32) (hf : fX1_fighterCount ft = some out) : CI l G (tyz cI cG) yX1_fighterCount wsX1_fighterCount ({ frames := 1, cells := 0, slots := 0, locals := 20 } : Room) [.ref a0] [(a0, .inr (1, [.ref a1, .ref a3, .ref a6, .ref a8, .int rd, .int tu, .int la, .int (bI dl), .int sh, .int tb])), (a1, .inr (4, [.int ft.1, .ref a2, .int ft.2.2.2])), (a2, .inl (cI, ft.2.1, .inl ft.2.2.1)), (a3, .inr (0, [.ref a4, .int eb])), (a4, .inr (4, [.int er.1, .ref a5, .int er.2.2.2])), (a5, .inl (cI, er.2.1, .inl er.2.2.1)), (a6, .inr (4, [.int li.1, .ref a7, .int li.2.2.2])), (a7, .inl (cI, li.2.1, .inl li.2.2.1)), (a8, .inr (4, [.int st.1, .ref a9, .int st.2.2.2])), (a9, .inl (cI, st.2.1, .inl st.2.2.1))] out [(a0, .inr (1, [.ref a1, .ref a3, .ref a6, .ref a8, .int rd, .int tu, .int la, .int (bI dl), .int sh, .int tb])), (a1, .inr (4, [.int ft.1, .ref a2, .int ft.2.2.2])), (a2, .inl (cI, ft.2.1, .inl ft.2.2.1)), (a3, .inr (0, [.ref a4, .int eb])), (a4, .inr (4, [.int er.1, .ref a5, .int er.2.2.2])), (a5, .inl (cI, er.2.1, .inl er.2.2.1)), (a6, .inr (4, [.int li.1, .ref a7, .int li.2.2.2])), (a7, .inl (cI, li.2.1, .inl li.2.2.1)), (a8, .inr (4, [.int st.1, .ref a9, .int st.2.2.2])), (a9, .inl (cI, st.2.1, .inl st.2.2.1))] := by
  intro sz
  refine Met.ofW (cc := cX1_fighterCount) (maxL := 1) (ret := (some .int)) (by decide) rfl ?_
  intro p e s m args below meth c s₁ B hml hv
  obtain ⟨rfl, hsz, hP, hK, hD0⟩ := hv
  have hx := B.exec
  have hb := B.bytes
  have hr := B.returns
  have hts := atoms_spec (ws := wsX1_fighterCount) B.pre
  have hown : s.vm.findClass RX1 = some m.cls := findClass_of_methodNamed B.named
  have hlocks := B.notSynchronized
  subst hsz
  have hD := hD0.self (sz := s.heap.size)
  generalize hAe : va_A ([(a0, .inr (1, [.ref a1, .ref a3, .ref a6, .ref a8, .int rd, .int tu, .int la, .int (bI dl), .int sh, .int tb])), (a1, .inr (4, [.int ft.1, .ref a2, .int ft.2.2.2])), (a2, .inl (cI, ft.2.1, .inl ft.2.2.1)), (a3, .inr (0, [.ref a4, .int eb])), (a4, .inr (4, [.int er.1, .ref a5, .int er.2.2.2])), (a5, .inl (cI, er.2.1, .inl er.2.2.1)), (a6, .inr (4, [.int li.1, .ref a7, .int li.2.2.2])), (a7, .inl (cI, li.2.1, .inl li.2.2.1)), (a8, .inr (4, [.int st.1, .ref a9, .int st.2.2.2])), (a9, .inl (cI, st.2.1, .inl st.2.2.1))]) s.heap.size = A at hD ⊢
  have hA : ∀ q : Nat, s.heap.size ≤ q → A q := fun q h => by rw [← hAe]; exact Or.inr h
  have hS : va_S A s.heap s.heap [] := va_S.rf
  have hw0 := hts (.fieldLink RX1 16 "SpeedTurns$Game" "fighters" "LSpeedTurns$Table;") (List.mem_of_getElem? (i := 1) rfl)
  show W p l e ({ frames := 1, cells := 0, slots := 0, locals := 20 } : Room) s m _ below meth c s.heap [] 0 0 _ _
  refine W_genQ (fun Q hQ => ?_)
  have h := hf
  rw [fX1_fighterCount] at h
  have hl := lv_entry ([.ref a0]) (n := 1) (Nat.le_of_ble_eq_true rfl)
  rw [lg_entry_eq]
  generalize (lg_sl ([.ref a0]) ++ List.replicate (1 - (lg_sl ([.ref a0])).length) Slot.unset).toArray = ls at hl ⊢
  have hl : lv_has ls 1 [(0, .ref a0)] := hl
  refine lv_aload_n hx hb dX1_fighterCount_0 rfl (lv_at hl 0 rfl) ?_
  refine va_get (D := G) (ci := 1) (v := .ref a1) (C := RX1) (T := TX1) (N := 10) hx hb hts huX1_fighterCount_X1 hown hK.1 hP 0 rfl rfl 0 (by decide) hw0 (fun _ h9 => h9) rfl dX1_fighterCount_1 ?_
  obtain ⟨x1, ex1, h⟩ := o_b h
  refine call_iV (As := []) (rest := []) (ws2 := [(a0, .inr (1, [.ref a1, .ref a3, .ref a6, .ref a8, .int rd, .int tu, .int la, .int (bI dl), .int sh, .int tb])), (a1, .inr (4, [.int ft.1, .ref a2, .int ft.2.2.2])), (a2, .inl (cI, ft.2.1, .inl ft.2.2.1)), (a3, .inr (0, [.ref a4, .int eb])), (a4, .inr (4, [.int er.1, .ref a5, .int er.2.2.2])), (a5, .inl (cI, er.2.1, .inl er.2.2.1)), (a6, .inr (4, [.int li.1, .ref a7, .int li.2.2.2])), (a7, .inl (cI, li.2.1, .inl li.2.2.1)), (a8, .inr (4, [.int st.1, .ref a9, .int st.2.2.2])), (a9, .inl (cI, st.2.1, .inl st.2.2.1))]) ⟨hx, hb, hml, hown, hts⟩ (cX4_count_ok l G cI cG a1 a2 ft x1 ex1) (cwV 0 hts gX1_fighterCount_X4_count_60 rfl rfl rfl hdX4_count ⟨Nat.le_of_ble_eq_true rfl, Nat.le_of_ble_eq_true rfl⟩) hP hD hS hA hK 4 rfl rfl rfl [1, 2] rfl rfl rfl rfl rfl rfl rfl rfl hl.1 (Nat.le_of_ble_eq_true rfl) dX1_fighterCount_4 ⟨Nat.zero_le _, Nat.zero_le _⟩ (fun H locs hP hD hS => ?_)
  obtain rfl := o_s h
  rw [hQ]
  exact end_i hx hb hr rfl hP hD hS dX1_fighterCount_7 hlocks
theorem hdX1_isFighter : yX1_isFighter.cls = RX1 ∧ yX1_isFighter.cls ≠ "java/lang/invoke/MethodHandle" ∧ yX1_isFighter.cls ≠ "java/lang/invoke/VarHandle" ∧ (parseMethodDescriptor yX1_isFighter.desc).map (fun d => d.parameters.length) = some 1 := by decide +kernel
set_option maxHeartbeats 4000000 in
set_option maxRecDepth 100000 in
theorem cX1_isFighter_ok (l : Launch) (G : va_G) (cI cG : ClassId) (a0 a1 a2 a3 a4 a5 a6 a7 a8 a9 : Nat) (ft : Tab) (er : Tab) (eb : Int32) (li : Tab) (st : Tab) (rd : Int32) (tu : Int32) (la : Int32) (dl : Bool) (sh : Int32) (tb : Int32) (p1 : Int32) (out : Bool) (hf : fX1_isFighter ft p1 = some out) : CI l G (tyz cI cG) yX1_isFighter wsX1_isFighter ({ frames := 1, cells := 0, slots := 0, locals := 20 } : Room) [.ref a0, .int p1] [(a0, .inr (1, [.ref a1, .ref a3, .ref a6, .ref a8, .int rd, .int tu, .int la, .int (bI dl), .int sh, .int tb])), (a1, .inr (4, [.int ft.1, .ref a2, .int ft.2.2.2])), (a2, .inl (cI, ft.2.1, .inl ft.2.2.1)), (a3, .inr (0, [.ref a4, .int eb])), (a4, .inr (4, [.int er.1, .ref a5, .int er.2.2.2])), (a5, .inl (cI, er.2.1, .inl er.2.2.1)), (a6, .inr (4, [.int li.1, .ref a7, .int li.2.2.2])), (a7, .inl (cI, li.2.1, .inl li.2.2.1)), (a8, .inr (4, [.int st.1, .ref a9, .int st.2.2.2])), (a9, .inl (cI, st.2.1, .inl st.2.2.1))] (bI out) [(a0, .inr (1, [.ref a1, .ref a3, .ref a6, .ref a8, .int rd, .int tu, .int la, .int (bI dl), .int sh, .int tb])), (a1, .inr (4, [.int ft.1, .ref a2, .int ft.2.2.2])), (a2, .inl (cI, ft.2.1, .inl ft.2.2.1)), (a3, .inr (0, [.ref a4, .int eb])), (a4, .inr (4, [.int er.1, .ref a5, .int er.2.2.2])), (a5, .inl (cI, er.2.1, .inl er.2.2.1)), (a6, .inr (4, [.int li.1, .ref a7, .int li.2.2.2])), (a7, .inl (cI, li.2.1, .inl li.2.2.1)), (a8, .inr (4, [.int st.1, .ref a9, .int st.2.2.2])), (a9, .inl (cI, st.2.1, .inl st.2.2.1))] := by
  intro sz
  refine Met.ofW (cc := cX1_isFighter) (maxL := 2) (ret := (some .boolean)) (by decide) rfl ?_
  intro p e s m args below meth c s₁ B hml hv
  obtain ⟨rfl, hsz, hP, hK, hD0⟩ := hv
  have hx := B.exec
  have hb := B.bytes
  have hr := B.returns
  have hts := atoms_spec (ws := wsX1_isFighter) B.pre
  have hown : s.vm.findClass RX1 = some m.cls := findClass_of_methodNamed B.named
  have hlocks := B.notSynchronized
  subst hsz
  have hD := hD0.self (sz := s.heap.size)
  generalize hAe : va_A ([(a0, .inr (1, [.ref a1, .ref a3, .ref a6, .ref a8, .int rd, .int tu, .int la, .int (bI dl), .int sh, .int tb])), (a1, .inr (4, [.int ft.1, .ref a2, .int ft.2.2.2])), (a2, .inl (cI, ft.2.1, .inl ft.2.2.1)), (a3, .inr (0, [.ref a4, .int eb])), (a4, .inr (4, [.int er.1, .ref a5, .int er.2.2.2])), (a5, .inl (cI, er.2.1, .inl er.2.2.1)), (a6, .inr (4, [.int li.1, .ref a7, .int li.2.2.2])), (a7, .inl (cI, li.2.1, .inl li.2.2.1)), (a8, .inr (4, [.int st.1, .ref a9, .int st.2.2.2])), (a9, .inl (cI, st.2.1, .inl st.2.2.1))]) s.heap.size = A at hD ⊢
  have hA : ∀ q : Nat, s.heap.size ≤ q → A q := fun q h => by rw [← hAe]; exact Or.inr h
  have hS : va_S A s.heap s.heap [] := va_S.rf
  have hw0 := hts (.fieldLink RX1 16 "SpeedTurns$Game" "fighters" "LSpeedTurns$Table;") (List.mem_of_getElem? (i := 1) rfl)
  show W p l e ({ frames := 1, cells := 0, slots := 0, locals := 20 } : Room) s m _ below meth c s.heap [] 0 0 _ _
  refine W_genQ (fun Q hQ => ?_)
  have h := hf
  rw [fX1_isFighter] at h
  have hl := lv_entry ([.ref a0, .int p1]) (n := 2) (Nat.le_of_ble_eq_true rfl)
  rw [lg_entry_eq]
  generalize (lg_sl ([.ref a0, .int p1]) ++ List.replicate (2 - (lg_sl ([.ref a0, .int p1])).length) Slot.unset).toArray = ls at hl ⊢
  have hl : lv_has ls 2 [(0, .ref a0), (1, .int p1)] := hl
  refine lv_iload_n hx hb dX1_isFighter_0 rfl (lv_at hl 1 rfl) ?_
  refine lv_if_lt (tgt := 19) hx hb dX1_isFighter_1 (by decide) (fun hc => ?_) (fun hc => ?_)
  · have h := o_t h hc
    refine lv_iconst (v := 0) hx hb dX1_isFighter_19 (by decide) ?_
    obtain rfl := o_s h
    rw [hQ]
    exact end_z hx hb hr rfl rfl hP hD hS dX1_isFighter_20 hlocks
  · have h := o_f h hc
    refine lv_iload_n hx hb dX1_isFighter_4 rfl (lv_at hl 1 rfl) ?_
    refine lv_aload_n hx hb dX1_isFighter_5 rfl (lv_at hl 0 rfl) ?_
    refine va_get (D := G) (ci := 1) (v := .ref a1) (C := RX1) (T := TX1) (N := 10) hx hb hts huX1_isFighter_X1 hown hK.1 hP 0 rfl rfl 0 (by decide) hw0 (fun _ h9 => h9) rfl dX1_isFighter_6 ?_
    obtain ⟨x1, ex1, h⟩ := o_b h
    refine call_iV (As := []) (rest := [.int p1]) (ws2 := [(a0, .inr (1, [.ref a1, .ref a3, .ref a6, .ref a8, .int rd, .int tu, .int la, .int (bI dl), .int sh, .int tb])), (a1, .inr (4, [.int ft.1, .ref a2, .int ft.2.2.2])), (a2, .inl (cI, ft.2.1, .inl ft.2.2.1)), (a3, .inr (0, [.ref a4, .int eb])), (a4, .inr (4, [.int er.1, .ref a5, .int er.2.2.2])), (a5, .inl (cI, er.2.1, .inl er.2.2.1)), (a6, .inr (4, [.int li.1, .ref a7, .int li.2.2.2])), (a7, .inl (cI, li.2.1, .inl li.2.2.1)), (a8, .inr (4, [.int st.1, .ref a9, .int st.2.2.2])), (a9, .inl (cI, st.2.1, .inl st.2.2.1))]) ⟨hx, hb, hml, hown, hts⟩ (cX4_count_ok l G cI cG a1 a2 ft x1 ex1) (cwV 0 hts gX1_isFighter_X4_count_60 rfl rfl rfl hdX4_count ⟨Nat.le_of_ble_eq_true rfl, Nat.le_of_ble_eq_true rfl⟩) hP hD hS hA hK 4 rfl rfl rfl [1, 2] rfl rfl rfl rfl rfl rfl rfl rfl hl.1 (Nat.le_of_ble_eq_true rfl) dX1_isFighter_9 ⟨Nat.zero_le _, Nat.zero_le _⟩ (fun H locs hP hD hS => ?_)
    refine lv_icmp_ge (tgt := 19) hx hb dX1_isFighter_12 (by decide) (fun hc => ?_) (fun hc => ?_)
    · have h := o_t h hc
      refine lv_iconst (v := 0) hx hb dX1_isFighter_19 (by decide) ?_
      obtain rfl := o_s h
      rw [hQ]
      exact end_z hx hb hr rfl rfl hP hD hS dX1_isFighter_20 hlocks
    · have h := o_f h hc
      refine lv_iconst (v := 1) hx hb dX1_isFighter_15 (by decide) ?_
      refine lv_goto (tgt := 20) hx hb dX1_isFighter_16 (by decide) ?_
      obtain rfl := o_s h
      rw [hQ]
      exact end_z hx hb hr rfl rfl hP hD hS dX1_isFighter_20 hlocks
theorem hdX1_presentSpeed : yX1_presentSpeed.cls = RX1 ∧ yX1_presentSpeed.cls ≠ "java/lang/invoke/MethodHandle" ∧ yX1_presentSpeed.cls ≠ "java/lang/invoke/VarHandle" ∧ (parseMethodDescriptor yX1_presentSpeed.desc).map (fun d => d.parameters.length) = some 1 := by decide +kernel
set_option maxHeartbeats 4000000 in
set_option maxRecDepth 100000 in
theorem cX1_presentSpeed_ok (l : Launch) (G : va_G) (cI cG : ClassId) (a0 a1 a2 a3 a4 a5 a6 a7 a8 a9 : Nat) (fu : Nat) (ft : Tab) (er : Tab) (eb : Int32) (li : Tab) (st : Tab) (rd : Int32) (tu : Int32) (la : Int32) (dl : Bool) (sh : Int32) (tb : Int32) (p1 : Int32) (out : Int32) (hf : fX1_presentSpeed fu ft er p1 = some out) : CI l G (tyz cI cG) yX1_presentSpeed wsX1_presentSpeed ({ frames := 2, cells := 0, slots := 0, locals := 47 } : Room) [.ref a0, .int p1] [(a0, .inr (1, [.ref a1, .ref a3, .ref a6, .ref a8, .int rd, .int tu, .int la, .int (bI dl), .int sh, .int tb])), (a1, .inr (4, [.int ft.1, .ref a2, .int ft.2.2.2])), (a2, .inl (cI, ft.2.1, .inl ft.2.2.1)), (a3, .inr (0, [.ref a4, .int eb])), (a4, .inr (4, [.int er.1, .ref a5, .int er.2.2.2])), (a5, .inl (cI, er.2.1, .inl er.2.2.1)), (a6, .inr (4, [.int li.1, .ref a7, .int li.2.2.2])), (a7, .inl (cI, li.2.1, .inl li.2.2.1)), (a8, .inr (4, [.int st.1, .ref a9, .int st.2.2.2])), (a9, .inl (cI, st.2.1, .inl st.2.2.1))] out [(a0, .inr (1, [.ref a1, .ref a3, .ref a6, .ref a8, .int rd, .int tu, .int la, .int (bI dl), .int sh, .int tb])), (a1, .inr (4, [.int ft.1, .ref a2, .int ft.2.2.2])), (a2, .inl (cI, ft.2.1, .inl ft.2.2.1)), (a3, .inr (0, [.ref a4, .int eb])), (a4, .inr (4, [.int er.1, .ref a5, .int er.2.2.2])), (a5, .inl (cI, er.2.1, .inl er.2.2.1)), (a6, .inr (4, [.int li.1, .ref a7, .int li.2.2.2])), (a7, .inl (cI, li.2.1, .inl li.2.2.1)), (a8, .inr (4, [.int st.1, .ref a9, .int st.2.2.2])), (a9, .inl (cI, st.2.1, .inl st.2.2.1))] := by
  intro sz
  refine Met.ofW (cc := cX1_presentSpeed) (maxL := 4) (ret := (some .int)) (by decide) rfl ?_
  intro p e s m args below meth c s₁ B hml hv
  obtain ⟨rfl, hsz, hP, hK, hD0⟩ := hv
  have hx := B.exec
  have hb := B.bytes
  have hr := B.returns
  have hts := atoms_spec (ws := wsX1_presentSpeed) B.pre
  have hown : s.vm.findClass RX1 = some m.cls := findClass_of_methodNamed B.named
  have hlocks := B.notSynchronized
  subst hsz
  have hD := hD0.self (sz := s.heap.size)
  generalize hAe : va_A ([(a0, .inr (1, [.ref a1, .ref a3, .ref a6, .ref a8, .int rd, .int tu, .int la, .int (bI dl), .int sh, .int tb])), (a1, .inr (4, [.int ft.1, .ref a2, .int ft.2.2.2])), (a2, .inl (cI, ft.2.1, .inl ft.2.2.1)), (a3, .inr (0, [.ref a4, .int eb])), (a4, .inr (4, [.int er.1, .ref a5, .int er.2.2.2])), (a5, .inl (cI, er.2.1, .inl er.2.2.1)), (a6, .inr (4, [.int li.1, .ref a7, .int li.2.2.2])), (a7, .inl (cI, li.2.1, .inl li.2.2.1)), (a8, .inr (4, [.int st.1, .ref a9, .int st.2.2.2])), (a9, .inl (cI, st.2.1, .inl st.2.2.1))]) s.heap.size = A at hD ⊢
  have hA : ∀ q : Nat, s.heap.size ≤ q → A q := fun q h => by rw [← hAe]; exact Or.inr h
  have hS : va_S A s.heap s.heap [] := va_S.rf
  have hw0 := hts (.fieldLink RX1 23 "SpeedTurns$Game" "effects" "LSpeedTurns$Effects;") (List.mem_of_getElem? (i := 1) rfl)
  have hw1 := hts (.fieldLink RX1 16 "SpeedTurns$Game" "fighters" "LSpeedTurns$Table;") (List.mem_of_getElem? (i := 6) rfl)
  have hw2 := hts (.methodLink RX1 110 Lib.Math.max.name) (List.mem_of_getElem? (i := 11) rfl)
  have hw3 := hts (.static Lib.Math.max.name) (List.mem_of_getElem? (i := 12) rfl)
  have hw4 := hts (.initialized "java/lang/Math") (List.mem_of_getElem? (i := 13) rfl)
  have hw5 := hts (.code Lib.Math.max.name Lib.Math.max.code 2 (some .int)) (List.mem_of_getElem? (i := 14) rfl)
  show W p l e ({ frames := 2, cells := 0, slots := 0, locals := 47 } : Room) s m _ below meth c s.heap [] 0 0 _ _
  refine W_genQ (fun Q hQ => ?_)
  have h := hf
  rw [fX1_presentSpeed] at h
  have hl := lv_entry ([.ref a0, .int p1]) (n := 4) (Nat.le_of_ble_eq_true rfl)
  rw [lg_entry_eq]
  generalize (lg_sl ([.ref a0, .int p1]) ++ List.replicate (4 - (lg_sl ([.ref a0, .int p1])).length) Slot.unset).toArray = ls at hl ⊢
  have hl : lv_has ls 4 [(0, .ref a0), (1, .int p1)] := hl
  refine lv_aload_n hx hb dX1_presentSpeed_0 rfl (lv_at hl 0 rfl) ?_
  refine va_get (D := G) (ci := 1) (v := .ref a3) (C := RX1) (T := TX1) (N := 10) hx hb hts huX1_presentSpeed_X1 hown hK.1 hP 0 rfl rfl 1 (by decide) hw0 (fun _ h9 => h9) rfl dX1_presentSpeed_1 ?_
  refine lv_iload_n hx hb dX1_presentSpeed_4 rfl (lv_at hl 1 rfl) ?_
  refine lv_iconst (v := 1) hx hb dX1_presentSpeed_5 (by decide) ?_
  obtain ⟨x1, ex1, h⟩ := o_b h
  refine call_iV (As := [.int p1, .int (1 : Int32)]) (rest := []) (ws2 := [(a0, .inr (1, [.ref a1, .ref a3, .ref a6, .ref a8, .int rd, .int tu, .int la, .int (bI dl), .int sh, .int tb])), (a1, .inr (4, [.int ft.1, .ref a2, .int ft.2.2.2])), (a2, .inl (cI, ft.2.1, .inl ft.2.2.1)), (a3, .inr (0, [.ref a4, .int eb])), (a4, .inr (4, [.int er.1, .ref a5, .int er.2.2.2])), (a5, .inl (cI, er.2.1, .inl er.2.2.1)), (a6, .inr (4, [.int li.1, .ref a7, .int li.2.2.2])), (a7, .inl (cI, li.2.1, .inl li.2.2.1)), (a8, .inr (4, [.int st.1, .ref a9, .int st.2.2.2])), (a9, .inl (cI, st.2.1, .inl st.2.2.1))]) ⟨hx, hb, hml, hown, hts⟩ (cX0_powerOn_ok l G cI cG a3 a4 a5 fu er eb p1 (1 : Int32) x1 ex1) (cwV 2 hts gX1_presentSpeed_X0_powerOn_107 rfl rfl rfl hdX0_powerOn ⟨Nat.le_of_ble_eq_true rfl, Nat.le_of_ble_eq_true rfl⟩) hP hD hS hA hK 0 rfl rfl rfl [3, 4, 5] rfl rfl rfl rfl rfl rfl rfl rfl hl.1 (Nat.le_of_ble_eq_true rfl) dX1_presentSpeed_6 ⟨Nat.zero_le _, Nat.zero_le _⟩ (fun H locs hP hD hS => ?_)
  refine lv_istore_n (lv' := [(2, .int x1), (0, .ref a0), (1, .int p1)]) hx hb dX1_presentSpeed_9 rfl hl (by decide) rfl (fun ls hl => ?_)
  refine lv_aload_n hx hb dX1_presentSpeed_10 rfl (lv_at hl 1 rfl) ?_
  refine va_get (D := G) (ci := 1) (v := .ref a3) (C := RX1) (T := TX1) (N := 10) hx hb hts huX1_presentSpeed_X1 hown hK.1 hP 0 rfl rfl 1 (by decide) hw0 (fun _ h9 => h9) rfl dX1_presentSpeed_11 ?_
  refine lv_iload_n hx hb dX1_presentSpeed_14 rfl (lv_at hl 2 rfl) ?_
  refine lv_iconst (v := 2) hx hb dX1_presentSpeed_15 (by decide) ?_
  obtain ⟨x2, ex2, h⟩ := o_b h
  refine call_iV (As := [.int p1, .int (2 : Int32)]) (rest := []) (ws2 := [(a0, .inr (1, [.ref a1, .ref a3, .ref a6, .ref a8, .int rd, .int tu, .int la, .int (bI dl), .int sh, .int tb])), (a1, .inr (4, [.int ft.1, .ref a2, .int ft.2.2.2])), (a2, .inl (cI, ft.2.1, .inl ft.2.2.1)), (a3, .inr (0, [.ref a4, .int eb])), (a4, .inr (4, [.int er.1, .ref a5, .int er.2.2.2])), (a5, .inl (cI, er.2.1, .inl er.2.2.1)), (a6, .inr (4, [.int li.1, .ref a7, .int li.2.2.2])), (a7, .inl (cI, li.2.1, .inl li.2.2.1)), (a8, .inr (4, [.int st.1, .ref a9, .int st.2.2.2])), (a9, .inl (cI, st.2.1, .inl st.2.2.1))]) ⟨hx, hb, hml, hown, hts⟩ (cX0_powerOn_ok l G cI cG a3 a4 a5 fu er eb p1 (2 : Int32) x2 ex2) (cwV 2 hts gX1_presentSpeed_X0_powerOn_107 rfl rfl rfl hdX0_powerOn ⟨Nat.le_of_ble_eq_true rfl, Nat.le_of_ble_eq_true rfl⟩) hP hD hS hA hK 0 rfl rfl rfl [3, 4, 5] rfl rfl rfl rfl rfl rfl rfl rfl hl.1 (Nat.le_of_ble_eq_true rfl) dX1_presentSpeed_16 ⟨Nat.zero_le _, Nat.zero_le _⟩ (fun H locs hP hD hS => ?_)
  refine lv_istore_n (lv' := [(3, .int x2), (2, .int x1), (0, .ref a0), (1, .int p1)]) hx hb dX1_presentSpeed_19 rfl hl (by decide) rfl (fun ls hl => ?_)
  refine lv_iconst (v := 1) hx hb dX1_presentSpeed_20 (by decide) ?_
  refine lv_aload_n hx hb dX1_presentSpeed_21 rfl (lv_at hl 2 rfl) ?_
  refine va_get (D := G) (ci := 1) (v := .ref a1) (C := RX1) (T := TX1) (N := 10) hx hb hts huX1_presentSpeed_X1 hown hK.1 hP 0 rfl rfl 0 (by decide) hw1 (fun _ h9 => h9) rfl dX1_presentSpeed_22 ?_
  refine lv_iload_n hx hb dX1_presentSpeed_25 rfl (lv_at hl 3 rfl) ?_
  refine lv_iconst (v := 0) hx hb dX1_presentSpeed_26 (by decide) ?_
  obtain ⟨x3, ex3, h⟩ := o_b h
  refine call_iV (As := [.int p1, .int (0 : Int32)]) (rest := [.int (1 : Int32)]) (ws2 := [(a0, .inr (1, [.ref a1, .ref a3, .ref a6, .ref a8, .int rd, .int tu, .int la, .int (bI dl), .int sh, .int tb])), (a1, .inr (4, [.int ft.1, .ref a2, .int ft.2.2.2])), (a2, .inl (cI, ft.2.1, .inl ft.2.2.1)), (a3, .inr (0, [.ref a4, .int eb])), (a4, .inr (4, [.int er.1, .ref a5, .int er.2.2.2])), (a5, .inl (cI, er.2.1, .inl er.2.2.1)), (a6, .inr (4, [.int li.1, .ref a7, .int li.2.2.2])), (a7, .inl (cI, li.2.1, .inl li.2.2.1)), (a8, .inr (4, [.int st.1, .ref a9, .int st.2.2.2])), (a9, .inl (cI, st.2.1, .inl st.2.2.1))]) ⟨hx, hb, hml, hown, hts⟩ (cX4_at_ok l G cI cG a1 a2 ft p1 (0 : Int32) x3 ex3) (cwV 2 hts gX1_presentSpeed_X4_at_64 rfl rfl rfl hdX4_at ⟨Nat.le_of_ble_eq_true rfl, Nat.le_of_ble_eq_true rfl⟩) hP hD hS hA hK 4 rfl rfl rfl [1, 2] rfl rfl rfl rfl rfl rfl rfl rfl hl.1 (Nat.le_of_ble_eq_true rfl) dX1_presentSpeed_27 ⟨Nat.zero_le _, Nat.zero_le _⟩ (fun H locs hP hD hS => ?_)
  refine lv_iload_n hx hb dX1_presentSpeed_30 rfl (lv_at hl 1 rfl) ?_
  refine lv_iadd hx hb dX1_presentSpeed_31 ?_
  refine lv_iload_n hx hb dX1_presentSpeed_32 rfl (lv_at hl 0 rfl) ?_
  refine lv_isub hx hb dX1_presentSpeed_33 ?_
  refine va_mmax hx hb (by rw [hml]; exact hl.1.symm) hown hw2 hw3 hw4 hw5 (Nat.le_of_ble_eq_true rfl) (Nat.le_of_ble_eq_true rfl) (Nat.zero_le _) (Nat.zero_le _) dX1_presentSpeed_34 ?_
  obtain rfl := o_s h
  rw [hQ]
  exact end_i hx hb hr rfl hP hD hS dX1_presentSpeed_37 hlocks
theorem hdX1_placeOf : yX1_placeOf.cls = RX1 ∧ yX1_placeOf.cls ≠ "java/lang/invoke/MethodHandle" ∧ yX1_placeOf.cls ≠ "java/lang/invoke/VarHandle" ∧ (parseMethodDescriptor yX1_placeOf.desc).map (fun d => d.parameters.length) = some 1 := by decide +kernel
set_option maxHeartbeats 4000000 in
set_option maxRecDepth 100000 in
theorem cX1_placeOf_ok (l : Launch) (G : va_G) (cI cG : ClassId) (a0 a1 a2 a3 a4 a5 a6 a7 a8 a9 : Nat) (fu : Nat) (ft : Tab) (er : Tab) (eb : Int32) (li : Tab) (st : Tab) (rd : Int32) (tu : Int32) (la : Int32) (dl : Bool) (sh : Int32) (tb : Int32) (p1 : Int32) (out : Int32) (hf : fX1_placeOf fu li p1 = some out) : CI l G (tyz cI cG) yX1_placeOf wsX1_placeOf ({ frames := 1, cells := 0, slots := 0, locals := 23 } : Room) [.ref a0, .int p1] [(a0, .inr (1, [.ref a1, .ref a3, .ref a6, .ref a8, .int rd, .int tu, .int la, .int (bI dl), .int sh, .int tb])), (a1, .inr (4, [.int ft.1, .ref a2, .int ft.2.2.2])), (a2, .inl (cI, ft.2.1, .inl ft.2.2.1)), (a3, .inr (0, [.ref a4, .int eb])), (a4, .inr (4, [.int er.1, .ref a5, .int er.2.2.2])), (a5, .inl (cI, er.2.1, .inl er.2.2.1)), (a6, .inr (4, [.int li.1, .ref a7, .int li.2.2.2])), (a7, .inl (cI, li.2.1, .inl li.2.2.1)), (a8, .inr (4, [.int st.1, .ref a9, .int st.2.2.2])), (a9, .inl (cI, st.2.1, .inl st.2.2.1))] out [(a0, .inr (1, [.ref a1, .ref a3, .ref a6, .ref a8, .int rd, .int tu, .int la, .int (bI dl), .int sh, .int tb])), (a1, .inr (4, [.int ft.1, .ref a2, .int ft.2.2.2])), (a2, .inl (cI, ft.2.1, .inl ft.2.2.1)), (a3, .inr (0, [.ref a4, .int eb])), (a4, .inr (4, [.int er.1, .ref a5, .int er.2.2.2])), (a5, .inl (cI, er.2.1, .inl er.2.2.1)), (a6, .inr (4, [.int li.1, .ref a7, .int li.2.2.2])), (a7, .inl (cI, li.2.1, .inl li.2.2.1)), (a8, .inr (4, [.int st.1, .ref a9, .int st.2.2.2])), (a9, .inl (cI, st.2.1, .inl st.2.2.1))] := by
  intro sz
  refine Met.ofW (cc := cX1_placeOf) (maxL := 3) (ret := (some .int)) (by decide) rfl ?_
  intro p e s m args below meth c s₁ B hml hv
  obtain ⟨rfl, hsz, hP, hK, hD0⟩ := hv
  have hx := B.exec
  have hb := B.bytes
  have hr := B.returns
  have hts := atoms_spec (ws := wsX1_placeOf) B.pre
  have hown : s.vm.findClass RX1 = some m.cls := findClass_of_methodNamed B.named
  have hlocks := B.notSynchronized
  subst hsz
  have hD := hD0.self (sz := s.heap.size)
  generalize hAe : va_A ([(a0, .inr (1, [.ref a1, .ref a3, .ref a6, .ref a8, .int rd, .int tu, .int la, .int (bI dl), .int sh, .int tb])), (a1, .inr (4, [.int ft.1, .ref a2, .int ft.2.2.2])), (a2, .inl (cI, ft.2.1, .inl ft.2.2.1)), (a3, .inr (0, [.ref a4, .int eb])), (a4, .inr (4, [.int er.1, .ref a5, .int er.2.2.2])), (a5, .inl (cI, er.2.1, .inl er.2.2.1)), (a6, .inr (4, [.int li.1, .ref a7, .int li.2.2.2])), (a7, .inl (cI, li.2.1, .inl li.2.2.1)), (a8, .inr (4, [.int st.1, .ref a9, .int st.2.2.2])), (a9, .inl (cI, st.2.1, .inl st.2.2.1))]) s.heap.size = A at hD ⊢
  have hA : ∀ q : Nat, s.heap.size ≤ q → A q := fun q h => by rw [← hAe]; exact Or.inr h
  have hS : va_S A s.heap s.heap [] := va_S.rf
  have hw0 := hts (.fieldLink RX1 27 "SpeedTurns$Game" "list" "LSpeedTurns$Table;") (List.mem_of_getElem? (i := 1) rfl)
  show W p l e ({ frames := 1, cells := 0, slots := 0, locals := 23 } : Room) s m _ below meth c s.heap [] 0 0 _ _
  refine W_genQ (fun Q hQ => ?_)
  have L2 : ∀  (k : Nat) (v2 : Int32) (H : Heap) (locs : List Loc) (ls : Array Slot), fX1_placeOf_L2 fu li p1 k v2 = some out → va_P G vwCl ([(a0, .inr (1, [.ref a1, .ref a3, .ref a6, .ref a8, .int rd, .int tu, .int la, .int (bI dl), .int sh, .int tb])), (a1, .inr (4, [.int ft.1, .ref a2, .int ft.2.2.2])), (a2, .inl (cI, ft.2.1, .inl ft.2.2.1)), (a3, .inr (0, [.ref a4, .int eb])), (a4, .inr (4, [.int er.1, .ref a5, .int er.2.2.2])), (a5, .inl (cI, er.2.1, .inl er.2.2.1)), (a6, .inr (4, [.int li.1, .ref a7, .int li.2.2.2])), (a7, .inl (cI, li.2.1, .inl li.2.2.1)), (a8, .inr (4, [.int st.1, .ref a9, .int st.2.2.2])), (a9, .inl (cI, st.2.1, .inl st.2.2.1))]) H → va_D A ([(a0, .inr (1, [.ref a1, .ref a3, .ref a6, .ref a8, .int rd, .int tu, .int la, .int (bI dl), .int sh, .int tb])), (a1, .inr (4, [.int ft.1, .ref a2, .int ft.2.2.2])), (a2, .inl (cI, ft.2.1, .inl ft.2.2.1)), (a3, .inr (0, [.ref a4, .int eb])), (a4, .inr (4, [.int er.1, .ref a5, .int er.2.2.2])), (a5, .inl (cI, er.2.1, .inl er.2.2.1)), (a6, .inr (4, [.int li.1, .ref a7, .int li.2.2.2])), (a7, .inl (cI, li.2.1, .inl li.2.2.1)), (a8, .inr (4, [.int st.1, .ref a9, .int st.2.2.2])), (a9, .inl (cI, st.2.1, .inl st.2.2.1))]) → va_S A s.heap H locs → lv_has ls 3 [(0, .ref a0), (1, .int p1), (2, .int v2)] → W p l e ({ frames := 1, cells := 0, slots := 0, locals := 23 } : Room) s m ([.ref a0, .int p1] : List Value).toArray below meth c H locs 0 0 Q (F0 m 2 ls []) := by
    intro  k
    induction k with
    | zero => intro v2 H locs ls h hP hD hS hl; rw [fX1_placeOf_L2] at h; exact o_n h
    | succ k ih =>
      intro v2 H locs ls h hP hD hS hl
      rw [fX1_placeOf_L2] at h
      refine lv_iload_n hx hb dX1_placeOf_2 rfl (lv_at hl 2 rfl) ?_
      refine lv_aload_n hx hb dX1_placeOf_3 rfl (lv_at hl 0 rfl) ?_
      refine va_get (D := G) (ci := 1) (v := .ref a6) (C := RX1) (T := TX1) (N := 10) hx hb hts huX1_placeOf_X1 hown hK.1 hP 0 rfl rfl 2 (by decide) hw0 (fun _ h9 => h9) rfl dX1_placeOf_4 ?_
      obtain ⟨x1, ex1, h⟩ := o_b h
      refine call_iV (As := []) (rest := [.int v2]) (ws2 := [(a0, .inr (1, [.ref a1, .ref a3, .ref a6, .ref a8, .int rd, .int tu, .int la, .int (bI dl), .int sh, .int tb])), (a1, .inr (4, [.int ft.1, .ref a2, .int ft.2.2.2])), (a2, .inl (cI, ft.2.1, .inl ft.2.2.1)), (a3, .inr (0, [.ref a4, .int eb])), (a4, .inr (4, [.int er.1, .ref a5, .int er.2.2.2])), (a5, .inl (cI, er.2.1, .inl er.2.2.1)), (a6, .inr (4, [.int li.1, .ref a7, .int li.2.2.2])), (a7, .inl (cI, li.2.1, .inl li.2.2.1)), (a8, .inr (4, [.int st.1, .ref a9, .int st.2.2.2])), (a9, .inl (cI, st.2.1, .inl st.2.2.1))]) ⟨hx, hb, hml, hown, hts⟩ (cX4_count_ok l G cI cG a6 a7 li x1 ex1) (cwV 0 hts gX1_placeOf_X4_count_60 rfl rfl rfl hdX4_count ⟨Nat.le_of_ble_eq_true rfl, Nat.le_of_ble_eq_true rfl⟩) hP hD hS hA hK 4 rfl rfl rfl [6, 7] rfl rfl rfl rfl rfl rfl rfl rfl hl.1 (Nat.le_of_ble_eq_true rfl) dX1_placeOf_7 ⟨Nat.zero_le _, Nat.zero_le _⟩ (fun H locs hP hD hS => ?_)
      refine lv_icmp_ge (tgt := 34) hx hb dX1_placeOf_10 (by decide) (fun hc => ?_) (fun hc => ?_)
      · have h := o_t h hc
        refine lv_iconst (v := (-1)) hx hb dX1_placeOf_34 (by decide) ?_
        obtain rfl := o_s h
        rw [hQ]
        exact end_i hx hb hr rfl hP hD hS dX1_placeOf_35 hlocks
      · have h := o_f h hc
        refine lv_aload_n hx hb dX1_placeOf_13 rfl (lv_at hl 0 rfl) ?_
        refine va_get (D := G) (ci := 1) (v := .ref a6) (C := RX1) (T := TX1) (N := 10) hx hb hts huX1_placeOf_X1 hown hK.1 hP 0 rfl rfl 2 (by decide) hw0 (fun _ h9 => h9) rfl dX1_placeOf_14 ?_
        refine lv_iload_n hx hb dX1_placeOf_17 rfl (lv_at hl 2 rfl) ?_
        refine lv_iconst (v := 0) hx hb dX1_placeOf_18 (by decide) ?_
        obtain ⟨x2, ex2, h⟩ := o_b h
        refine call_iV (As := [.int v2, .int (0 : Int32)]) (rest := []) (ws2 := [(a0, .inr (1, [.ref a1, .ref a3, .ref a6, .ref a8, .int rd, .int tu, .int la, .int (bI dl), .int sh, .int tb])), (a1, .inr (4, [.int ft.1, .ref a2, .int ft.2.2.2])), (a2, .inl (cI, ft.2.1, .inl ft.2.2.1)), (a3, .inr (0, [.ref a4, .int eb])), (a4, .inr (4, [.int er.1, .ref a5, .int er.2.2.2])), (a5, .inl (cI, er.2.1, .inl er.2.2.1)), (a6, .inr (4, [.int li.1, .ref a7, .int li.2.2.2])), (a7, .inl (cI, li.2.1, .inl li.2.2.1)), (a8, .inr (4, [.int st.1, .ref a9, .int st.2.2.2])), (a9, .inl (cI, st.2.1, .inl st.2.2.1))]) ⟨hx, hb, hml, hown, hts⟩ (cX4_at_ok l G cI cG a6 a7 li v2 (0 : Int32) x2 ex2) (cwV 2 hts gX1_placeOf_X4_at_64 rfl rfl rfl hdX4_at ⟨Nat.le_of_ble_eq_true rfl, Nat.le_of_ble_eq_true rfl⟩) hP hD hS hA hK 4 rfl rfl rfl [6, 7] rfl rfl rfl rfl rfl rfl rfl rfl hl.1 (Nat.le_of_ble_eq_true rfl) dX1_placeOf_19 ⟨Nat.zero_le _, Nat.zero_le _⟩ (fun H locs hP hD hS => ?_)
        refine lv_iload_n hx hb dX1_placeOf_22 rfl (lv_at hl 1 rfl) ?_
        refine lv_icmp_ne (tgt := 28) hx hb dX1_placeOf_23 (by decide) (fun hc => ?_) (fun hc => ?_)
        · have h := o_f h hc
          refine lv_iinc (v := (v2 + 1)) (lv' := [(2, .int (v2 + 1)), (0, .ref a0), (1, .int p1)]) hx hb dX1_placeOf_28 hl (k := 2) rfl rfl (by decide) rfl (fun ls hl => ?_)
          refine lv_goto (tgt := 2) hx hb dX1_placeOf_31 (by decide) ?_
          exact ih (v2 + 1) _ _ _ h hP hD hS (lv_sub hl [1, 2, 0] rfl)
        · have h := o_t h hc
          refine lv_iload_n hx hb dX1_placeOf_26 rfl (lv_at hl 2 rfl) ?_
          obtain rfl := o_s h
          rw [hQ]
          exact end_i hx hb hr rfl hP hD hS dX1_placeOf_27 hlocks
  have h := hf
  rw [fX1_placeOf] at h
  have hl := lv_entry ([.ref a0, .int p1]) (n := 3) (Nat.le_of_ble_eq_true rfl)
  rw [lg_entry_eq]
  generalize (lg_sl ([.ref a0, .int p1]) ++ List.replicate (3 - (lg_sl ([.ref a0, .int p1])).length) Slot.unset).toArray = ls at hl ⊢
  have hl : lv_has ls 3 [(0, .ref a0), (1, .int p1)] := hl
  refine lv_iconst (v := 0) hx hb dX1_placeOf_0 (by decide) ?_
  refine lv_istore_n (lv' := [(2, .int (0 : Int32)), (0, .ref a0), (1, .int p1)]) hx hb dX1_placeOf_1 rfl hl (by decide) rfl (fun ls hl => ?_)
  exact L2 fu (0 : Int32) _ _ _ h hP hD hS (lv_sub hl [1, 2, 0] rfl)
theorem hdX1_stateOf : yX1_stateOf.cls = RX1 ∧ yX1_stateOf.cls ≠ "java/lang/invoke/MethodHandle" ∧ yX1_stateOf.cls ≠ "java/lang/invoke/VarHandle" ∧ (parseMethodDescriptor yX1_stateOf.desc).map (fun d => d.parameters.length) = some 1 := by decide +kernel
set_option maxHeartbeats 4000000 in
set_option maxRecDepth 100000 in
theorem cX1_stateOf_ok (l : Launch) (G : va_G) (cI cG : ClassId) (a0 a1 a2 a3 a4 a5 a6 a7 a8 a9 : Nat) (fu : Nat) (ft : Tab) (er : Tab) (eb : Int32) (li : Tab) (st : Tab) (rd : Int32) (tu : Int32) (la : Int32) (dl : Bool) (sh : Int32) (tb : Int32) (p1 : Int32) (out : Int32) (hf : fX1_stateOf fu li p1 = some out) : CI l G (tyz cI cG) yX1_stateOf wsX1_stateOf ({ frames := 2, cells := 0, slots := 0, locals := 45 } : Room) [.ref a0, .int p1] [(a0, .inr (1, [.ref a1, .ref a3, .ref a6, .ref a8, .int rd, .int tu, .int la, .int (bI dl), .int sh, .int tb])), (a1, .inr (4, [.int ft.1, .ref a2, .int ft.2.2.2])), (a2, .inl (cI, ft.2.1, .inl ft.2.2.1)), (a3, .inr (0, [.ref a4, .int eb])), (a4, .inr (4, [.int er.1, .ref a5, .int er.2.2.2])), (a5, .inl (cI, er.2.1, .inl er.2.2.1)), (a6, .inr (4, [.int li.1, .ref a7, .int li.2.2.2])), (a7, .inl (cI, li.2.1, .inl li.2.2.1)), (a8, .inr (4, [.int st.1, .ref a9, .int st.2.2.2])), (a9, .inl (cI, st.2.1, .inl st.2.2.1))] out [(a0, .inr (1, [.ref a1, .ref a3, .ref a6, .ref a8, .int rd, .int tu, .int la, .int (bI dl), .int sh, .int tb])), (a1, .inr (4, [.int ft.1, .ref a2, .int ft.2.2.2])), (a2, .inl (cI, ft.2.1, .inl ft.2.2.1)), (a3, .inr (0, [.ref a4, .int eb])), (a4, .inr (4, [.int er.1, .ref a5, .int er.2.2.2])), (a5, .inl (cI, er.2.1, .inl er.2.2.1)), (a6, .inr (4, [.int li.1, .ref a7, .int li.2.2.2])), (a7, .inl (cI, li.2.1, .inl li.2.2.1)), (a8, .inr (4, [.int st.1, .ref a9, .int st.2.2.2])), (a9, .inl (cI, st.2.1, .inl st.2.2.1))] := by
  intro sz
  refine Met.ofW (cc := cX1_stateOf) (maxL := 2) (ret := (some .int)) (by decide) rfl ?_
  intro p e s m args below meth c s₁ B hml hv
  obtain ⟨rfl, hsz, hP, hK, hD0⟩ := hv
  have hx := B.exec
  have hb := B.bytes
  have hr := B.returns
  have hts := atoms_spec (ws := wsX1_stateOf) B.pre
  have hown : s.vm.findClass RX1 = some m.cls := findClass_of_methodNamed B.named
  have hlocks := B.notSynchronized
  subst hsz
  have hD := hD0.self (sz := s.heap.size)
  generalize hAe : va_A ([(a0, .inr (1, [.ref a1, .ref a3, .ref a6, .ref a8, .int rd, .int tu, .int la, .int (bI dl), .int sh, .int tb])), (a1, .inr (4, [.int ft.1, .ref a2, .int ft.2.2.2])), (a2, .inl (cI, ft.2.1, .inl ft.2.2.1)), (a3, .inr (0, [.ref a4, .int eb])), (a4, .inr (4, [.int er.1, .ref a5, .int er.2.2.2])), (a5, .inl (cI, er.2.1, .inl er.2.2.1)), (a6, .inr (4, [.int li.1, .ref a7, .int li.2.2.2])), (a7, .inl (cI, li.2.1, .inl li.2.2.1)), (a8, .inr (4, [.int st.1, .ref a9, .int st.2.2.2])), (a9, .inl (cI, st.2.1, .inl st.2.2.1))]) s.heap.size = A at hD ⊢
  have hA : ∀ q : Nat, s.heap.size ≤ q → A q := fun q h => by rw [← hAe]; exact Or.inr h
  have hS : va_S A s.heap s.heap [] := va_S.rf
  have hw0 := hts (.fieldLink RX1 27 "SpeedTurns$Game" "list" "LSpeedTurns$Table;") (List.mem_of_getElem? (i := 1) rfl)
  show W p l e ({ frames := 2, cells := 0, slots := 0, locals := 45 } : Room) s m _ below meth c s.heap [] 0 0 _ _
  refine W_genQ (fun Q hQ => ?_)
  have h := hf
  rw [fX1_stateOf] at h
  have hl := lv_entry ([.ref a0, .int p1]) (n := 2) (Nat.le_of_ble_eq_true rfl)
  rw [lg_entry_eq]
  generalize (lg_sl ([.ref a0, .int p1]) ++ List.replicate (2 - (lg_sl ([.ref a0, .int p1])).length) Slot.unset).toArray = ls at hl ⊢
  have hl : lv_has ls 2 [(0, .ref a0), (1, .int p1)] := hl
  refine lv_aload_n hx hb dX1_stateOf_0 rfl (lv_at hl 0 rfl) ?_
  refine va_get (D := G) (ci := 1) (v := .ref a6) (C := RX1) (T := TX1) (N := 10) hx hb hts huX1_stateOf_X1 hown hK.1 hP 0 rfl rfl 2 (by decide) hw0 (fun _ h9 => h9) rfl dX1_stateOf_1 ?_
  refine lv_aload_n hx hb dX1_stateOf_4 rfl (lv_at hl 0 rfl) ?_
  refine lv_iload_n hx hb dX1_stateOf_5 rfl (lv_at hl 1 rfl) ?_
  obtain ⟨x1, ex1, h⟩ := o_b h
  refine call_iV (As := [.int p1]) (rest := [.ref a6]) (ws2 := [(a0, .inr (1, [.ref a1, .ref a3, .ref a6, .ref a8, .int rd, .int tu, .int la, .int (bI dl), .int sh, .int tb])), (a1, .inr (4, [.int ft.1, .ref a2, .int ft.2.2.2])), (a2, .inl (cI, ft.2.1, .inl ft.2.2.1)), (a3, .inr (0, [.ref a4, .int eb])), (a4, .inr (4, [.int er.1, .ref a5, .int er.2.2.2])), (a5, .inl (cI, er.2.1, .inl er.2.2.1)), (a6, .inr (4, [.int li.1, .ref a7, .int li.2.2.2])), (a7, .inl (cI, li.2.1, .inl li.2.2.1)), (a8, .inr (4, [.int st.1, .ref a9, .int st.2.2.2])), (a9, .inl (cI, st.2.1, .inl st.2.2.1))]) ⟨hx, hb, hml, hown, hts⟩ (cX1_placeOf_ok l G cI cG a0 a1 a2 a3 a4 a5 a6 a7 a8 a9 fu ft er eb li st rd tu la dl sh tb p1 x1 ex1) (cwV 1 hts gX1_stateOf_X1_placeOf_75 rfl rfl rfl hdX1_placeOf ⟨Nat.le_of_ble_eq_true rfl, Nat.le_of_ble_eq_true rfl⟩) hP hD hS hA hK 1 rfl rfl rfl [0, 1, 2, 3, 4, 5, 6, 7, 8, 9] rfl rfl rfl rfl rfl rfl rfl rfl hl.1 (Nat.le_of_ble_eq_true rfl) dX1_stateOf_6 ⟨Nat.zero_le _, Nat.zero_le _⟩ (fun H locs hP hD hS => ?_)
  refine lv_iconst (v := 1) hx hb dX1_stateOf_9 (by decide) ?_
  obtain ⟨x2, ex2, h⟩ := o_b h
  refine call_iV (As := [.int x1, .int (1 : Int32)]) (rest := []) (ws2 := [(a0, .inr (1, [.ref a1, .ref a3, .ref a6, .ref a8, .int rd, .int tu, .int la, .int (bI dl), .int sh, .int tb])), (a1, .inr (4, [.int ft.1, .ref a2, .int ft.2.2.2])), (a2, .inl (cI, ft.2.1, .inl ft.2.2.1)), (a3, .inr (0, [.ref a4, .int eb])), (a4, .inr (4, [.int er.1, .ref a5, .int er.2.2.2])), (a5, .inl (cI, er.2.1, .inl er.2.2.1)), (a6, .inr (4, [.int li.1, .ref a7, .int li.2.2.2])), (a7, .inl (cI, li.2.1, .inl li.2.2.1)), (a8, .inr (4, [.int st.1, .ref a9, .int st.2.2.2])), (a9, .inl (cI, st.2.1, .inl st.2.2.1))]) ⟨hx, hb, hml, hown, hts⟩ (cX4_at_ok l G cI cG a6 a7 li x1 (1 : Int32) x2 ex2) (cwV 2 hts gX1_stateOf_X4_at_64 rfl rfl rfl hdX4_at ⟨Nat.le_of_ble_eq_true rfl, Nat.le_of_ble_eq_true rfl⟩) hP hD hS hA hK 4 rfl rfl rfl [6, 7] rfl rfl rfl rfl rfl rfl rfl rfl hl.1 (Nat.le_of_ble_eq_true rfl) dX1_stateOf_10 ⟨Nat.zero_le _, Nat.zero_le _⟩ (fun H locs hP hD hS => ?_)
  obtain rfl := o_s h
  rw [hQ]
  exact end_i hx hb hr rfl hP hD hS dX1_stateOf_13 hlocks
theorem hdX1_aboutFighter : yX1_aboutFighter.cls = RX1 ∧ yX1_aboutFighter.cls ≠ "java/lang/invoke/MethodHandle" ∧ yX1_aboutFighter.cls ≠ "java/lang/invoke/VarHandle" ∧ (parseMethodDescriptor yX1_aboutFighter.desc).map (fun d => d.parameters.length) = some 2 := by decide +kernel
set_option maxHeartbeats 4000000 in
set_option maxRecDepth 100000 in
theorem cX1_aboutFighter_ok (l : Launch) (G : va_G) (cI cG : ClassId) (a0 a1 a2 a3 a4 a5 a6 a7 a8 a9 : Nat) (fu : Nat) (ft : Tab) (er : Tab) (eb : Int32) (li : Tab) (st : Tab) (rd : Int32) (tu : Int32) (la : Int32) (dl : Bool) (sh : Int32) (tb : Int32) (p1 : Int32) (p2 : Int32) (out : Int32) (hf : fX1_aboutFighter fu ft er li p1 p2 = some out) : CI l G (tyz cI cG) yX1_aboutFighter wsX1_aboutFighter ({ frames := 3, cells := 0, slots := 0, locals := 70 } : Room) [.ref a0, .int p1, .int p2] [(a0, .inr (1, [.ref a1, .ref a3, .ref a6, .ref a8, .int rd, .int tu, .int la, .int (bI dl), .int sh, .int tb])), (a1, .inr (4, [.int ft.1, .ref a2, .int ft.2.2.2])), (a2, .inl (cI, ft.2.1, .inl ft.2.2.1)), (a3, .inr (0, [.ref a4, .int eb])), (a4, .inr (4, [.int er.1, .ref a5, .int er.2.2.2])), (a5, .inl (cI, er.2.1, .inl er.2.2.1)), (a6, .inr (4, [.int li.1, .ref a7, .int li.2.2.2])), (a7, .inl (cI, li.2.1, .inl li.2.2.1)), (a8, .inr (4, [.int st.1, .ref a9, .int st.2.2.2])), (a9, .inl (cI, st.2.1, .inl st.2.2.1))] out [(a0, .inr (1, [.ref a1, .ref a3, .ref a6, .ref a8, .int rd, .int tu, .int la, .int (bI dl), .int sh, .int tb])), (a1, .inr (4, [.int ft.1, .ref a2, .int ft.2.2.2])), (a2, .inl (cI, ft.2.1, .inl ft.2.2.1)), (a3, .inr (0, [.ref a4, .int eb])), (a4, .inr (4, [.int er.1, .ref a5, .int er.2.2.2])), (a5, .inl (cI, er.2.1, .inl er.2.2.1)), (a6, .inr (4, [.int li.1, .ref a7, .int li.2.2.2])), (a7, .inl (cI, li.2.1, .inl li.2.2.1)), (a8, .inr (4, [.int st.1, .ref a9, .int st.2.2.2])), (a9, .inl (cI, st.2.1, .inl st.2.2.1))] := by
  intro sz
  refine Met.ofW (cc := cX1_aboutFighter) (maxL := 3) (ret := (some .int)) (by decide) rfl ?_
  intro p e s m args below meth c s₁ B hml hv
  obtain ⟨rfl, hsz, hP, hK, hD0⟩ := hv
  have hx := B.exec
  have hb := B.bytes
  have hr := B.returns
  have hts := atoms_spec (ws := wsX1_aboutFighter) B.pre
  have hown : s.vm.findClass RX1 = some m.cls := findClass_of_methodNamed B.named
  have hlocks := B.notSynchronized
  subst hsz
  have hD := hD0.self (sz := s.heap.size)
  generalize hAe : va_A ([(a0, .inr (1, [.ref a1, .ref a3, .ref a6, .ref a8, .int rd, .int tu, .int la, .int (bI dl), .int sh, .int tb])), (a1, .inr (4, [.int ft.1, .ref a2, .int ft.2.2.2])), (a2, .inl (cI, ft.2.1, .inl ft.2.2.1)), (a3, .inr (0, [.ref a4, .int eb])), (a4, .inr (4, [.int er.1, .ref a5, .int er.2.2.2])), (a5, .inl (cI, er.2.1, .inl er.2.2.1)), (a6, .inr (4, [.int li.1, .ref a7, .int li.2.2.2])), (a7, .inl (cI, li.2.1, .inl li.2.2.1)), (a8, .inr (4, [.int st.1, .ref a9, .int st.2.2.2])), (a9, .inl (cI, st.2.1, .inl st.2.2.1))]) s.heap.size = A at hD ⊢
  have hA : ∀ q : Nat, s.heap.size ≤ q → A q := fun q h => by rw [← hAe]; exact Or.inr h
  have hS : va_S A s.heap s.heap [] := va_S.rf
  have hw0 := hts (.fieldLink RX1 16 "SpeedTurns$Game" "fighters" "LSpeedTurns$Table;") (List.mem_of_getElem? (i := 1) rfl)
  have hw1 := hts (.fieldLink RX1 23 "SpeedTurns$Game" "effects" "LSpeedTurns$Effects;") (List.mem_of_getElem? (i := 16) rfl)
  show W p l e ({ frames := 3, cells := 0, slots := 0, locals := 70 } : Room) s m _ below meth c s.heap [] 0 0 _ _
  refine W_genQ (fun Q hQ => ?_)
  have h := hf
  rw [fX1_aboutFighter] at h
  have hl := lv_entry ([.ref a0, .int p1, .int p2]) (n := 3) (Nat.le_of_ble_eq_true rfl)
  rw [lg_entry_eq]
  generalize (lg_sl ([.ref a0, .int p1, .int p2]) ++ List.replicate (3 - (lg_sl ([.ref a0, .int p1, .int p2])).length) Slot.unset).toArray = ls at hl ⊢
  have hl : lv_has ls 3 [(0, .ref a0), (1, .int p1), (2, .int p2)] := hl
  refine lv_iload_n hx hb dX1_aboutFighter_0 rfl (lv_at hl 2 rfl) ?_
  by_cases c1 : p2 = 0
  · have h := o_t h c1
    refine lv_tableIn (off := 47) (tgt := 48) hx hb dX1_aboutFighter_1 (by rw [c1]; decide) (by rw [c1]; decide) (by rw [c1]; rfl) (by decide) ?_
    refine lv_aload_n hx hb dX1_aboutFighter_48 rfl (lv_at hl 0 rfl) ?_
    refine va_get (D := G) (ci := 1) (v := .ref a1) (C := RX1) (T := TX1) (N := 10) hx hb hts huX1_aboutFighter_X1 hown hK.1 hP 0 rfl rfl 0 (by decide) hw0 (fun _ h9 => h9) rfl dX1_aboutFighter_49 ?_
    refine lv_iload_n hx hb dX1_aboutFighter_52 rfl (lv_at hl 1 rfl) ?_
    refine lv_iconst (v := 0) hx hb dX1_aboutFighter_53 (by decide) ?_
    obtain ⟨x2, ex2, h⟩ := o_b h
    refine call_iV (As := [.int p1, .int (0 : Int32)]) (rest := []) (ws2 := [(a0, .inr (1, [.ref a1, .ref a3, .ref a6, .ref a8, .int rd, .int tu, .int la, .int (bI dl), .int sh, .int tb])), (a1, .inr (4, [.int ft.1, .ref a2, .int ft.2.2.2])), (a2, .inl (cI, ft.2.1, .inl ft.2.2.1)), (a3, .inr (0, [.ref a4, .int eb])), (a4, .inr (4, [.int er.1, .ref a5, .int er.2.2.2])), (a5, .inl (cI, er.2.1, .inl er.2.2.1)), (a6, .inr (4, [.int li.1, .ref a7, .int li.2.2.2])), (a7, .inl (cI, li.2.1, .inl li.2.2.1)), (a8, .inr (4, [.int st.1, .ref a9, .int st.2.2.2])), (a9, .inl (cI, st.2.1, .inl st.2.2.1))]) ⟨hx, hb, hml, hown, hts⟩ (cX4_at_ok l G cI cG a1 a2 ft p1 (0 : Int32) x2 ex2) (cwV 2 hts gX1_aboutFighter_X4_at_64 rfl rfl rfl hdX4_at ⟨Nat.le_of_ble_eq_true rfl, Nat.le_of_ble_eq_true rfl⟩) hP hD hS hA hK 4 rfl rfl rfl [1, 2] rfl rfl rfl rfl rfl rfl rfl rfl hl.1 (Nat.le_of_ble_eq_true rfl) dX1_aboutFighter_54 ⟨Nat.zero_le _, Nat.zero_le _⟩ (fun H locs hP hD hS => ?_)
    obtain rfl := o_s h
    rw [hQ]
    exact end_i hx hb hr rfl hP hD hS dX1_aboutFighter_57 hlocks
  have h := o_f h c1
  by_cases c3 : p2 = 1
  · have h := o_t h c3
    refine lv_tableIn (off := 57) (tgt := 58) hx hb dX1_aboutFighter_1 (by rw [c3]; decide) (by rw [c3]; decide) (by rw [c3]; rfl) (by decide) ?_
    refine lv_aload_n hx hb dX1_aboutFighter_58 rfl (lv_at hl 0 rfl) ?_
    refine va_get (D := G) (ci := 1) (v := .ref a1) (C := RX1) (T := TX1) (N := 10) hx hb hts huX1_aboutFighter_X1 hown hK.1 hP 0 rfl rfl 0 (by decide) hw0 (fun _ h9 => h9) rfl dX1_aboutFighter_59 ?_
    refine lv_iload_n hx hb dX1_aboutFighter_62 rfl (lv_at hl 1 rfl) ?_
    refine lv_iconst (v := 1) hx hb dX1_aboutFighter_63 (by decide) ?_
    obtain ⟨x4, ex4, h⟩ := o_b h
    refine call_iV (As := [.int p1, .int (1 : Int32)]) (rest := []) (ws2 := [(a0, .inr (1, [.ref a1, .ref a3, .ref a6, .ref a8, .int rd, .int tu, .int la, .int (bI dl), .int sh, .int tb])), (a1, .inr (4, [.int ft.1, .ref a2, .int ft.2.2.2])), (a2, .inl (cI, ft.2.1, .inl ft.2.2.1)), (a3, .inr (0, [.ref a4, .int eb])), (a4, .inr (4, [.int er.1, .ref a5, .int er.2.2.2])), (a5, .inl (cI, er.2.1, .inl er.2.2.1)), (a6, .inr (4, [.int li.1, .ref a7, .int li.2.2.2])), (a7, .inl (cI, li.2.1, .inl li.2.2.1)), (a8, .inr (4, [.int st.1, .ref a9, .int st.2.2.2])), (a9, .inl (cI, st.2.1, .inl st.2.2.1))]) ⟨hx, hb, hml, hown, hts⟩ (cX4_at_ok l G cI cG a1 a2 ft p1 (1 : Int32) x4 ex4) (cwV 2 hts gX1_aboutFighter_X4_at_64 rfl rfl rfl hdX4_at ⟨Nat.le_of_ble_eq_true rfl, Nat.le_of_ble_eq_true rfl⟩) hP hD hS hA hK 4 rfl rfl rfl [1, 2] rfl rfl rfl rfl rfl rfl rfl rfl hl.1 (Nat.le_of_ble_eq_true rfl) dX1_aboutFighter_64 ⟨Nat.zero_le _, Nat.zero_le _⟩ (fun H locs hP hD hS => ?_)
    obtain rfl := o_s h
    rw [hQ]
    exact end_i hx hb hr rfl hP hD hS dX1_aboutFighter_67 hlocks
  have h := o_f h c3
  by_cases c5 : p2 = 2
  · have h := o_t h c5
    refine lv_tableIn (off := 67) (tgt := 68) hx hb dX1_aboutFighter_1 (by rw [c5]; decide) (by rw [c5]; decide) (by rw [c5]; rfl) (by decide) ?_
    refine lv_aload_n hx hb dX1_aboutFighter_68 rfl (lv_at hl 0 rfl) ?_
    refine va_get (D := G) (ci := 1) (v := .ref a1) (C := RX1) (T := TX1) (N := 10) hx hb hts huX1_aboutFighter_X1 hown hK.1 hP 0 rfl rfl 0 (by decide) hw0 (fun _ h9 => h9) rfl dX1_aboutFighter_69 ?_
    refine lv_iload_n hx hb dX1_aboutFighter_72 rfl (lv_at hl 1 rfl) ?_
    refine lv_iconst (v := 2) hx hb dX1_aboutFighter_73 (by decide) ?_
    obtain ⟨x6, ex6, h⟩ := o_b h
    refine call_iV (As := [.int p1, .int (2 : Int32)]) (rest := []) (ws2 := [(a0, .inr (1, [.ref a1, .ref a3, .ref a6, .ref a8, .int rd, .int tu, .int la, .int (bI dl), .int sh, .int tb])), (a1, .inr (4, [.int ft.1, .ref a2, .int ft.2.2.2])), (a2, .inl (cI, ft.2.1, .inl ft.2.2.1)), (a3, .inr (0, [.ref a4, .int eb])), (a4, .inr (4, [.int er.1, .ref a5, .int er.2.2.2])), (a5, .inl (cI, er.2.1, .inl er.2.2.1)), (a6, .inr (4, [.int li.1, .ref a7, .int li.2.2.2])), (a7, .inl (cI, li.2.1, .inl li.2.2.1)), (a8, .inr (4, [.int st.1, .ref a9, .int st.2.2.2])), (a9, .inl (cI, st.2.1, .inl st.2.2.1))]) ⟨hx, hb, hml, hown, hts⟩ (cX4_at_ok l G cI cG a1 a2 ft p1 (2 : Int32) x6 ex6) (cwV 2 hts gX1_aboutFighter_X4_at_64 rfl rfl rfl hdX4_at ⟨Nat.le_of_ble_eq_true rfl, Nat.le_of_ble_eq_true rfl⟩) hP hD hS hA hK 4 rfl rfl rfl [1, 2] rfl rfl rfl rfl rfl rfl rfl rfl hl.1 (Nat.le_of_ble_eq_true rfl) dX1_aboutFighter_74 ⟨Nat.zero_le _, Nat.zero_le _⟩ (fun H locs hP hD hS => ?_)
    obtain rfl := o_s h
    rw [hQ]
    exact end_i hx hb hr rfl hP hD hS dX1_aboutFighter_77 hlocks
  have h := o_f h c5
  by_cases c7 : p2 = 3
  · have h := o_t h c7
    refine lv_tableIn (off := 77) (tgt := 78) hx hb dX1_aboutFighter_1 (by rw [c7]; decide) (by rw [c7]; decide) (by rw [c7]; rfl) (by decide) ?_
    refine lv_aload_n hx hb dX1_aboutFighter_78 rfl (lv_at hl 0 rfl) ?_
    refine lv_iload_n hx hb dX1_aboutFighter_79 rfl (lv_at hl 1 rfl) ?_
    obtain ⟨x8, ex8, h⟩ := o_b h
    refine call_iV (As := [.int p1]) (rest := []) (ws2 := [(a0, .inr (1, [.ref a1, .ref a3, .ref a6, .ref a8, .int rd, .int tu, .int la, .int (bI dl), .int sh, .int tb])), (a1, .inr (4, [.int ft.1, .ref a2, .int ft.2.2.2])), (a2, .inl (cI, ft.2.1, .inl ft.2.2.1)), (a3, .inr (0, [.ref a4, .int eb])), (a4, .inr (4, [.int er.1, .ref a5, .int er.2.2.2])), (a5, .inl (cI, er.2.1, .inl er.2.2.1)), (a6, .inr (4, [.int li.1, .ref a7, .int li.2.2.2])), (a7, .inl (cI, li.2.1, .inl li.2.2.1)), (a8, .inr (4, [.int st.1, .ref a9, .int st.2.2.2])), (a9, .inl (cI, st.2.1, .inl st.2.2.1))]) ⟨hx, hb, hml, hown, hts⟩ (cX1_presentSpeed_ok l G cI cG a0 a1 a2 a3 a4 a5 a6 a7 a8 a9 fu ft er eb li st rd tu la dl sh tb p1 x8 ex8) (cwV 1 hts gX1_aboutFighter_X1_presentSpeed_68 rfl rfl rfl hdX1_presentSpeed ⟨Nat.le_of_ble_eq_true rfl, Nat.le_of_ble_eq_true rfl⟩) hP hD hS hA hK 1 rfl rfl rfl [0, 1, 2, 3, 4, 5, 6, 7, 8, 9] rfl rfl rfl rfl rfl rfl rfl rfl hl.1 (Nat.le_of_ble_eq_true rfl) dX1_aboutFighter_80 ⟨Nat.zero_le _, Nat.zero_le _⟩ (fun H locs hP hD hS => ?_)
    obtain rfl := o_s h
    rw [hQ]
    exact end_i hx hb hr rfl hP hD hS dX1_aboutFighter_83 hlocks
  have h := o_f h c7
  by_cases c9 : p2 = 4
  · have h := o_t h c9
    refine lv_tableIn (off := 83) (tgt := 84) hx hb dX1_aboutFighter_1 (by rw [c9]; decide) (by rw [c9]; decide) (by rw [c9]; rfl) (by decide) ?_
    refine lv_aload_n hx hb dX1_aboutFighter_84 rfl (lv_at hl 0 rfl) ?_
    refine va_get (D := G) (ci := 1) (v := .ref a1) (C := RX1) (T := TX1) (N := 10) hx hb hts huX1_aboutFighter_X1 hown hK.1 hP 0 rfl rfl 0 (by decide) hw0 (fun _ h9 => h9) rfl dX1_aboutFighter_85 ?_
    refine lv_iload_n hx hb dX1_aboutFighter_88 rfl (lv_at hl 1 rfl) ?_
    refine lv_iconst (v := 3) hx hb dX1_aboutFighter_89 (by decide) ?_
    obtain ⟨x10, ex10, h⟩ := o_b h
    refine call_iV (As := [.int p1, .int (3 : Int32)]) (rest := []) (ws2 := [(a0, .inr (1, [.ref a1, .ref a3, .ref a6, .ref a8, .int rd, .int tu, .int la, .int (bI dl), .int sh, .int tb])), (a1, .inr (4, [.int ft.1, .ref a2, .int ft.2.2.2])), (a2, .inl (cI, ft.2.1, .inl ft.2.2.1)), (a3, .inr (0, [.ref a4, .int eb])), (a4, .inr (4, [.int er.1, .ref a5, .int er.2.2.2])), (a5, .inl (cI, er.2.1, .inl er.2.2.1)), (a6, .inr (4, [.int li.1, .ref a7, .int li.2.2.2])), (a7, .inl (cI, li.2.1, .inl li.2.2.1)), (a8, .inr (4, [.int st.1, .ref a9, .int st.2.2.2])), (a9, .inl (cI, st.2.1, .inl st.2.2.1))]) ⟨hx, hb, hml, hown, hts⟩ (cX4_at_ok l G cI cG a1 a2 ft p1 (3 : Int32) x10 ex10) (cwV 2 hts gX1_aboutFighter_X4_at_64 rfl rfl rfl hdX4_at ⟨Nat.le_of_ble_eq_true rfl, Nat.le_of_ble_eq_true rfl⟩) hP hD hS hA hK 4 rfl rfl rfl [1, 2] rfl rfl rfl rfl rfl rfl rfl rfl hl.1 (Nat.le_of_ble_eq_true rfl) dX1_aboutFighter_90 ⟨Nat.zero_le _, Nat.zero_le _⟩ (fun H locs hP hD hS => ?_)
    obtain rfl := o_s h
    rw [hQ]
    exact end_i hx hb hr rfl hP hD hS dX1_aboutFighter_93 hlocks
  have h := o_f h c9
  by_cases c11 : p2 = 5
  · have h := o_t h c11
    refine lv_tableIn (off := 93) (tgt := 94) hx hb dX1_aboutFighter_1 (by rw [c11]; decide) (by rw [c11]; decide) (by rw [c11]; rfl) (by decide) ?_
    refine lv_aload_n hx hb dX1_aboutFighter_94 rfl (lv_at hl 0 rfl) ?_
    refine lv_iload_n hx hb dX1_aboutFighter_95 rfl (lv_at hl 1 rfl) ?_
    obtain ⟨x12, ex12, h⟩ := o_b h
    refine call_iV (As := [.int p1]) (rest := []) (ws2 := [(a0, .inr (1, [.ref a1, .ref a3, .ref a6, .ref a8, .int rd, .int tu, .int la, .int (bI dl), .int sh, .int tb])), (a1, .inr (4, [.int ft.1, .ref a2, .int ft.2.2.2])), (a2, .inl (cI, ft.2.1, .inl ft.2.2.1)), (a3, .inr (0, [.ref a4, .int eb])), (a4, .inr (4, [.int er.1, .ref a5, .int er.2.2.2])), (a5, .inl (cI, er.2.1, .inl er.2.2.1)), (a6, .inr (4, [.int li.1, .ref a7, .int li.2.2.2])), (a7, .inl (cI, li.2.1, .inl li.2.2.1)), (a8, .inr (4, [.int st.1, .ref a9, .int st.2.2.2])), (a9, .inl (cI, st.2.1, .inl st.2.2.1))]) ⟨hx, hb, hml, hown, hts⟩ (cX1_stateOf_ok l G cI cG a0 a1 a2 a3 a4 a5 a6 a7 a8 a9 fu ft er eb li st rd tu la dl sh tb p1 x12 ex12) (cwV 1 hts gX1_aboutFighter_X1_stateOf_72 rfl rfl rfl hdX1_stateOf ⟨Nat.le_of_ble_eq_true rfl, Nat.le_of_ble_eq_true rfl⟩) hP hD hS hA hK 1 rfl rfl rfl [0, 1, 2, 3, 4, 5, 6, 7, 8, 9] rfl rfl rfl rfl rfl rfl rfl rfl hl.1 (Nat.le_of_ble_eq_true rfl) dX1_aboutFighter_96 ⟨Nat.zero_le _, Nat.zero_le _⟩ (fun H locs hP hD hS => ?_)
    obtain rfl := o_s h
    rw [hQ]
    exact end_i hx hb hr rfl hP hD hS dX1_aboutFighter_99 hlocks
  have h := o_f h c11
  by_cases c13 : p2 = 6
  · have h := o_t h c13
    refine lv_tableIn (off := 99) (tgt := 100) hx hb dX1_aboutFighter_1 (by rw [c13]; decide) (by rw [c13]; decide) (by rw [c13]; rfl) (by decide) ?_
    refine lv_aload_n hx hb dX1_aboutFighter_100 rfl (lv_at hl 0 rfl) ?_
    refine lv_iload_n hx hb dX1_aboutFighter_101 rfl (lv_at hl 1 rfl) ?_
    obtain ⟨x14, ex14, h⟩ := o_b h
    refine call_iV (As := [.int p1]) (rest := []) (ws2 := [(a0, .inr (1, [.ref a1, .ref a3, .ref a6, .ref a8, .int rd, .int tu, .int la, .int (bI dl), .int sh, .int tb])), (a1, .inr (4, [.int ft.1, .ref a2, .int ft.2.2.2])), (a2, .inl (cI, ft.2.1, .inl ft.2.2.1)), (a3, .inr (0, [.ref a4, .int eb])), (a4, .inr (4, [.int er.1, .ref a5, .int er.2.2.2])), (a5, .inl (cI, er.2.1, .inl er.2.2.1)), (a6, .inr (4, [.int li.1, .ref a7, .int li.2.2.2])), (a7, .inl (cI, li.2.1, .inl li.2.2.1)), (a8, .inr (4, [.int st.1, .ref a9, .int st.2.2.2])), (a9, .inl (cI, st.2.1, .inl st.2.2.1))]) ⟨hx, hb, hml, hown, hts⟩ (cX1_placeOf_ok l G cI cG a0 a1 a2 a3 a4 a5 a6 a7 a8 a9 fu ft er eb li st rd tu la dl sh tb p1 x14 ex14) (cwV 1 hts gX1_aboutFighter_X1_placeOf_75 rfl rfl rfl hdX1_placeOf ⟨Nat.le_of_ble_eq_true rfl, Nat.le_of_ble_eq_true rfl⟩) hP hD hS hA hK 1 rfl rfl rfl [0, 1, 2, 3, 4, 5, 6, 7, 8, 9] rfl rfl rfl rfl rfl rfl rfl rfl hl.1 (Nat.le_of_ble_eq_true rfl) dX1_aboutFighter_102 ⟨Nat.zero_le _, Nat.zero_le _⟩ (fun H locs hP hD hS => ?_)
    obtain rfl := o_s h
    rw [hQ]
    exact end_i hx hb hr rfl hP hD hS dX1_aboutFighter_105 hlocks
  have h := o_f h c13
  by_cases c15 : p2 = 7
  · have h := o_t h c15
    refine lv_tableIn (off := 105) (tgt := 106) hx hb dX1_aboutFighter_1 (by rw [c15]; decide) (by rw [c15]; decide) (by rw [c15]; rfl) (by decide) ?_
    refine lv_aload_n hx hb dX1_aboutFighter_106 rfl (lv_at hl 0 rfl) ?_
    refine va_get (D := G) (ci := 1) (v := .ref a3) (C := RX1) (T := TX1) (N := 10) hx hb hts huX1_aboutFighter_X1 hown hK.1 hP 0 rfl rfl 1 (by decide) hw1 (fun _ h9 => h9) rfl dX1_aboutFighter_107 ?_
    refine lv_iload_n hx hb dX1_aboutFighter_110 rfl (lv_at hl 1 rfl) ?_
    obtain ⟨x16, ex16, h⟩ := o_b h
    refine call_iV (As := [.int p1]) (rest := []) (ws2 := [(a0, .inr (1, [.ref a1, .ref a3, .ref a6, .ref a8, .int rd, .int tu, .int la, .int (bI dl), .int sh, .int tb])), (a1, .inr (4, [.int ft.1, .ref a2, .int ft.2.2.2])), (a2, .inl (cI, ft.2.1, .inl ft.2.2.1)), (a3, .inr (0, [.ref a4, .int eb])), (a4, .inr (4, [.int er.1, .ref a5, .int er.2.2.2])), (a5, .inl (cI, er.2.1, .inl er.2.2.1)), (a6, .inr (4, [.int li.1, .ref a7, .int li.2.2.2])), (a7, .inl (cI, li.2.1, .inl li.2.2.1)), (a8, .inr (4, [.int st.1, .ref a9, .int st.2.2.2])), (a9, .inl (cI, st.2.1, .inl st.2.2.1))]) ⟨hx, hb, hml, hown, hts⟩ (cX0_heldBy_ok l G cI cG a3 a4 a5 fu er eb p1 x16 ex16) (cwV 1 hts gX1_aboutFighter_X0_heldBy_78 rfl rfl rfl hdX0_heldBy ⟨Nat.le_of_ble_eq_true rfl, Nat.le_of_ble_eq_true rfl⟩) hP hD hS hA hK 0 rfl rfl rfl [3, 4, 5] rfl rfl rfl rfl rfl rfl rfl rfl hl.1 (Nat.le_of_ble_eq_true rfl) dX1_aboutFighter_111 ⟨Nat.zero_le _, Nat.zero_le _⟩ (fun H locs hP hD hS => ?_)
    obtain rfl := o_s h
    rw [hQ]
    exact end_i hx hb hr rfl hP hD hS dX1_aboutFighter_114 hlocks
  have h := o_f h c15
  have kc1 := ne_ti c1 (z := 0) (by decide)
  have kc3 := ne_ti c3 (z := 1) (by decide)
  have kc5 := ne_ti c5 (z := 2) (by decide)
  have kc7 := ne_ti c7 (z := 3) (by decide)
  have kc9 := ne_ti c9 (z := 4) (by decide)
  have kc11 := ne_ti c11 (z := 5) (by decide)
  have kc13 := ne_ti c13 (z := 6) (by decide)
  have kc15 := ne_ti c15 (z := 7) (by decide)
  refine lv_tableOut (tgt := 115) hx hb dX1_aboutFighter_1 (by omega) (by decide) ?_
  refine lv_aload_n hx hb dX1_aboutFighter_115 rfl (lv_at hl 0 rfl) ?_
  refine va_get (D := G) (ci := 1) (v := .ref a3) (C := RX1) (T := TX1) (N := 10) hx hb hts huX1_aboutFighter_X1 hown hK.1 hP 0 rfl rfl 1 (by decide) hw1 (fun _ h9 => h9) rfl dX1_aboutFighter_116 ?_
  refine lv_iload_n hx hb dX1_aboutFighter_119 rfl (lv_at hl 1 rfl) ?_
  obtain ⟨x17, ex17, h⟩ := o_b h
  refine call_iV (As := [.int p1]) (rest := []) (ws2 := [(a0, .inr (1, [.ref a1, .ref a3, .ref a6, .ref a8, .int rd, .int tu, .int la, .int (bI dl), .int sh, .int tb])), (a1, .inr (4, [.int ft.1, .ref a2, .int ft.2.2.2])), (a2, .inl (cI, ft.2.1, .inl ft.2.2.1)), (a3, .inr (0, [.ref a4, .int eb])), (a4, .inr (4, [.int er.1, .ref a5, .int er.2.2.2])), (a5, .inl (cI, er.2.1, .inl er.2.2.1)), (a6, .inr (4, [.int li.1, .ref a7, .int li.2.2.2])), (a7, .inl (cI, li.2.1, .inl li.2.2.1)), (a8, .inr (4, [.int st.1, .ref a9, .int st.2.2.2])), (a9, .inl (cI, st.2.1, .inl st.2.2.1))]) ⟨hx, hb, hml, hown, hts⟩ (cX0_countOn_ok l G cI cG a3 a4 a5 fu er eb p1 x17 ex17) (cwV 1 hts gX1_aboutFighter_X0_countOn_81 rfl rfl rfl hdX0_countOn ⟨Nat.le_of_ble_eq_true rfl, Nat.le_of_ble_eq_true rfl⟩) hP hD hS hA hK 0 rfl rfl rfl [3, 4, 5] rfl rfl rfl rfl rfl rfl rfl rfl hl.1 (Nat.le_of_ble_eq_true rfl) dX1_aboutFighter_120 ⟨Nat.zero_le _, Nat.zero_le _⟩ (fun H locs hP hD hS => ?_)
  obtain rfl := o_s h
  rw [hQ]
  exact end_i hx hb hr rfl hP hD hS dX1_aboutFighter_123 hlocks
theorem hdX1_effectCount : yX1_effectCount.cls = RX1 ∧ yX1_effectCount.cls ≠ "java/lang/invoke/MethodHandle" ∧ yX1_effectCount.cls ≠ "java/lang/invoke/VarHandle" ∧ (parseMethodDescriptor yX1_effectCount.desc).map (fun d => d.parameters.length) = some 0 := by decide +kernel
set_option maxHeartbeats 4000000 in
set_option maxRecDepth 100000 in
theorem cX1_effectCount_ok (l : Launch) (G : va_G) (cI cG : ClassId) (a0 a1 a2 a3 a4 a5 a6 a7 a8 a9 : Nat) (ft : Tab) (er : Tab) (eb : Int32) (li : Tab) (st : Tab) (rd : Int32) (tu : Int32) (la : Int32) (dl : Bool) (sh : Int32) (tb : Int32) (out : Int32) (hf : fX1_effectCount er = some out) : CI l G (tyz cI cG) yX1_effectCount wsX1_effectCount ({ frames := 2, cells := 0, slots := 0, locals := 40 } : Room) [.ref a0] [(a0, .inr (1, [.ref a1, .ref a3, .ref a6, .ref a8, .int rd, .int tu, .int la, .int (bI dl), .int sh, .int tb])), (a1, .inr (4, [.int ft.1, .ref a2, .int ft.2.2.2])), (a2, .inl (cI, ft.2.1, .inl ft.2.2.1)), (a3, .inr (0, [.ref a4, .int eb])), (a4, .inr (4, [.int er.1, .ref a5, .int er.2.2.2])), (a5, .inl (cI, er.2.1, .inl er.2.2.1)), (a6, .inr (4, [.int li.1, .ref a7, .int li.2.2.2])), (a7, .inl (cI, li.2.1, .inl li.2.2.1)), (a8, .inr (4, [.int st.1, .ref a9, .int st.2.2.2])), (a9, .inl (cI, st.2.1, .inl st.2.2.1))] out [(a0, .inr (1, [.ref a1, .ref a3, .ref a6, .ref a8, .int rd, .int tu, .int la, .int (bI dl), .int sh, .int tb])), (a1, .inr (4, [.int ft.1, .ref a2, .int ft.2.2.2])), (a2, .inl (cI, ft.2.1, .inl ft.2.2.1)), (a3, .inr (0, [.ref a4, .int eb])), (a4, .inr (4, [.int er.1, .ref a5, .int er.2.2.2])), (a5, .inl (cI, er.2.1, .inl er.2.2.1)), (a6, .inr (4, [.int li.1, .ref a7, .int li.2.2.2])), (a7, .inl (cI, li.2.1, .inl li.2.2.1)), (a8, .inr (4, [.int st.1, .ref a9, .int st.2.2.2])), (a9, .inl (cI, st.2.1, .inl st.2.2.1))] := by
  intro sz
  refine Met.ofW (cc := cX1_effectCount) (maxL := 1) (ret := (some .int)) (by decide) rfl ?_
  intro p e s m args below meth c s₁ B hml hv
  obtain ⟨rfl, hsz, hP, hK, hD0⟩ := hv
  have hx := B.exec
  have hb := B.bytes
  have hr := B.returns
  have hts := atoms_spec (ws := wsX1_effectCount) B.pre
  have hown : s.vm.findClass RX1 = some m.cls := findClass_of_methodNamed B.named
  have hlocks := B.notSynchronized
  subst hsz
  have hD := hD0.self (sz := s.heap.size)
  generalize hAe : va_A ([(a0, .inr (1, [.ref a1, .ref a3, .ref a6, .ref a8, .int rd, .int tu, .int la, .int (bI dl), .int sh, .int tb])), (a1, .inr (4, [.int ft.1, .ref a2, .int ft.2.2.2])), (a2, .inl (cI, ft.2.1, .inl ft.2.2.1)), (a3, .inr (0, [.ref a4, .int eb])), (a4, .inr (4, [.int er.1, .ref a5, .int er.2.2.2])), (a5, .inl (cI, er.2.1, .inl er.2.2.1)), (a6, .inr (4, [.int li.1, .ref a7, .int li.2.2.2])), (a7, .inl (cI, li.2.1, .inl li.2.2.1)), (a8, .inr (4, [.int st.1, .ref a9, .int st.2.2.2])), (a9, .inl (cI, st.2.1, .inl st.2.2.1))]) s.heap.size = A at hD ⊢
  have hA : ∀ q : Nat, s.heap.size ≤ q → A q := fun q h => by rw [← hAe]; exact Or.inr h
  have hS : va_S A s.heap s.heap [] := va_S.rf
  have hw0 := hts (.fieldLink RX1 23 "SpeedTurns$Game" "effects" "LSpeedTurns$Effects;") (List.mem_of_getElem? (i := 1) rfl)
  show W p l e ({ frames := 2, cells := 0, slots := 0, locals := 40 } : Room) s m _ below meth c s.heap [] 0 0 _ _
  refine W_genQ (fun Q hQ => ?_)
  have h := hf
  rw [fX1_effectCount] at h
  have hl := lv_entry ([.ref a0]) (n := 1) (Nat.le_of_ble_eq_true rfl)
  rw [lg_entry_eq]
  generalize (lg_sl ([.ref a0]) ++ List.replicate (1 - (lg_sl ([.ref a0])).length) Slot.unset).toArray = ls at hl ⊢
  have hl : lv_has ls 1 [(0, .ref a0)] := hl
  refine lv_aload_n hx hb dX1_effectCount_0 rfl (lv_at hl 0 rfl) ?_
  refine va_get (D := G) (ci := 1) (v := .ref a3) (C := RX1) (T := TX1) (N := 10) hx hb hts huX1_effectCount_X1 hown hK.1 hP 0 rfl rfl 1 (by decide) hw0 (fun _ h9 => h9) rfl dX1_effectCount_1 ?_
  obtain ⟨x1, ex1, h⟩ := o_b h
  refine call_iV (As := []) (rest := []) (ws2 := [(a0, .inr (1, [.ref a1, .ref a3, .ref a6, .ref a8, .int rd, .int tu, .int la, .int (bI dl), .int sh, .int tb])), (a1, .inr (4, [.int ft.1, .ref a2, .int ft.2.2.2])), (a2, .inl (cI, ft.2.1, .inl ft.2.2.1)), (a3, .inr (0, [.ref a4, .int eb])), (a4, .inr (4, [.int er.1, .ref a5, .int er.2.2.2])), (a5, .inl (cI, er.2.1, .inl er.2.2.1)), (a6, .inr (4, [.int li.1, .ref a7, .int li.2.2.2])), (a7, .inl (cI, li.2.1, .inl li.2.2.1)), (a8, .inr (4, [.int st.1, .ref a9, .int st.2.2.2])), (a9, .inl (cI, st.2.1, .inl st.2.2.1))]) ⟨hx, hb, hml, hown, hts⟩ (cX0_count_ok l G cI cG a3 a4 a5 er eb x1 ex1) (cwV 0 hts gX1_effectCount_X0_count_84 rfl rfl rfl hdX0_count ⟨Nat.le_of_ble_eq_true rfl, Nat.le_of_ble_eq_true rfl⟩) hP hD hS hA hK 0 rfl rfl rfl [3, 4, 5] rfl rfl rfl rfl rfl rfl rfl rfl hl.1 (Nat.le_of_ble_eq_true rfl) dX1_effectCount_4 ⟨Nat.zero_le _, Nat.zero_le _⟩ (fun H locs hP hD hS => ?_)
  obtain rfl := o_s h
  rw [hQ]
  exact end_i hx hb hr rfl hP hD hS dX1_effectCount_7 hlocks
theorem hdX1_aboutEffect : yX1_aboutEffect.cls = RX1 ∧ yX1_aboutEffect.cls ≠ "java/lang/invoke/MethodHandle" ∧ yX1_aboutEffect.cls ≠ "java/lang/invoke/VarHandle" ∧ (parseMethodDescriptor yX1_aboutEffect.desc).map (fun d => d.parameters.length) = some 2 := by decide +kernel
set_option maxHeartbeats 4000000 in
set_option maxRecDepth 100000 in
theorem cX1_aboutEffect_ok (l : Launch) (G : va_G) (cI cG : ClassId) (a0 a1 a2 a3 a4 a5 a6 a7 a8 a9 : Nat) (ft : Tab) (er : Tab) (eb : Int32) (li : Tab) (st : Tab) (rd : Int32) (tu : Int32) (la : Int32) (dl : Bool) (sh : Int32) (tb : Int32) (p1 : Int32) (p2 : Int32) (out : Int32) (hf : fX1_aboutEffect er p1 p2 = some out) : CI l G (tyz cI cG) yX1_aboutEffect wsX1_aboutEffect ({ frames := 2, cells := 0, slots := 0, locals := 45 } : Room) [.ref a0, .int p1, .int p2] [(a0, .inr (1, [.ref a1, .ref a3, .ref a6, .ref a8, .int rd, .int tu, .int la, .int (bI dl), .int sh, .int tb])), (a1, .inr (4, [.int ft.1, .ref a2, .int ft.2.2.2])), (a2, .inl (cI, ft.2.1, .inl ft.2.2.1)), (a3, .inr (0, [.ref a4, .int eb])), (a4, .inr (4, [.int er.1, .ref a5, .int er.2.2.2])), (a5, .inl (cI, er.2.1, .inl er.2.2.1)), (a6, .inr (4, [.int li.1, .ref a7, .int li.2.2.2])), (a7, .inl (cI, li.2.1, .inl li.2.2.1)), (a8, .inr (4, [.int st.1, .ref a9, .int st.2.2.2])), (a9, .inl (cI, st.2.1, .inl st.2.2.1))] out [(a0, .inr (1, [.ref a1, .ref a3, .ref a6, .ref a8, .int rd, .int tu, .int la, .int (bI dl), .int sh, .int tb])), (a1, .inr (4, [.int ft.1, .ref a2, .int ft.2.2.2])), (a2, .inl (cI, ft.2.1, .inl ft.2.2.1)), (a3, .inr (0, [.ref a4, .int eb])), (a4, .inr (4, [.int er.1, .ref a5, .int er.2.2.2])), (a5, .inl (cI, er.2.1, .inl er.2.2.1)), (a6, .inr (4, [.int li.1, .ref a7, .int li.2.2.2])), (a7, .inl (cI, li.2.1, .inl li.2.2.1)), (a8, .inr (4, [.int st.1, .ref a9, .int st.2.2.2])), (a9, .inl (cI, st.2.1, .inl st.2.2.1))] := by
  intro sz
  refine Met.ofW (cc := cX1_aboutEffect) (maxL := 3) (ret := (some .int)) (by decide) rfl ?_
  intro p e s m args below meth c s₁ B hml hv
  obtain ⟨rfl, hsz, hP, hK, hD0⟩ := hv
  have hx := B.exec
  have hb := B.bytes
  have hr := B.returns
  have hts := atoms_spec (ws := wsX1_aboutEffect) B.pre
  have hown : s.vm.findClass RX1 = some m.cls := findClass_of_methodNamed B.named
  have hlocks := B.notSynchronized
  subst hsz
  have hD := hD0.self (sz := s.heap.size)
  generalize hAe : va_A ([(a0, .inr (1, [.ref a1, .ref a3, .ref a6, .ref a8, .int rd, .int tu, .int la, .int (bI dl), .int sh, .int tb])), (a1, .inr (4, [.int ft.1, .ref a2, .int ft.2.2.2])), (a2, .inl (cI, ft.2.1, .inl ft.2.2.1)), (a3, .inr (0, [.ref a4, .int eb])), (a4, .inr (4, [.int er.1, .ref a5, .int er.2.2.2])), (a5, .inl (cI, er.2.1, .inl er.2.2.1)), (a6, .inr (4, [.int li.1, .ref a7, .int li.2.2.2])), (a7, .inl (cI, li.2.1, .inl li.2.2.1)), (a8, .inr (4, [.int st.1, .ref a9, .int st.2.2.2])), (a9, .inl (cI, st.2.1, .inl st.2.2.1))]) s.heap.size = A at hD ⊢
  have hA : ∀ q : Nat, s.heap.size ≤ q → A q := fun q h => by rw [← hAe]; exact Or.inr h
  have hS : va_S A s.heap s.heap [] := va_S.rf
  have hw0 := hts (.fieldLink RX1 23 "SpeedTurns$Game" "effects" "LSpeedTurns$Effects;") (List.mem_of_getElem? (i := 1) rfl)
  show W p l e ({ frames := 2, cells := 0, slots := 0, locals := 45 } : Room) s m _ below meth c s.heap [] 0 0 _ _
  refine W_genQ (fun Q hQ => ?_)
  have h := hf
  rw [fX1_aboutEffect] at h
  have hl := lv_entry ([.ref a0, .int p1, .int p2]) (n := 3) (Nat.le_of_ble_eq_true rfl)
  rw [lg_entry_eq]
  generalize (lg_sl ([.ref a0, .int p1, .int p2]) ++ List.replicate (3 - (lg_sl ([.ref a0, .int p1, .int p2])).length) Slot.unset).toArray = ls at hl ⊢
  have hl : lv_has ls 3 [(0, .ref a0), (1, .int p1), (2, .int p2)] := hl
  refine lv_aload_n hx hb dX1_aboutEffect_0 rfl (lv_at hl 0 rfl) ?_
  refine va_get (D := G) (ci := 1) (v := .ref a3) (C := RX1) (T := TX1) (N := 10) hx hb hts huX1_aboutEffect_X1 hown hK.1 hP 0 rfl rfl 1 (by decide) hw0 (fun _ h9 => h9) rfl dX1_aboutEffect_1 ?_
  refine lv_iload_n hx hb dX1_aboutEffect_4 rfl (lv_at hl 1 rfl) ?_
  refine lv_iload_n hx hb dX1_aboutEffect_5 rfl (lv_at hl 2 rfl) ?_
  obtain ⟨x1, ex1, h⟩ := o_b h
  refine call_iV (As := [.int p1, .int p2]) (rest := []) (ws2 := [(a0, .inr (1, [.ref a1, .ref a3, .ref a6, .ref a8, .int rd, .int tu, .int la, .int (bI dl), .int sh, .int tb])), (a1, .inr (4, [.int ft.1, .ref a2, .int ft.2.2.2])), (a2, .inl (cI, ft.2.1, .inl ft.2.2.1)), (a3, .inr (0, [.ref a4, .int eb])), (a4, .inr (4, [.int er.1, .ref a5, .int er.2.2.2])), (a5, .inl (cI, er.2.1, .inl er.2.2.1)), (a6, .inr (4, [.int li.1, .ref a7, .int li.2.2.2])), (a7, .inl (cI, li.2.1, .inl li.2.2.1)), (a8, .inr (4, [.int st.1, .ref a9, .int st.2.2.2])), (a9, .inl (cI, st.2.1, .inl st.2.2.1))]) ⟨hx, hb, hml, hown, hts⟩ (cX0_about_ok l G cI cG a3 a4 a5 er eb p1 p2 x1 ex1) (cwV 2 hts gX1_aboutEffect_X0_about_85 rfl rfl rfl hdX0_about ⟨Nat.le_of_ble_eq_true rfl, Nat.le_of_ble_eq_true rfl⟩) hP hD hS hA hK 0 rfl rfl rfl [3, 4, 5] rfl rfl rfl rfl rfl rfl rfl rfl hl.1 (Nat.le_of_ble_eq_true rfl) dX1_aboutEffect_6 ⟨Nat.zero_le _, Nat.zero_le _⟩ (fun H locs hP hD hS => ?_)
  obtain rfl := o_s h
  rw [hQ]
  exact end_i hx hb hr rfl hP hD hS dX1_aboutEffect_9 hlocks
theorem hdX1_birthOf : yX1_birthOf.cls = RX1 ∧ yX1_birthOf.cls ≠ "java/lang/invoke/MethodHandle" ∧ yX1_birthOf.cls ≠ "java/lang/invoke/VarHandle" ∧ (parseMethodDescriptor yX1_birthOf.desc).map (fun d => d.parameters.length) = some 1 := by decide +kernel
set_option maxHeartbeats 4000000 in
set_option maxRecDepth 100000 in
theorem cX1_birthOf_ok (l : Launch) (G : va_G) (cI cG : ClassId) (a0 a1 a2 a3 a4 a5 a6 a7 a8 a9 : Nat) (ft : Tab) (er : Tab) (eb : Int32) (li : Tab) (st : Tab) (rd : Int32) (tu : Int32) (la : Int32) (dl : Bool) (sh : Int32) (tb : Int32) (p1 : Int32) (out : Int32) (hf : fX1_birthOf er p1 = some out) : CI l G (tyz cI cG) yX1_birthOf wsX1_birthOf ({ frames := 2, cells := 0, slots := 0, locals := 44 } : Room) [.ref a0, .int p1] [(a0, .inr (1, [.ref a1, .ref a3, .ref a6, .ref a8, .int rd, .int tu, .int la, .int (bI dl), .int sh, .int tb])), (a1, .inr (4, [.int ft.1, .ref a2, .int ft.2.2.2])), (a2, .inl (cI, ft.2.1, .inl ft.2.2.1)), (a3, .inr (0, [.ref a4, .int eb])), (a4, .inr (4, [.int er.1, .ref a5, .int er.2.2.2])), (a5, .inl (cI, er.2.1, .inl er.2.2.1)), (a6, .inr (4, [.int li.1, .ref a7, .int li.2.2.2])), (a7, .inl (cI, li.2.1, .inl li.2.2.1)), (a8, .inr (4, [.int st.1, .ref a9, .int st.2.2.2])), (a9, .inl (cI, st.2.1, .inl st.2.2.1))] out [(a0, .inr (1, [.ref a1, .ref a3, .ref a6, .ref a8, .int rd, .int tu, .int la, .int (bI dl), .int sh, .int tb])), (a1, .inr (4, [.int ft.1, .ref a2, .int ft.2.2.2])), (a2, .inl (cI, ft.2.1, .inl ft.2.2.1)), (a3, .inr (0, [.ref a4, .int eb])), (a4, .inr (4, [.int er.1, .ref a5, .int er.2.2.2])), (a5, .inl (cI, er.2.1, .inl er.2.2.1)), (a6, .inr (4, [.int li.1, .ref a7, .int li.2.2.2])), (a7, .inl (cI, li.2.1, .inl li.2.2.1)), (a8, .inr (4, [.int st.1, .ref a9, .int st.2.2.2])), (a9, .inl (cI, st.2.1, .inl st.2.2.1))] := by
  intro sz
  refine Met.ofW (cc := cX1_birthOf) (maxL := 2) (ret := (some .int)) (by decide) rfl ?_
  intro p e s m args below meth c s₁ B hml hv
  obtain ⟨rfl, hsz, hP, hK, hD0⟩ := hv
  have hx := B.exec
  have hb := B.bytes
  have hr := B.returns
  have hts := atoms_spec (ws := wsX1_birthOf) B.pre
  have hown : s.vm.findClass RX1 = some m.cls := findClass_of_methodNamed B.named
  have hlocks := B.notSynchronized
  subst hsz
  have hD := hD0.self (sz := s.heap.size)
  generalize hAe : va_A ([(a0, .inr (1, [.ref a1, .ref a3, .ref a6, .ref a8, .int rd, .int tu, .int la, .int (bI dl), .int sh, .int tb])), (a1, .inr (4, [.int ft.1, .ref a2, .int ft.2.2.2])), (a2, .inl (cI, ft.2.1, .inl ft.2.2.1)), (a3, .inr (0, [.ref a4, .int eb])), (a4, .inr (4, [.int er.1, .ref a5, .int er.2.2.2])), (a5, .inl (cI, er.2.1, .inl er.2.2.1)), (a6, .inr (4, [.int li.1, .ref a7, .int li.2.2.2])), (a7, .inl (cI, li.2.1, .inl li.2.2.1)), (a8, .inr (4, [.int st.1, .ref a9, .int st.2.2.2])), (a9, .inl (cI, st.2.1, .inl st.2.2.1))]) s.heap.size = A at hD ⊢
  have hA : ∀ q : Nat, s.heap.size ≤ q → A q := fun q h => by rw [← hAe]; exact Or.inr h
  have hS : va_S A s.heap s.heap [] := va_S.rf
  have hw0 := hts (.fieldLink RX1 23 "SpeedTurns$Game" "effects" "LSpeedTurns$Effects;") (List.mem_of_getElem? (i := 1) rfl)
  show W p l e ({ frames := 2, cells := 0, slots := 0, locals := 44 } : Room) s m _ below meth c s.heap [] 0 0 _ _
  refine W_genQ (fun Q hQ => ?_)
  have h := hf
  rw [fX1_birthOf] at h
  have hl := lv_entry ([.ref a0, .int p1]) (n := 2) (Nat.le_of_ble_eq_true rfl)
  rw [lg_entry_eq]
  generalize (lg_sl ([.ref a0, .int p1]) ++ List.replicate (2 - (lg_sl ([.ref a0, .int p1])).length) Slot.unset).toArray = ls at hl ⊢
  have hl : lv_has ls 2 [(0, .ref a0), (1, .int p1)] := hl
  refine lv_aload_n hx hb dX1_birthOf_0 rfl (lv_at hl 0 rfl) ?_
  refine va_get (D := G) (ci := 1) (v := .ref a3) (C := RX1) (T := TX1) (N := 10) hx hb hts huX1_birthOf_X1 hown hK.1 hP 0 rfl rfl 1 (by decide) hw0 (fun _ h9 => h9) rfl dX1_birthOf_1 ?_
  refine lv_iload_n hx hb dX1_birthOf_4 rfl (lv_at hl 1 rfl) ?_
  obtain ⟨x1, ex1, h⟩ := o_b h
  refine call_iV (As := [.int p1]) (rest := []) (ws2 := [(a0, .inr (1, [.ref a1, .ref a3, .ref a6, .ref a8, .int rd, .int tu, .int la, .int (bI dl), .int sh, .int tb])), (a1, .inr (4, [.int ft.1, .ref a2, .int ft.2.2.2])), (a2, .inl (cI, ft.2.1, .inl ft.2.2.1)), (a3, .inr (0, [.ref a4, .int eb])), (a4, .inr (4, [.int er.1, .ref a5, .int er.2.2.2])), (a5, .inl (cI, er.2.1, .inl er.2.2.1)), (a6, .inr (4, [.int li.1, .ref a7, .int li.2.2.2])), (a7, .inl (cI, li.2.1, .inl li.2.2.1)), (a8, .inr (4, [.int st.1, .ref a9, .int st.2.2.2])), (a9, .inl (cI, st.2.1, .inl st.2.2.1))]) ⟨hx, hb, hml, hown, hts⟩ (cX0_birthOf_ok l G cI cG a3 a4 a5 er eb p1 x1 ex1) (cwV 1 hts gX1_birthOf_X0_birthOf_88 rfl rfl rfl hdX0_birthOf ⟨Nat.le_of_ble_eq_true rfl, Nat.le_of_ble_eq_true rfl⟩) hP hD hS hA hK 0 rfl rfl rfl [3, 4, 5] rfl rfl rfl rfl rfl rfl rfl rfl hl.1 (Nat.le_of_ble_eq_true rfl) dX1_birthOf_5 ⟨Nat.zero_le _, Nat.zero_le _⟩ (fun H locs hP hD hS => ?_)
  obtain rfl := o_s h
  rw [hQ]
  exact end_i hx hb hr rfl hP hD hS dX1_birthOf_8 hlocks
theorem hdX1_hasEffectBorn : yX1_hasEffectBorn.cls = RX1 ∧ yX1_hasEffectBorn.cls ≠ "java/lang/invoke/MethodHandle" ∧ yX1_hasEffectBorn.cls ≠ "java/lang/invoke/VarHandle" ∧ (parseMethodDescriptor yX1_hasEffectBorn.desc).map (fun d => d.parameters.length) = some 1 := by decide +kernel
set_option maxHeartbeats 4000000 in
set_option maxRecDepth 100000 in
theorem cX1_hasEffectBorn_ok (l : Launch) (G : va_G) (cI cG : ClassId) (a0 a1 a2 a3 a4 a5 a6 a7 a8 a9 : Nat) (fu : Nat) (ft : Tab) (er : Tab) (eb : Int32) (li : Tab) (st : Tab) (rd : Int32) (tu : Int32) (la : Int32) (dl : Bool) (sh : Int32) (tb : Int32) (p1 : Int32) (out : Bool) (hf : fX1_hasEffectBorn fu er p1 = some out) : CI l G (tyz cI cG) yX1_hasEffectBorn wsX1_hasEffectBorn ({ frames := 2, cells := 0, slots := 0, locals := 45 } : Room) [.ref a0, .int p1] [(a0, .inr (1, [.ref a1, .ref a3, .ref a6, .ref a8, .int rd, .int tu, .int la, .int (bI dl), .int sh, .int tb])), (a1, .inr (4, [.int ft.1, .ref a2, .int ft.2.2.2])), (a2, .inl (cI, ft.2.1, .inl ft.2.2.1)), (a3, .inr (0, [.ref a4, .int eb])), (a4, .inr (4, [.int er.1, .ref a5, .int er.2.2.2])), (a5, .inl (cI, er.2.1, .inl er.2.2.1)), (a6, .inr (4, [.int li.1, .ref a7, .int li.2.2.2])), (a7, .inl (cI, li.2.1, .inl li.2.2.1)), (a8, .inr (4, [.int st.1, .ref a9, .int st.2.2.2])), (a9, .inl (cI, st.2.1, .inl st.2.2.1))] (bI out) [(a0, .inr (1, [.ref a1, .ref a3, .ref a6, .ref a8, .int rd, .int tu, .int la, .int (bI dl), .int sh, .int tb])), (a1, .inr (4, [.int ft.1, .ref a2, .int ft.2.2.2])), (a2, .inl (cI, ft.2.1, .inl ft.2.2.1)), (a3, .inr (0, [.ref a4, .int eb])), (a4, .inr (4, [.int er.1, .ref a5, .int er.2.2.2])), (a5, .inl (cI, er.2.1, .inl er.2.2.1)), (a6, .inr (4, [.int li.1, .ref a7, .int li.2.2.2])), (a7, .inl (cI, li.2.1, .inl li.2.2.1)), (a8, .inr (4, [.int st.1, .ref a9, .int st.2.2.2])), (a9, .inl (cI, st.2.1, .inl st.2.2.1))] := by
  intro sz
  refine Met.ofW (cc := cX1_hasEffectBorn) (maxL := 2) (ret := (some .boolean)) (by decide) rfl ?_
  intro p e s m args below meth c s₁ B hml hv
  obtain ⟨rfl, hsz, hP, hK, hD0⟩ := hv
  have hx := B.exec
  have hb := B.bytes
  have hr := B.returns
  have hts := atoms_spec (ws := wsX1_hasEffectBorn) B.pre
  have hown : s.vm.findClass RX1 = some m.cls := findClass_of_methodNamed B.named
  have hlocks := B.notSynchronized
  subst hsz
  have hD := hD0.self (sz := s.heap.size)
  generalize hAe : va_A ([(a0, .inr (1, [.ref a1, .ref a3, .ref a6, .ref a8, .int rd, .int tu, .int la, .int (bI dl), .int sh, .int tb])), (a1, .inr (4, [.int ft.1, .ref a2, .int ft.2.2.2])), (a2, .inl (cI, ft.2.1, .inl ft.2.2.1)), (a3, .inr (0, [.ref a4, .int eb])), (a4, .inr (4, [.int er.1, .ref a5, .int er.2.2.2])), (a5, .inl (cI, er.2.1, .inl er.2.2.1)), (a6, .inr (4, [.int li.1, .ref a7, .int li.2.2.2])), (a7, .inl (cI, li.2.1, .inl li.2.2.1)), (a8, .inr (4, [.int st.1, .ref a9, .int st.2.2.2])), (a9, .inl (cI, st.2.1, .inl st.2.2.1))]) s.heap.size = A at hD ⊢
  have hA : ∀ q : Nat, s.heap.size ≤ q → A q := fun q h => by rw [← hAe]; exact Or.inr h
  have hS : va_S A s.heap s.heap [] := va_S.rf
  have hw0 := hts (.fieldLink RX1 23 "SpeedTurns$Game" "effects" "LSpeedTurns$Effects;") (List.mem_of_getElem? (i := 1) rfl)
  show W p l e ({ frames := 2, cells := 0, slots := 0, locals := 45 } : Room) s m _ below meth c s.heap [] 0 0 _ _
  refine W_genQ (fun Q hQ => ?_)
  have h := hf
  rw [fX1_hasEffectBorn] at h
  have hl := lv_entry ([.ref a0, .int p1]) (n := 2) (Nat.le_of_ble_eq_true rfl)
  rw [lg_entry_eq]
  generalize (lg_sl ([.ref a0, .int p1]) ++ List.replicate (2 - (lg_sl ([.ref a0, .int p1])).length) Slot.unset).toArray = ls at hl ⊢
  have hl : lv_has ls 2 [(0, .ref a0), (1, .int p1)] := hl
  refine lv_aload_n hx hb dX1_hasEffectBorn_0 rfl (lv_at hl 0 rfl) ?_
  refine va_get (D := G) (ci := 1) (v := .ref a3) (C := RX1) (T := TX1) (N := 10) hx hb hts huX1_hasEffectBorn_X1 hown hK.1 hP 0 rfl rfl 1 (by decide) hw0 (fun _ h9 => h9) rfl dX1_hasEffectBorn_1 ?_
  refine lv_iload_n hx hb dX1_hasEffectBorn_4 rfl (lv_at hl 1 rfl) ?_
  obtain ⟨x1, ex1, h⟩ := o_b h
  refine call_iV (As := [.int p1]) (rest := []) (ws2 := [(a0, .inr (1, [.ref a1, .ref a3, .ref a6, .ref a8, .int rd, .int tu, .int la, .int (bI dl), .int sh, .int tb])), (a1, .inr (4, [.int ft.1, .ref a2, .int ft.2.2.2])), (a2, .inl (cI, ft.2.1, .inl ft.2.2.1)), (a3, .inr (0, [.ref a4, .int eb])), (a4, .inr (4, [.int er.1, .ref a5, .int er.2.2.2])), (a5, .inl (cI, er.2.1, .inl er.2.2.1)), (a6, .inr (4, [.int li.1, .ref a7, .int li.2.2.2])), (a7, .inl (cI, li.2.1, .inl li.2.2.1)), (a8, .inr (4, [.int st.1, .ref a9, .int st.2.2.2])), (a9, .inl (cI, st.2.1, .inl st.2.2.1))]) ⟨hx, hb, hml, hown, hts⟩ (cX0_isThere_ok l G cI cG a3 a4 a5 fu er eb p1 x1 ex1) (cwV 1 hts gX1_hasEffectBorn_X0_isThere_91 rfl rfl rfl hdX0_isThere ⟨Nat.le_of_ble_eq_true rfl, Nat.le_of_ble_eq_true rfl⟩) hP hD hS hA hK 0 rfl rfl rfl [3, 4, 5] rfl rfl rfl rfl rfl rfl rfl rfl hl.1 (Nat.le_of_ble_eq_true rfl) dX1_hasEffectBorn_5 ⟨Nat.zero_le _, Nat.zero_le _⟩ (fun H locs hP hD hS => ?_)
  obtain rfl := o_s h
  rw [hQ]
  exact end_z hx hb hr rfl (bI_n _) hP hD hS dX1_hasEffectBorn_8 hlocks
theorem hdX1_stands : yX1_stands.cls = RX1 ∧ yX1_stands.cls ≠ "java/lang/invoke/MethodHandle" ∧ yX1_stands.cls ≠ "java/lang/invoke/VarHandle" ∧ (parseMethodDescriptor yX1_stands.desc).map (fun d => d.parameters.length) = some 1 := by decide +kernel
set_option maxHeartbeats 4000000 in
set_option maxRecDepth 100000 in
theorem cX1_stands_ok (l : Launch) (G : va_G) (cI cG : ClassId) (a0 a1 a2 a3 a4 a5 a6 a7 a8 a9 : Nat) (ft : Tab) (er : Tab) (eb : Int32) (li : Tab) (st : Tab) (rd : Int32) (tu : Int32) (la : Int32) (dl : Bool) (sh : Int32) (tb : Int32) (p1 : Int32) (out : Bool) (hf : fX1_stands ft p1 = some out) : CI l G (tyz cI cG) yX1_stands wsX1_stands ({ frames := 1, cells := 0, slots := 0, locals := 23 } : Room) [.ref a0, .int p1] [(a0, .inr (1, [.ref a1, .ref a3, .ref a6, .ref a8, .int rd, .int tu, .int la, .int (bI dl), .int sh, .int tb])), (a1, .inr (4, [.int ft.1, .ref a2, .int ft.2.2.2])), (a2, .inl (cI, ft.2.1, .inl ft.2.2.1)), (a3, .inr (0, [.ref a4, .int eb])), (a4, .inr (4, [.int er.1, .ref a5, .int er.2.2.2])), (a5, .inl (cI, er.2.1, .inl er.2.2.1)), (a6, .inr (4, [.int li.1, .ref a7, .int li.2.2.2])), (a7, .inl (cI, li.2.1, .inl li.2.2.1)), (a8, .inr (4, [.int st.1, .ref a9, .int st.2.2.2])), (a9, .inl (cI, st.2.1, .inl st.2.2.1))] (bI out) [(a0, .inr (1, [.ref a1, .ref a3, .ref a6, .ref a8, .int rd, .int tu, .int la, .int (bI dl), .int sh, .int tb])), (a1, .inr (4, [.int ft.1, .ref a2, .int ft.2.2.2])), (a2, .inl (cI, ft.2.1, .inl ft.2.2.1)), (a3, .inr (0, [.ref a4, .int eb])), (a4, .inr (4, [.int er.1, .ref a5, .int er.2.2.2])), (a5, .inl (cI, er.2.1, .inl er.2.2.1)), (a6, .inr (4, [.int li.1, .ref a7, .int li.2.2.2])), (a7, .inl (cI, li.2.1, .inl li.2.2.1)), (a8, .inr (4, [.int st.1, .ref a9, .int st.2.2.2])), (a9, .inl (cI, st.2.1, .inl st.2.2.1))] := by
  intro sz
  refine Met.ofW (cc := cX1_stands) (maxL := 2) (ret := (some .boolean)) (by decide) rfl ?_
  intro p e s m args below meth c s₁ B hml hv
  obtain ⟨rfl, hsz, hP, hK, hD0⟩ := hv
  have hx := B.exec
  have hb := B.bytes
  have hr := B.returns
  have hts := atoms_spec (ws := wsX1_stands) B.pre
  have hown : s.vm.findClass RX1 = some m.cls := findClass_of_methodNamed B.named
  have hlocks := B.notSynchronized
  subst hsz
  have hD := hD0.self (sz := s.heap.size)
  generalize hAe : va_A ([(a0, .inr (1, [.ref a1, .ref a3, .ref a6, .ref a8, .int rd, .int tu, .int la, .int (bI dl), .int sh, .int tb])), (a1, .inr (4, [.int ft.1, .ref a2, .int ft.2.2.2])), (a2, .inl (cI, ft.2.1, .inl ft.2.2.1)), (a3, .inr (0, [.ref a4, .int eb])), (a4, .inr (4, [.int er.1, .ref a5, .int er.2.2.2])), (a5, .inl (cI, er.2.1, .inl er.2.2.1)), (a6, .inr (4, [.int li.1, .ref a7, .int li.2.2.2])), (a7, .inl (cI, li.2.1, .inl li.2.2.1)), (a8, .inr (4, [.int st.1, .ref a9, .int st.2.2.2])), (a9, .inl (cI, st.2.1, .inl st.2.2.1))]) s.heap.size = A at hD ⊢
  have hA : ∀ q : Nat, s.heap.size ≤ q → A q := fun q h => by rw [← hAe]; exact Or.inr h
  have hS : va_S A s.heap s.heap [] := va_S.rf
  have hw0 := hts (.fieldLink RX1 16 "SpeedTurns$Game" "fighters" "LSpeedTurns$Table;") (List.mem_of_getElem? (i := 1) rfl)
  show W p l e ({ frames := 1, cells := 0, slots := 0, locals := 23 } : Room) s m _ below meth c s.heap [] 0 0 _ _
  refine W_genQ (fun Q hQ => ?_)
  have h := hf
  rw [fX1_stands] at h
  have hl := lv_entry ([.ref a0, .int p1]) (n := 2) (Nat.le_of_ble_eq_true rfl)
  rw [lg_entry_eq]
  generalize (lg_sl ([.ref a0, .int p1]) ++ List.replicate (2 - (lg_sl ([.ref a0, .int p1])).length) Slot.unset).toArray = ls at hl ⊢
  have hl : lv_has ls 2 [(0, .ref a0), (1, .int p1)] := hl
  refine lv_aload_n hx hb dX1_stands_0 rfl (lv_at hl 0 rfl) ?_
  refine va_get (D := G) (ci := 1) (v := .ref a1) (C := RX1) (T := TX1) (N := 10) hx hb hts huX1_stands_X1 hown hK.1 hP 0 rfl rfl 0 (by decide) hw0 (fun _ h9 => h9) rfl dX1_stands_1 ?_
  refine lv_iload_n hx hb dX1_stands_4 rfl (lv_at hl 1 rfl) ?_
  refine lv_iconst (v := 2) hx hb dX1_stands_5 (by decide) ?_
  obtain ⟨x1, ex1, h⟩ := o_b h
  refine call_iV (As := [.int p1, .int (2 : Int32)]) (rest := []) (ws2 := [(a0, .inr (1, [.ref a1, .ref a3, .ref a6, .ref a8, .int rd, .int tu, .int la, .int (bI dl), .int sh, .int tb])), (a1, .inr (4, [.int ft.1, .ref a2, .int ft.2.2.2])), (a2, .inl (cI, ft.2.1, .inl ft.2.2.1)), (a3, .inr (0, [.ref a4, .int eb])), (a4, .inr (4, [.int er.1, .ref a5, .int er.2.2.2])), (a5, .inl (cI, er.2.1, .inl er.2.2.1)), (a6, .inr (4, [.int li.1, .ref a7, .int li.2.2.2])), (a7, .inl (cI, li.2.1, .inl li.2.2.1)), (a8, .inr (4, [.int st.1, .ref a9, .int st.2.2.2])), (a9, .inl (cI, st.2.1, .inl st.2.2.1))]) ⟨hx, hb, hml, hown, hts⟩ (cX4_at_ok l G cI cG a1 a2 ft p1 (2 : Int32) x1 ex1) (cwV 2 hts gX1_stands_X4_at_64 rfl rfl rfl hdX4_at ⟨Nat.le_of_ble_eq_true rfl, Nat.le_of_ble_eq_true rfl⟩) hP hD hS hA hK 4 rfl rfl rfl [1, 2] rfl rfl rfl rfl rfl rfl rfl rfl hl.1 (Nat.le_of_ble_eq_true rfl) dX1_stands_6 ⟨Nat.zero_le _, Nat.zero_le _⟩ (fun H locs hP hD hS => ?_)
  refine lv_if_le (tgt := 16) hx hb dX1_stands_9 (by decide) (fun hc => ?_) (fun hc => ?_)
  · have h := o_t h hc
    refine lv_iconst (v := 0) hx hb dX1_stands_16 (by decide) ?_
    obtain rfl := o_s h
    rw [hQ]
    exact end_z hx hb hr rfl rfl hP hD hS dX1_stands_17 hlocks
  · have h := o_f h hc
    refine lv_iconst (v := 1) hx hb dX1_stands_12 (by decide) ?_
    refine lv_goto (tgt := 17) hx hb dX1_stands_13 (by decide) ?_
    obtain rfl := o_s h
    rw [hQ]
    exact end_z hx hb hr rfl rfl hP hD hS dX1_stands_17 hlocks
theorem hdX1_standing : yX1_standing.cls = RX1 ∧ yX1_standing.cls ≠ "java/lang/invoke/MethodHandle" ∧ yX1_standing.cls ≠ "java/lang/invoke/VarHandle" ∧ (parseMethodDescriptor yX1_standing.desc).map (fun d => d.parameters.length) = some 0 := by decide +kernel
set_option maxHeartbeats 4000000 in
set_option maxRecDepth 100000 in
theorem cX1_standing_ok (l : Launch) (G : va_G) (cI cG : ClassId) (a0 a1 a2 a3 a4 a5 a6 a7 a8 a9 : Nat) (fu : Nat) (ft : Tab) (er : Tab) (eb : Int32) (li : Tab) (st : Tab) (rd : Int32) (tu : Int32) (la : Int32) (dl : Bool) (sh : Int32) (tb : Int32) (out : Int32) (hf : fX1_standing fu ft = some out) : CI l G (tyz cI cG) yX1_standing wsX1_standing ({ frames := 2, cells := 0, slots := 0, locals := 44 } : Room) [.ref a0] [(a0, .inr (1, [.ref a1, .ref a3, .ref a6, .ref a8, .int rd, .int tu, .int la, .int (bI dl), .int sh, .int tb])), (a1, .inr (4, [.int ft.1, .ref a2, .int ft.2.2.2])), (a2, .inl (cI, ft.2.1, .inl ft.2.2.1)), (a3, .inr (0, [.ref a4, .int eb])), (a4, .inr (4, [.int er.1, .ref a5, .int er.2.2.2])), (a5, .inl (cI, er.2.1, .inl er.2.2.1)), (a6, .inr (4, [.int li.1, .ref a7, .int li.2.2.2])), (a7, .inl (cI, li.2.1, .inl li.2.2.1)), (a8, .inr (4, [.int st.1, .ref a9, .int st.2.2.2])), (a9, .inl (cI, st.2.1, .inl st.2.2.1))] out [(a0, .inr (1, [.ref a1, .ref a3, .ref a6, .ref a8, .int rd, .int tu, .int la, .int (bI dl), .int sh, .int tb])), (a1, .inr (4, [.int ft.1, .ref a2, .int ft.2.2.2])), (a2, .inl (cI, ft.2.1, .inl ft.2.2.1)), (a3, .inr (0, [.ref a4, .int eb])), (a4, .inr (4, [.int er.1, .ref a5, .int er.2.2.2])), (a5, .inl (cI, er.2.1, .inl er.2.2.1)), (a6, .inr (4, [.int li.1, .ref a7, .int li.2.2.2])), (a7, .inl (cI, li.2.1, .inl li.2.2.1)), (a8, .inr (4, [.int st.1, .ref a9, .int st.2.2.2])), (a9, .inl (cI, st.2.1, .inl st.2.2.1))] := by
  intro sz
  refine Met.ofW (cc := cX1_standing) (maxL := 3) (ret := (some .int)) (by decide) rfl ?_
  intro p e s m args below meth c s₁ B hml hv
  obtain ⟨rfl, hsz, hP, hK, hD0⟩ := hv
  have hx := B.exec
  have hb := B.bytes
  have hr := B.returns
  have hts := atoms_spec (ws := wsX1_standing) B.pre
  have hown : s.vm.findClass RX1 = some m.cls := findClass_of_methodNamed B.named
  have hlocks := B.notSynchronized
  subst hsz
  have hD := hD0.self (sz := s.heap.size)
  generalize hAe : va_A ([(a0, .inr (1, [.ref a1, .ref a3, .ref a6, .ref a8, .int rd, .int tu, .int la, .int (bI dl), .int sh, .int tb])), (a1, .inr (4, [.int ft.1, .ref a2, .int ft.2.2.2])), (a2, .inl (cI, ft.2.1, .inl ft.2.2.1)), (a3, .inr (0, [.ref a4, .int eb])), (a4, .inr (4, [.int er.1, .ref a5, .int er.2.2.2])), (a5, .inl (cI, er.2.1, .inl er.2.2.1)), (a6, .inr (4, [.int li.1, .ref a7, .int li.2.2.2])), (a7, .inl (cI, li.2.1, .inl li.2.2.1)), (a8, .inr (4, [.int st.1, .ref a9, .int st.2.2.2])), (a9, .inl (cI, st.2.1, .inl st.2.2.1))]) s.heap.size = A at hD ⊢
  have hA : ∀ q : Nat, s.heap.size ≤ q → A q := fun q h => by rw [← hAe]; exact Or.inr h
  have hS : va_S A s.heap s.heap [] := va_S.rf
  have hw0 := hts (.fieldLink RX1 16 "SpeedTurns$Game" "fighters" "LSpeedTurns$Table;") (List.mem_of_getElem? (i := 1) rfl)
  show W p l e ({ frames := 2, cells := 0, slots := 0, locals := 44 } : Room) s m _ below meth c s.heap [] 0 0 _ _
  refine W_genQ (fun Q hQ => ?_)
  have L4 : ∀  (k : Nat) (v1 : Int32) (v2 : Int32) (H : Heap) (locs : List Loc) (ls : Array Slot), fX1_standing_L4 fu ft k v1 v2 = some out → va_P G vwCl ([(a0, .inr (1, [.ref a1, .ref a3, .ref a6, .ref a8, .int rd, .int tu, .int la, .int (bI dl), .int sh, .int tb])), (a1, .inr (4, [.int ft.1, .ref a2, .int ft.2.2.2])), (a2, .inl (cI, ft.2.1, .inl ft.2.2.1)), (a3, .inr (0, [.ref a4, .int eb])), (a4, .inr (4, [.int er.1, .ref a5, .int er.2.2.2])), (a5, .inl (cI, er.2.1, .inl er.2.2.1)), (a6, .inr (4, [.int li.1, .ref a7, .int li.2.2.2])), (a7, .inl (cI, li.2.1, .inl li.2.2.1)), (a8, .inr (4, [.int st.1, .ref a9, .int st.2.2.2])), (a9, .inl (cI, st.2.1, .inl st.2.2.1))]) H → va_D A ([(a0, .inr (1, [.ref a1, .ref a3, .ref a6, .ref a8, .int rd, .int tu, .int la, .int (bI dl), .int sh, .int tb])), (a1, .inr (4, [.int ft.1, .ref a2, .int ft.2.2.2])), (a2, .inl (cI, ft.2.1, .inl ft.2.2.1)), (a3, .inr (0, [.ref a4, .int eb])), (a4, .inr (4, [.int er.1, .ref a5, .int er.2.2.2])), (a5, .inl (cI, er.2.1, .inl er.2.2.1)), (a6, .inr (4, [.int li.1, .ref a7, .int li.2.2.2])), (a7, .inl (cI, li.2.1, .inl li.2.2.1)), (a8, .inr (4, [.int st.1, .ref a9, .int st.2.2.2])), (a9, .inl (cI, st.2.1, .inl st.2.2.1))]) → va_S A s.heap H locs → lv_has ls 3 [(0, .ref a0), (1, .int v1), (2, .int v2)] → W p l e ({ frames := 2, cells := 0, slots := 0, locals := 44 } : Room) s m ([.ref a0] : List Value).toArray below meth c H locs 0 0 Q (F0 m 4 ls []) := by
    intro  k
    induction k with
    | zero => intro v1 v2 H locs ls h hP hD hS hl; rw [fX1_standing_L4] at h; exact o_n h
    | succ k ih =>
      intro v1 v2 H locs ls h hP hD hS hl
      rw [fX1_standing_L4] at h
      refine lv_iload_n hx hb dX1_standing_4 rfl (lv_at hl 2 rfl) ?_
      refine lv_aload_n hx hb dX1_standing_5 rfl (lv_at hl 0 rfl) ?_
      refine va_get (D := G) (ci := 1) (v := .ref a1) (C := RX1) (T := TX1) (N := 10) hx hb hts huX1_standing_X1 hown hK.1 hP 0 rfl rfl 0 (by decide) hw0 (fun _ h9 => h9) rfl dX1_standing_6 ?_
      obtain ⟨x1, ex1, h⟩ := o_b h
      refine call_iV (As := []) (rest := [.int v2]) (ws2 := [(a0, .inr (1, [.ref a1, .ref a3, .ref a6, .ref a8, .int rd, .int tu, .int la, .int (bI dl), .int sh, .int tb])), (a1, .inr (4, [.int ft.1, .ref a2, .int ft.2.2.2])), (a2, .inl (cI, ft.2.1, .inl ft.2.2.1)), (a3, .inr (0, [.ref a4, .int eb])), (a4, .inr (4, [.int er.1, .ref a5, .int er.2.2.2])), (a5, .inl (cI, er.2.1, .inl er.2.2.1)), (a6, .inr (4, [.int li.1, .ref a7, .int li.2.2.2])), (a7, .inl (cI, li.2.1, .inl li.2.2.1)), (a8, .inr (4, [.int st.1, .ref a9, .int st.2.2.2])), (a9, .inl (cI, st.2.1, .inl st.2.2.1))]) ⟨hx, hb, hml, hown, hts⟩ (cX4_count_ok l G cI cG a1 a2 ft x1 ex1) (cwV 0 hts gX1_standing_X4_count_60 rfl rfl rfl hdX4_count ⟨Nat.le_of_ble_eq_true rfl, Nat.le_of_ble_eq_true rfl⟩) hP hD hS hA hK 4 rfl rfl rfl [1, 2] rfl rfl rfl rfl rfl rfl rfl rfl hl.1 (Nat.le_of_ble_eq_true rfl) dX1_standing_9 ⟨Nat.zero_le _, Nat.zero_le _⟩ (fun H locs hP hD hS => ?_)
      refine lv_icmp_ge (tgt := 32) hx hb dX1_standing_12 (by decide) (fun hc => ?_) (fun hc => ?_)
      · have h := o_t h hc
        refine lv_iload_n hx hb dX1_standing_32 rfl (lv_at hl 1 rfl) ?_
        obtain rfl := o_s h
        rw [hQ]
        exact end_i hx hb hr rfl hP hD hS dX1_standing_33 hlocks
      · have h := o_f h hc
        refine lv_aload_n hx hb dX1_standing_15 rfl (lv_at hl 0 rfl) ?_
        refine lv_iload_n hx hb dX1_standing_16 rfl (lv_at hl 2 rfl) ?_
        obtain ⟨x2, ex2, h⟩ := o_b h
        refine call_iV (As := [.int v2]) (rest := []) (ws2 := [(a0, .inr (1, [.ref a1, .ref a3, .ref a6, .ref a8, .int rd, .int tu, .int la, .int (bI dl), .int sh, .int tb])), (a1, .inr (4, [.int ft.1, .ref a2, .int ft.2.2.2])), (a2, .inl (cI, ft.2.1, .inl ft.2.2.1)), (a3, .inr (0, [.ref a4, .int eb])), (a4, .inr (4, [.int er.1, .ref a5, .int er.2.2.2])), (a5, .inl (cI, er.2.1, .inl er.2.2.1)), (a6, .inr (4, [.int li.1, .ref a7, .int li.2.2.2])), (a7, .inl (cI, li.2.1, .inl li.2.2.1)), (a8, .inr (4, [.int st.1, .ref a9, .int st.2.2.2])), (a9, .inl (cI, st.2.1, .inl st.2.2.1))]) ⟨hx, hb, hml, hown, hts⟩ (cX1_stands_ok l G cI cG a0 a1 a2 a3 a4 a5 a6 a7 a8 a9 ft er eb li st rd tu la dl sh tb v2 x2 ex2) (cwV 1 hts gX1_standing_X1_stands_104 rfl rfl rfl hdX1_stands ⟨Nat.le_of_ble_eq_true rfl, Nat.le_of_ble_eq_true rfl⟩) hP hD hS hA hK 1 rfl rfl rfl [0, 1, 2, 3, 4, 5, 6, 7, 8, 9] rfl rfl rfl rfl rfl rfl rfl rfl hl.1 (Nat.le_of_ble_eq_true rfl) dX1_standing_17 ⟨Nat.zero_le _, Nat.zero_le _⟩ (fun H locs hP hD hS => ?_)
        refine lv_if_eq (tgt := 26) hx hb dX1_standing_20 (by decide) (fun hc => ?_) (fun hc => ?_)
        · have h := o_t h hc
          refine lv_iinc (v := (v2 + 1)) (lv' := [(2, .int (v2 + 1)), (0, .ref a0), (1, .int v1)]) hx hb dX1_standing_26 hl (k := 2) rfl rfl (by decide) rfl (fun ls hl => ?_)
          refine lv_goto (tgt := 4) hx hb dX1_standing_29 (by decide) ?_
          exact ih v1 (v2 + 1) _ _ _ h hP hD hS (lv_sub hl [1, 2, 0] rfl)
        · have h := o_f h hc
          refine lv_iinc (v := (v1 + 1)) (lv' := [(1, .int (v1 + 1)), (0, .ref a0), (2, .int v2)]) hx hb dX1_standing_23 hl (k := 1) rfl rfl (by decide) rfl (fun ls hl => ?_)
          refine lv_iinc (v := (v2 + 1)) (lv' := [(2, .int (v2 + 1)), (1, .int (v1 + 1)), (0, .ref a0)]) hx hb dX1_standing_26 hl (k := 2) rfl rfl (by decide) rfl (fun ls hl => ?_)
          refine lv_goto (tgt := 4) hx hb dX1_standing_29 (by decide) ?_
          exact ih (v1 + 1) (v2 + 1) _ _ _ h hP hD hS (lv_sub hl [2, 1, 0] rfl)
  have h := hf
  rw [fX1_standing] at h
  have hl := lv_entry ([.ref a0]) (n := 3) (Nat.le_of_ble_eq_true rfl)
  rw [lg_entry_eq]
  generalize (lg_sl ([.ref a0]) ++ List.replicate (3 - (lg_sl ([.ref a0])).length) Slot.unset).toArray = ls at hl ⊢
  have hl : lv_has ls 3 [(0, .ref a0)] := hl
  refine lv_iconst (v := 0) hx hb dX1_standing_0 (by decide) ?_
  refine lv_istore_n (lv' := [(1, .int (0 : Int32)), (0, .ref a0)]) hx hb dX1_standing_1 rfl hl (by decide) rfl (fun ls hl => ?_)
  refine lv_iconst (v := 0) hx hb dX1_standing_2 (by decide) ?_
  refine lv_istore_n (lv' := [(2, .int (0 : Int32)), (1, .int (0 : Int32)), (0, .ref a0)]) hx hb dX1_standing_3 rfl hl (by decide) rfl (fun ls hl => ?_)
  exact L4 fu (0 : Int32) (0 : Int32) _ _ _ h hP hD hS (lv_sub hl [2, 1, 0] rfl)
theorem hdX1_number : yX1_number.cls = RX1 ∧ yX1_number.cls ≠ "java/lang/invoke/MethodHandle" ∧ yX1_number.cls ≠ "java/lang/invoke/VarHandle" ∧ (parseMethodDescriptor yX1_number.desc).map (fun d => d.parameters.length) = some 1 := by decide +kernel
set_option maxHeartbeats 4000000 in
set_option maxRecDepth 100000 in
theorem cX1_number_ok (l : Launch) (G : va_G) (cI cG : ClassId) (a0 a1 a2 a3 a4 a5 a6 a7 a8 a9 : Nat) (fu : Nat) (ft : Tab) (er : Tab) (eb : Int32) (li : Tab) (st : Tab) (rd : Int32) (tu : Int32) (la : Int32) (dl : Bool) (sh : Int32) (tb : Int32) (p1 : Int32) (out : Int32) (hf : fX1_number fu ft er eb st rd tu sh tb p1 = some out) : CI l G (tyz cI cG) yX1_number wsX1_number ({ frames := 3, cells := 0, slots := 0, locals := 66 } : Room) [.ref a0, .int p1] [(a0, .inr (1, [.ref a1, .ref a3, .ref a6, .ref a8, .int rd, .int tu, .int la, .int (bI dl), .int sh, .int tb])), (a1, .inr (4, [.int ft.1, .ref a2, .int ft.2.2.2])), (a2, .inl (cI, ft.2.1, .inl ft.2.2.1)), (a3, .inr (0, [.ref a4, .int eb])), (a4, .inr (4, [.int er.1, .ref a5, .int er.2.2.2])), (a5, .inl (cI, er.2.1, .inl er.2.2.1)), (a6, .inr (4, [.int li.1, .ref a7, .int li.2.2.2])), (a7, .inl (cI, li.2.1, .inl li.2.2.1)), (a8, .inr (4, [.int st.1, .ref a9, .int st.2.2.2])), (a9, .inl (cI, st.2.1, .inl st.2.2.1))] out [(a0, .inr (1, [.ref a1, .ref a3, .ref a6, .ref a8, .int rd, .int tu, .int la, .int (bI dl), .int sh, .int tb])), (a1, .inr (4, [.int ft.1, .ref a2, .int ft.2.2.2])), (a2, .inl (cI, ft.2.1, .inl ft.2.2.1)), (a3, .inr (0, [.ref a4, .int eb])), (a4, .inr (4, [.int er.1, .ref a5, .int er.2.2.2])), (a5, .inl (cI, er.2.1, .inl er.2.2.1)), (a6, .inr (4, [.int li.1, .ref a7, .int li.2.2.2])), (a7, .inl (cI, li.2.1, .inl li.2.2.1)), (a8, .inr (4, [.int st.1, .ref a9, .int st.2.2.2])), (a9, .inl (cI, st.2.1, .inl st.2.2.1))] := by
  intro sz
  refine Met.ofW (cc := cX1_number) (maxL := 2) (ret := (some .int)) (by decide) rfl ?_
  intro p e s m args below meth c s₁ B hml hv
  obtain ⟨rfl, hsz, hP, hK, hD0⟩ := hv
  have hx := B.exec
  have hb := B.bytes
  have hr := B.returns
  have hts := atoms_spec (ws := wsX1_number) B.pre
  have hown : s.vm.findClass RX1 = some m.cls := findClass_of_methodNamed B.named
  have hlocks := B.notSynchronized
  subst hsz
  have hD := hD0.self (sz := s.heap.size)
  generalize hAe : va_A ([(a0, .inr (1, [.ref a1, .ref a3, .ref a6, .ref a8, .int rd, .int tu, .int la, .int (bI dl), .int sh, .int tb])), (a1, .inr (4, [.int ft.1, .ref a2, .int ft.2.2.2])), (a2, .inl (cI, ft.2.1, .inl ft.2.2.1)), (a3, .inr (0, [.ref a4, .int eb])), (a4, .inr (4, [.int er.1, .ref a5, .int er.2.2.2])), (a5, .inl (cI, er.2.1, .inl er.2.2.1)), (a6, .inr (4, [.int li.1, .ref a7, .int li.2.2.2])), (a7, .inl (cI, li.2.1, .inl li.2.2.1)), (a8, .inr (4, [.int st.1, .ref a9, .int st.2.2.2])), (a9, .inl (cI, st.2.1, .inl st.2.2.1))]) s.heap.size = A at hD ⊢
  have hA : ∀ q : Nat, s.heap.size ≤ q → A q := fun q h => by rw [← hAe]; exact Or.inr h
  have hS : va_S A s.heap s.heap [] := va_S.rf
  have hw0 := hts (.fieldLink RX1 16 "SpeedTurns$Game" "fighters" "LSpeedTurns$Table;") (List.mem_of_getElem? (i := 1) rfl)
  have hw1 := hts (.fieldLink RX1 23 "SpeedTurns$Game" "effects" "LSpeedTurns$Effects;") (List.mem_of_getElem? (i := 10) rfl)
  have hw2 := hts (.fieldLink RX1 33 "SpeedTurns$Game" "round" "I") (List.mem_of_getElem? (i := 15) rfl)
  have hw3 := hts (.fieldLink RX1 37 "SpeedTurns$Game" "turn" "I") (List.mem_of_getElem? (i := 16) rfl)
  have hw4 := hts (.fieldLink RX1 30 "SpeedTurns$Game" "stack" "LSpeedTurns$Table;") (List.mem_of_getElem? (i := 17) rfl)
  have hw5 := hts (.fieldLink RX1 47 "SpeedTurns$Game" "shock" "I") (List.mem_of_getElem? (i := 18) rfl)
  have hw6 := hts (.fieldLink RX1 50 "SpeedTurns$Game" "turnsBegun" "I") (List.mem_of_getElem? (i := 19) rfl)
  show W p l e ({ frames := 3, cells := 0, slots := 0, locals := 66 } : Room) s m _ below meth c s.heap [] 0 0 _ _
  refine W_genQ (fun Q hQ => ?_)
  have h := hf
  rw [fX1_number] at h
  have hl := lv_entry ([.ref a0, .int p1]) (n := 2) (Nat.le_of_ble_eq_true rfl)
  rw [lg_entry_eq]
  generalize (lg_sl ([.ref a0, .int p1]) ++ List.replicate (2 - (lg_sl ([.ref a0, .int p1])).length) Slot.unset).toArray = ls at hl ⊢
  have hl : lv_has ls 2 [(0, .ref a0), (1, .int p1)] := hl
  refine lv_iload_n hx hb dX1_number_0 rfl (lv_at hl 1 rfl) ?_
  by_cases c1 : p1 = 0
  · have h := o_t h c1
    refine lv_tableIn (off := 47) (tgt := 48) hx hb dX1_number_1 (by rw [c1]; decide) (by rw [c1]; decide) (by rw [c1]; rfl) (by decide) ?_
    refine lv_aload_n hx hb dX1_number_48 rfl (lv_at hl 0 rfl) ?_
    refine va_get (D := G) (ci := 1) (v := .ref a1) (C := RX1) (T := TX1) (N := 10) hx hb hts huX1_number_X1 hown hK.1 hP 0 rfl rfl 0 (by decide) hw0 (fun _ h9 => h9) rfl dX1_number_49 ?_
    obtain ⟨x2, ex2, h⟩ := o_b h
    refine call_iV (As := []) (rest := []) (ws2 := [(a0, .inr (1, [.ref a1, .ref a3, .ref a6, .ref a8, .int rd, .int tu, .int la, .int (bI dl), .int sh, .int tb])), (a1, .inr (4, [.int ft.1, .ref a2, .int ft.2.2.2])), (a2, .inl (cI, ft.2.1, .inl ft.2.2.1)), (a3, .inr (0, [.ref a4, .int eb])), (a4, .inr (4, [.int er.1, .ref a5, .int er.2.2.2])), (a5, .inl (cI, er.2.1, .inl er.2.2.1)), (a6, .inr (4, [.int li.1, .ref a7, .int li.2.2.2])), (a7, .inl (cI, li.2.1, .inl li.2.2.1)), (a8, .inr (4, [.int st.1, .ref a9, .int st.2.2.2])), (a9, .inl (cI, st.2.1, .inl st.2.2.1))]) ⟨hx, hb, hml, hown, hts⟩ (cX4_count_ok l G cI cG a1 a2 ft x2 ex2) (cwV 0 hts gX1_number_X4_count_60 rfl rfl rfl hdX4_count ⟨Nat.le_of_ble_eq_true rfl, Nat.le_of_ble_eq_true rfl⟩) hP hD hS hA hK 4 rfl rfl rfl [1, 2] rfl rfl rfl rfl rfl rfl rfl rfl hl.1 (Nat.le_of_ble_eq_true rfl) dX1_number_52 ⟨Nat.zero_le _, Nat.zero_le _⟩ (fun H locs hP hD hS => ?_)
    obtain rfl := o_s h
    rw [hQ]
    exact end_i hx hb hr rfl hP hD hS dX1_number_55 hlocks
  have h := o_f h c1
  by_cases c3 : p1 = 1
  · have h := o_t h c3
    refine lv_tableIn (off := 55) (tgt := 56) hx hb dX1_number_1 (by rw [c3]; decide) (by rw [c3]; decide) (by rw [c3]; rfl) (by decide) ?_
    refine lv_aload_n hx hb dX1_number_56 rfl (lv_at hl 0 rfl) ?_
    obtain ⟨x4, ex4, h⟩ := o_b h
    refine call_iV (As := []) (rest := []) (ws2 := [(a0, .inr (1, [.ref a1, .ref a3, .ref a6, .ref a8, .int rd, .int tu, .int la, .int (bI dl), .int sh, .int tb])), (a1, .inr (4, [.int ft.1, .ref a2, .int ft.2.2.2])), (a2, .inl (cI, ft.2.1, .inl ft.2.2.1)), (a3, .inr (0, [.ref a4, .int eb])), (a4, .inr (4, [.int er.1, .ref a5, .int er.2.2.2])), (a5, .inl (cI, er.2.1, .inl er.2.2.1)), (a6, .inr (4, [.int li.1, .ref a7, .int li.2.2.2])), (a7, .inl (cI, li.2.1, .inl li.2.2.1)), (a8, .inr (4, [.int st.1, .ref a9, .int st.2.2.2])), (a9, .inl (cI, st.2.1, .inl st.2.2.1))]) ⟨hx, hb, hml, hown, hts⟩ (cX1_standing_ok l G cI cG a0 a1 a2 a3 a4 a5 a6 a7 a8 a9 fu ft er eb li st rd tu la dl sh tb x4 ex4) (cwV 0 hts gX1_number_X1_standing_95 rfl rfl rfl hdX1_standing ⟨Nat.le_of_ble_eq_true rfl, Nat.le_of_ble_eq_true rfl⟩) hP hD hS hA hK 1 rfl rfl rfl [0, 1, 2, 3, 4, 5, 6, 7, 8, 9] rfl rfl rfl rfl rfl rfl rfl rfl hl.1 (Nat.le_of_ble_eq_true rfl) dX1_number_57 ⟨Nat.zero_le _, Nat.zero_le _⟩ (fun H locs hP hD hS => ?_)
    obtain rfl := o_s h
    rw [hQ]
    exact end_i hx hb hr rfl hP hD hS dX1_number_60 hlocks
  have h := o_f h c3
  by_cases c5 : p1 = 2
  · have h := o_t h c5
    refine lv_tableIn (off := 60) (tgt := 61) hx hb dX1_number_1 (by rw [c5]; decide) (by rw [c5]; decide) (by rw [c5]; rfl) (by decide) ?_
    refine lv_aload_n hx hb dX1_number_61 rfl (lv_at hl 0 rfl) ?_
    refine va_get (D := G) (ci := 1) (v := .ref a3) (C := RX1) (T := TX1) (N := 10) hx hb hts huX1_number_X1 hown hK.1 hP 0 rfl rfl 1 (by decide) hw1 (fun _ h9 => h9) rfl dX1_number_62 ?_
    obtain ⟨x6, ex6, h⟩ := o_b h
    refine call_iV (As := []) (rest := []) (ws2 := [(a0, .inr (1, [.ref a1, .ref a3, .ref a6, .ref a8, .int rd, .int tu, .int la, .int (bI dl), .int sh, .int tb])), (a1, .inr (4, [.int ft.1, .ref a2, .int ft.2.2.2])), (a2, .inl (cI, ft.2.1, .inl ft.2.2.1)), (a3, .inr (0, [.ref a4, .int eb])), (a4, .inr (4, [.int er.1, .ref a5, .int er.2.2.2])), (a5, .inl (cI, er.2.1, .inl er.2.2.1)), (a6, .inr (4, [.int li.1, .ref a7, .int li.2.2.2])), (a7, .inl (cI, li.2.1, .inl li.2.2.1)), (a8, .inr (4, [.int st.1, .ref a9, .int st.2.2.2])), (a9, .inl (cI, st.2.1, .inl st.2.2.1))]) ⟨hx, hb, hml, hown, hts⟩ (cX0_count_ok l G cI cG a3 a4 a5 er eb x6 ex6) (cwV 0 hts gX1_number_X0_count_84 rfl rfl rfl hdX0_count ⟨Nat.le_of_ble_eq_true rfl, Nat.le_of_ble_eq_true rfl⟩) hP hD hS hA hK 0 rfl rfl rfl [3, 4, 5] rfl rfl rfl rfl rfl rfl rfl rfl hl.1 (Nat.le_of_ble_eq_true rfl) dX1_number_65 ⟨Nat.zero_le _, Nat.zero_le _⟩ (fun H locs hP hD hS => ?_)
    obtain rfl := o_s h
    rw [hQ]
    exact end_i hx hb hr rfl hP hD hS dX1_number_68 hlocks
  have h := o_f h c5
  by_cases c7 : p1 = 3
  · have h := o_t h c7
    refine lv_tableIn (off := 68) (tgt := 69) hx hb dX1_number_1 (by rw [c7]; decide) (by rw [c7]; decide) (by rw [c7]; rfl) (by decide) ?_
    refine lv_aload_n hx hb dX1_number_69 rfl (lv_at hl 0 rfl) ?_
    refine va_get (D := G) (ci := 1) (v := .int rd) (C := RX1) (T := TX1) (N := 10) hx hb hts huX1_number_X1 hown hK.1 hP 0 rfl rfl 4 (by decide) hw2 (fun _ h9 => h9) rfl dX1_number_70 ?_
    obtain rfl := o_s h
    rw [hQ]
    exact end_i hx hb hr rfl hP hD hS dX1_number_73 hlocks
  have h := o_f h c7
  by_cases c8 : p1 = 4
  · have h := o_t h c8
    refine lv_tableIn (off := 73) (tgt := 74) hx hb dX1_number_1 (by rw [c8]; decide) (by rw [c8]; decide) (by rw [c8]; rfl) (by decide) ?_
    refine lv_aload_n hx hb dX1_number_74 rfl (lv_at hl 0 rfl) ?_
    refine va_get (D := G) (ci := 1) (v := .int tu) (C := RX1) (T := TX1) (N := 10) hx hb hts huX1_number_X1 hown hK.1 hP 0 rfl rfl 5 (by decide) hw3 (fun _ h9 => h9) rfl dX1_number_75 ?_
    obtain rfl := o_s h
    rw [hQ]
    exact end_i hx hb hr rfl hP hD hS dX1_number_78 hlocks
  have h := o_f h c8
  by_cases c9 : p1 = 5
  · have h := o_t h c9
    refine lv_tableIn (off := 78) (tgt := 79) hx hb dX1_number_1 (by rw [c9]; decide) (by rw [c9]; decide) (by rw [c9]; rfl) (by decide) ?_
    refine lv_aload_n hx hb dX1_number_79 rfl (lv_at hl 0 rfl) ?_
    refine va_get (D := G) (ci := 1) (v := .ref a8) (C := RX1) (T := TX1) (N := 10) hx hb hts huX1_number_X1 hown hK.1 hP 0 rfl rfl 3 (by decide) hw4 (fun _ h9 => h9) rfl dX1_number_80 ?_
    obtain ⟨x10, ex10, h⟩ := o_b h
    refine call_iV (As := []) (rest := []) (ws2 := [(a0, .inr (1, [.ref a1, .ref a3, .ref a6, .ref a8, .int rd, .int tu, .int la, .int (bI dl), .int sh, .int tb])), (a1, .inr (4, [.int ft.1, .ref a2, .int ft.2.2.2])), (a2, .inl (cI, ft.2.1, .inl ft.2.2.1)), (a3, .inr (0, [.ref a4, .int eb])), (a4, .inr (4, [.int er.1, .ref a5, .int er.2.2.2])), (a5, .inl (cI, er.2.1, .inl er.2.2.1)), (a6, .inr (4, [.int li.1, .ref a7, .int li.2.2.2])), (a7, .inl (cI, li.2.1, .inl li.2.2.1)), (a8, .inr (4, [.int st.1, .ref a9, .int st.2.2.2])), (a9, .inl (cI, st.2.1, .inl st.2.2.1))]) ⟨hx, hb, hml, hown, hts⟩ (cX4_count_ok l G cI cG a8 a9 st x10 ex10) (cwV 0 hts gX1_number_X4_count_60 rfl rfl rfl hdX4_count ⟨Nat.le_of_ble_eq_true rfl, Nat.le_of_ble_eq_true rfl⟩) hP hD hS hA hK 4 rfl rfl rfl [8, 9] rfl rfl rfl rfl rfl rfl rfl rfl hl.1 (Nat.le_of_ble_eq_true rfl) dX1_number_83 ⟨Nat.zero_le _, Nat.zero_le _⟩ (fun H locs hP hD hS => ?_)
    obtain rfl := o_s h
    rw [hQ]
    exact end_i hx hb hr rfl hP hD hS dX1_number_86 hlocks
  have h := o_f h c9
  by_cases c11 : p1 = 6
  · have h := o_t h c11
    refine lv_tableIn (off := 86) (tgt := 87) hx hb dX1_number_1 (by rw [c11]; decide) (by rw [c11]; decide) (by rw [c11]; rfl) (by decide) ?_
    refine lv_aload_n hx hb dX1_number_87 rfl (lv_at hl 0 rfl) ?_
    refine va_get (D := G) (ci := 1) (v := .int sh) (C := RX1) (T := TX1) (N := 10) hx hb hts huX1_number_X1 hown hK.1 hP 0 rfl rfl 8 (by decide) hw5 (fun _ h9 => h9) rfl dX1_number_88 ?_
    obtain rfl := o_s h
    rw [hQ]
    exact end_i hx hb hr rfl hP hD hS dX1_number_91 hlocks
  have h := o_f h c11
  by_cases c12 : p1 = 7
  · have h := o_t h c12
    refine lv_tableIn (off := 91) (tgt := 92) hx hb dX1_number_1 (by rw [c12]; decide) (by rw [c12]; decide) (by rw [c12]; rfl) (by decide) ?_
    refine lv_aload_n hx hb dX1_number_92 rfl (lv_at hl 0 rfl) ?_
    refine va_get (D := G) (ci := 1) (v := .int tb) (C := RX1) (T := TX1) (N := 10) hx hb hts huX1_number_X1 hown hK.1 hP 0 rfl rfl 9 (by decide) hw6 (fun _ h9 => h9) rfl dX1_number_93 ?_
    obtain rfl := o_s h
    rw [hQ]
    exact end_i hx hb hr rfl hP hD hS dX1_number_96 hlocks
  have h := o_f h c12
  have kc1 := ne_ti c1 (z := 0) (by decide)
  have kc3 := ne_ti c3 (z := 1) (by decide)
  have kc5 := ne_ti c5 (z := 2) (by decide)
  have kc7 := ne_ti c7 (z := 3) (by decide)
  have kc8 := ne_ti c8 (z := 4) (by decide)
  have kc9 := ne_ti c9 (z := 5) (by decide)
  have kc11 := ne_ti c11 (z := 6) (by decide)
  have kc12 := ne_ti c12 (z := 7) (by decide)
  refine lv_tableOut (tgt := 97) hx hb dX1_number_1 (by omega) (by decide) ?_
  refine lv_aload_n hx hb dX1_number_97 rfl (lv_at hl 0 rfl) ?_
  refine va_get (D := G) (ci := 1) (v := .ref a3) (C := RX1) (T := TX1) (N := 10) hx hb hts huX1_number_X1 hown hK.1 hP 0 rfl rfl 1 (by decide) hw1 (fun _ h9 => h9) rfl dX1_number_98 ?_
  obtain ⟨x13, ex13, h⟩ := o_b h
  refine call_iV (As := []) (rest := []) (ws2 := [(a0, .inr (1, [.ref a1, .ref a3, .ref a6, .ref a8, .int rd, .int tu, .int la, .int (bI dl), .int sh, .int tb])), (a1, .inr (4, [.int ft.1, .ref a2, .int ft.2.2.2])), (a2, .inl (cI, ft.2.1, .inl ft.2.2.1)), (a3, .inr (0, [.ref a4, .int eb])), (a4, .inr (4, [.int er.1, .ref a5, .int er.2.2.2])), (a5, .inl (cI, er.2.1, .inl er.2.2.1)), (a6, .inr (4, [.int li.1, .ref a7, .int li.2.2.2])), (a7, .inl (cI, li.2.1, .inl li.2.2.1)), (a8, .inr (4, [.int st.1, .ref a9, .int st.2.2.2])), (a9, .inl (cI, st.2.1, .inl st.2.2.1))]) ⟨hx, hb, hml, hown, hts⟩ (cX0_ended_ok l G cI cG a3 a4 a5 er eb x13 ex13) (cwV 0 hts gX1_number_X0_ended_98 rfl rfl rfl hdX0_ended ⟨Nat.le_of_ble_eq_true rfl, Nat.le_of_ble_eq_true rfl⟩) hP hD hS hA hK 0 rfl rfl rfl [3, 4, 5] rfl rfl rfl rfl rfl rfl rfl rfl hl.1 (Nat.le_of_ble_eq_true rfl) dX1_number_101 ⟨Nat.zero_le _, Nat.zero_le _⟩ (fun H locs hP hD hS => ?_)
  obtain rfl := o_s h
  rw [hQ]
  exact end_i hx hb hr rfl hP hD hS dX1_number_104 hlocks
theorem hdX1_listLength : yX1_listLength.cls = RX1 ∧ yX1_listLength.cls ≠ "java/lang/invoke/MethodHandle" ∧ yX1_listLength.cls ≠ "java/lang/invoke/VarHandle" ∧ (parseMethodDescriptor yX1_listLength.desc).map (fun d => d.parameters.length) = some 0 := by decide +kernel
set_option maxHeartbeats 4000000 in
set_option maxRecDepth 100000 in
theorem cX1_listLength_ok (l : Launch) (G : va_G) (cI cG : ClassId) (a0 a1 a2 a3 a4 a5 a6 a7 a8 a9 : Nat) (ft : Tab) (er : Tab) (eb : Int32) (li : Tab) (st : Tab) (rd : Int32) (tu : Int32) (la : Int32) (dl : Bool) (sh : Int32) (tb : Int32) (out : Int32) (hf : fX1_listLength li = some out) : CI l G (tyz cI cG) yX1_listLength wsX1_listLength ({ frames := 1, cells := 0, slots := 0, locals := 20 } : Room) [.ref a0] [(a0, .inr (1, [.ref a1, .ref a3, .ref a6, .ref a8, .int rd, .int tu, .int la, .int (bI dl), .int sh, .int tb])), (a1, .inr (4, [.int ft.1, .ref a2, .int ft.2.2.2])), (a2, .inl (cI, ft.2.1, .inl ft.2.2.1)), (a3, .inr (0, [.ref a4, .int eb])), (a4, .inr (4, [.int er.1, .ref a5, .int er.2.2.2])), (a5, .inl (cI, er.2.1, .inl er.2.2.1)), (a6, .inr (4, [.int li.1, .ref a7, .int li.2.2.2])), (a7, .inl (cI, li.2.1, .inl li.2.2.1)), (a8, .inr (4, [.int st.1, .ref a9, .int st.2.2.2])), (a9, .inl (cI, st.2.1, .inl st.2.2.1))] out [(a0, .inr (1, [.ref a1, .ref a3, .ref a6, .ref a8, .int rd, .int tu, .int la, .int (bI dl), .int sh, .int tb])), (a1, .inr (4, [.int ft.1, .ref a2, .int ft.2.2.2])), (a2, .inl (cI, ft.2.1, .inl ft.2.2.1)), (a3, .inr (0, [.ref a4, .int eb])), (a4, .inr (4, [.int er.1, .ref a5, .int er.2.2.2])), (a5, .inl (cI, er.2.1, .inl er.2.2.1)), (a6, .inr (4, [.int li.1, .ref a7, .int li.2.2.2])), (a7, .inl (cI, li.2.1, .inl li.2.2.1)), (a8, .inr (4, [.int st.1, .ref a9, .int st.2.2.2])), (a9, .inl (cI, st.2.1, .inl st.2.2.1))] := by
  intro sz
  refine Met.ofW (cc := cX1_listLength) (maxL := 1) (ret := (some .int)) (by decide) rfl ?_
  intro p e s m args below meth c s₁ B hml hv
  obtain ⟨rfl, hsz, hP, hK, hD0⟩ := hv
  have hx := B.exec
  have hb := B.bytes
  have hr := B.returns
  have hts := atoms_spec (ws := wsX1_listLength) B.pre
  have hown : s.vm.findClass RX1 = some m.cls := findClass_of_methodNamed B.named
  have hlocks := B.notSynchronized
  subst hsz
  have hD := hD0.self (sz := s.heap.size)
  generalize hAe : va_A ([(a0, .inr (1, [.ref a1, .ref a3, .ref a6, .ref a8, .int rd, .int tu, .int la, .int (bI dl), .int sh, .int tb])), (a1, .inr (4, [.int ft.1, .ref a2, .int ft.2.2.2])), (a2, .inl (cI, ft.2.1, .inl ft.2.2.1)), (a3, .inr (0, [.ref a4, .int eb])), (a4, .inr (4, [.int er.1, .ref a5, .int er.2.2.2])), (a5, .inl (cI, er.2.1, .inl er.2.2.1)), (a6, .inr (4, [.int li.1, .ref a7, .int li.2.2.2])), (a7, .inl (cI, li.2.1, .inl li.2.2.1)), (a8, .inr (4, [.int st.1, .ref a9, .int st.2.2.2])), (a9, .inl (cI, st.2.1, .inl st.2.2.1))]) s.heap.size = A at hD ⊢
  have hA : ∀ q : Nat, s.heap.size ≤ q → A q := fun q h => by rw [← hAe]; exact Or.inr h
  have hS : va_S A s.heap s.heap [] := va_S.rf
  have hw0 := hts (.fieldLink RX1 27 "SpeedTurns$Game" "list" "LSpeedTurns$Table;") (List.mem_of_getElem? (i := 1) rfl)
  show W p l e ({ frames := 1, cells := 0, slots := 0, locals := 20 } : Room) s m _ below meth c s.heap [] 0 0 _ _
  refine W_genQ (fun Q hQ => ?_)
  have h := hf
  rw [fX1_listLength] at h
  have hl := lv_entry ([.ref a0]) (n := 1) (Nat.le_of_ble_eq_true rfl)
  rw [lg_entry_eq]
  generalize (lg_sl ([.ref a0]) ++ List.replicate (1 - (lg_sl ([.ref a0])).length) Slot.unset).toArray = ls at hl ⊢
  have hl : lv_has ls 1 [(0, .ref a0)] := hl
  refine lv_aload_n hx hb dX1_listLength_0 rfl (lv_at hl 0 rfl) ?_
  refine va_get (D := G) (ci := 1) (v := .ref a6) (C := RX1) (T := TX1) (N := 10) hx hb hts huX1_listLength_X1 hown hK.1 hP 0 rfl rfl 2 (by decide) hw0 (fun _ h9 => h9) rfl dX1_listLength_1 ?_
  obtain ⟨x1, ex1, h⟩ := o_b h
  refine call_iV (As := []) (rest := []) (ws2 := [(a0, .inr (1, [.ref a1, .ref a3, .ref a6, .ref a8, .int rd, .int tu, .int la, .int (bI dl), .int sh, .int tb])), (a1, .inr (4, [.int ft.1, .ref a2, .int ft.2.2.2])), (a2, .inl (cI, ft.2.1, .inl ft.2.2.1)), (a3, .inr (0, [.ref a4, .int eb])), (a4, .inr (4, [.int er.1, .ref a5, .int er.2.2.2])), (a5, .inl (cI, er.2.1, .inl er.2.2.1)), (a6, .inr (4, [.int li.1, .ref a7, .int li.2.2.2])), (a7, .inl (cI, li.2.1, .inl li.2.2.1)), (a8, .inr (4, [.int st.1, .ref a9, .int st.2.2.2])), (a9, .inl (cI, st.2.1, .inl st.2.2.1))]) ⟨hx, hb, hml, hown, hts⟩ (cX4_count_ok l G cI cG a6 a7 li x1 ex1) (cwV 0 hts gX1_listLength_X4_count_60 rfl rfl rfl hdX4_count ⟨Nat.le_of_ble_eq_true rfl, Nat.le_of_ble_eq_true rfl⟩) hP hD hS hA hK 4 rfl rfl rfl [6, 7] rfl rfl rfl rfl rfl rfl rfl rfl hl.1 (Nat.le_of_ble_eq_true rfl) dX1_listLength_4 ⟨Nat.zero_le _, Nat.zero_le _⟩ (fun H locs hP hD hS => ?_)
  obtain rfl := o_s h
  rw [hQ]
  exact end_i hx hb hr rfl hP hD hS dX1_listLength_7 hlocks
theorem hdX1_listed : yX1_listed.cls = RX1 ∧ yX1_listed.cls ≠ "java/lang/invoke/MethodHandle" ∧ yX1_listed.cls ≠ "java/lang/invoke/VarHandle" ∧ (parseMethodDescriptor yX1_listed.desc).map (fun d => d.parameters.length) = some 1 := by decide +kernel
set_option maxHeartbeats 4000000 in
set_option maxRecDepth 100000 in
theorem cX1_listed_ok (l : Launch) (G : va_G) (cI cG : ClassId) (a0 a1 a2 a3 a4 a5 a6 a7 a8 a9 : Nat) (ft : Tab) (er : Tab) (eb : Int32) (li : Tab) (st : Tab) (rd : Int32) (tu : Int32) (la : Int32) (dl : Bool) (sh : Int32) (tb : Int32) (p1 : Int32) (out : Int32) (hf : fX1_listed li p1 = some out) : CI l G (tyz cI cG) yX1_listed wsX1_listed ({ frames := 1, cells := 0, slots := 0, locals := 23 } : Room) [.ref a0, .int p1] [(a0, .inr (1, [.ref a1, .ref a3, .ref a6, .ref a8, .int rd, .int tu, .int la, .int (bI dl), .int sh, .int tb])), (a1, .inr (4, [.int ft.1, .ref a2, .int ft.2.2.2])), (a2, .inl (cI, ft.2.1, .inl ft.2.2.1)), (a3, .inr (0, [.ref a4, .int eb])), (a4, .inr (4, [.int er.1, .ref a5, .int er.2.2.2])), (a5, .inl (cI, er.2.1, .inl er.2.2.1)), (a6, .inr (4, [.int li.1, .ref a7, .int li.2.2.2])), (a7, .inl (cI, li.2.1, .inl li.2.2.1)), (a8, .inr (4, [.int st.1, .ref a9, .int st.2.2.2])), (a9, .inl (cI, st.2.1, .inl st.2.2.1))] out [(a0, .inr (1, [.ref a1, .ref a3, .ref a6, .ref a8, .int rd, .int tu, .int la, .int (bI dl), .int sh, .int tb])), (a1, .inr (4, [.int ft.1, .ref a2, .int ft.2.2.2])), (a2, .inl (cI, ft.2.1, .inl ft.2.2.1)), (a3, .inr (0, [.ref a4, .int eb])), (a4, .inr (4, [.int er.1, .ref a5, .int er.2.2.2])), (a5, .inl (cI, er.2.1, .inl er.2.2.1)), (a6, .inr (4, [.int li.1, .ref a7, .int li.2.2.2])), (a7, .inl (cI, li.2.1, .inl li.2.2.1)), (a8, .inr (4, [.int st.1, .ref a9, .int st.2.2.2])), (a9, .inl (cI, st.2.1, .inl st.2.2.1))] := by
  intro sz
  refine Met.ofW (cc := cX1_listed) (maxL := 2) (ret := (some .int)) (by decide) rfl ?_
  intro p e s m args below meth c s₁ B hml hv
  obtain ⟨rfl, hsz, hP, hK, hD0⟩ := hv
  have hx := B.exec
  have hb := B.bytes
  have hr := B.returns
  have hts := atoms_spec (ws := wsX1_listed) B.pre
  have hown : s.vm.findClass RX1 = some m.cls := findClass_of_methodNamed B.named
  have hlocks := B.notSynchronized
  subst hsz
  have hD := hD0.self (sz := s.heap.size)
  generalize hAe : va_A ([(a0, .inr (1, [.ref a1, .ref a3, .ref a6, .ref a8, .int rd, .int tu, .int la, .int (bI dl), .int sh, .int tb])), (a1, .inr (4, [.int ft.1, .ref a2, .int ft.2.2.2])), (a2, .inl (cI, ft.2.1, .inl ft.2.2.1)), (a3, .inr (0, [.ref a4, .int eb])), (a4, .inr (4, [.int er.1, .ref a5, .int er.2.2.2])), (a5, .inl (cI, er.2.1, .inl er.2.2.1)), (a6, .inr (4, [.int li.1, .ref a7, .int li.2.2.2])), (a7, .inl (cI, li.2.1, .inl li.2.2.1)), (a8, .inr (4, [.int st.1, .ref a9, .int st.2.2.2])), (a9, .inl (cI, st.2.1, .inl st.2.2.1))]) s.heap.size = A at hD ⊢
  have hA : ∀ q : Nat, s.heap.size ≤ q → A q := fun q h => by rw [← hAe]; exact Or.inr h
  have hS : va_S A s.heap s.heap [] := va_S.rf
  have hw0 := hts (.fieldLink RX1 27 "SpeedTurns$Game" "list" "LSpeedTurns$Table;") (List.mem_of_getElem? (i := 1) rfl)
  show W p l e ({ frames := 1, cells := 0, slots := 0, locals := 23 } : Room) s m _ below meth c s.heap [] 0 0 _ _
  refine W_genQ (fun Q hQ => ?_)
  have h := hf
  rw [fX1_listed] at h
  have hl := lv_entry ([.ref a0, .int p1]) (n := 2) (Nat.le_of_ble_eq_true rfl)
  rw [lg_entry_eq]
  generalize (lg_sl ([.ref a0, .int p1]) ++ List.replicate (2 - (lg_sl ([.ref a0, .int p1])).length) Slot.unset).toArray = ls at hl ⊢
  have hl : lv_has ls 2 [(0, .ref a0), (1, .int p1)] := hl
  refine lv_aload_n hx hb dX1_listed_0 rfl (lv_at hl 0 rfl) ?_
  refine va_get (D := G) (ci := 1) (v := .ref a6) (C := RX1) (T := TX1) (N := 10) hx hb hts huX1_listed_X1 hown hK.1 hP 0 rfl rfl 2 (by decide) hw0 (fun _ h9 => h9) rfl dX1_listed_1 ?_
  refine lv_iload_n hx hb dX1_listed_4 rfl (lv_at hl 1 rfl) ?_
  refine lv_iconst (v := 0) hx hb dX1_listed_5 (by decide) ?_
  obtain ⟨x1, ex1, h⟩ := o_b h
  refine call_iV (As := [.int p1, .int (0 : Int32)]) (rest := []) (ws2 := [(a0, .inr (1, [.ref a1, .ref a3, .ref a6, .ref a8, .int rd, .int tu, .int la, .int (bI dl), .int sh, .int tb])), (a1, .inr (4, [.int ft.1, .ref a2, .int ft.2.2.2])), (a2, .inl (cI, ft.2.1, .inl ft.2.2.1)), (a3, .inr (0, [.ref a4, .int eb])), (a4, .inr (4, [.int er.1, .ref a5, .int er.2.2.2])), (a5, .inl (cI, er.2.1, .inl er.2.2.1)), (a6, .inr (4, [.int li.1, .ref a7, .int li.2.2.2])), (a7, .inl (cI, li.2.1, .inl li.2.2.1)), (a8, .inr (4, [.int st.1, .ref a9, .int st.2.2.2])), (a9, .inl (cI, st.2.1, .inl st.2.2.1))]) ⟨hx, hb, hml, hown, hts⟩ (cX4_at_ok l G cI cG a6 a7 li p1 (0 : Int32) x1 ex1) (cwV 2 hts gX1_listed_X4_at_64 rfl rfl rfl hdX4_at ⟨Nat.le_of_ble_eq_true rfl, Nat.le_of_ble_eq_true rfl⟩) hP hD hS hA hK 4 rfl rfl rfl [6, 7] rfl rfl rfl rfl rfl rfl rfl rfl hl.1 (Nat.le_of_ble_eq_true rfl) dX1_listed_6 ⟨Nat.zero_le _, Nat.zero_le _⟩ (fun H locs hP hD hS => ?_)
  obtain rfl := o_s h
  rw [hQ]
  exact end_i hx hb hr rfl hP hD hS dX1_listed_9 hlocks
theorem hdX1_stackSize : yX1_stackSize.cls = RX1 ∧ yX1_stackSize.cls ≠ "java/lang/invoke/MethodHandle" ∧ yX1_stackSize.cls ≠ "java/lang/invoke/VarHandle" ∧ (parseMethodDescriptor yX1_stackSize.desc).map (fun d => d.parameters.length) = some 0 := by decide +kernel
set_option maxHeartbeats 4000000 in
set_option maxRecDepth 100000 in
theorem cX1_stackSize_ok (l : Launch) (G : va_G) (cI cG : ClassId) (a0 a1 a2 a3 a4 a5 a6 a7 a8 a9 : Nat) (ft : Tab) (er : Tab) (eb : Int32) (li : Tab) (st : Tab) (rd : Int32) (tu : Int32) (la : Int32) (dl : Bool) (sh : Int32) (tb : Int32) (out : Int32) (hf : fX1_stackSize st = some out) : CI l G (tyz cI cG) yX1_stackSize wsX1_stackSize ({ frames := 1, cells := 0, slots := 0, locals := 20 } : Room) [.ref a0] [(a0, .inr (1, [.ref a1, .ref a3, .ref a6, .ref a8, .int rd, .int tu, .int la, .int (bI dl), .int sh, .int tb])), (a1, .inr (4, [.int ft.1, .ref a2, .int ft.2.2.2])), (a2, .inl (cI, ft.2.1, .inl ft.2.2.1)), (a3, .inr (0, [.ref a4, .int eb])), (a4, .inr (4, [.int er.1, .ref a5, .int er.2.2.2])), (a5, .inl (cI, er.2.1, .inl er.2.2.1)), (a6, .inr (4, [.int li.1, .ref a7, .int li.2.2.2])), (a7, .inl (cI, li.2.1, .inl li.2.2.1)), (a8, .inr (4, [.int st.1, .ref a9, .int st.2.2.2])), (a9, .inl (cI, st.2.1, .inl st.2.2.1))] out [(a0, .inr (1, [.ref a1, .ref a3, .ref a6, .ref a8, .int rd, .int tu, .int la, .int (bI dl), .int sh, .int tb])), (a1, .inr (4, [.int ft.1, .ref a2, .int ft.2.2.2])), (a2, .inl (cI, ft.2.1, .inl ft.2.2.1)), (a3, .inr (0, [.ref a4, .int eb])), (a4, .inr (4, [.int er.1, .ref a5, .int er.2.2.2])), (a5, .inl (cI, er.2.1, .inl er.2.2.1)), (a6, .inr (4, [.int li.1, .ref a7, .int li.2.2.2])), (a7, .inl (cI, li.2.1, .inl li.2.2.1)), (a8, .inr (4, [.int st.1, .ref a9, .int st.2.2.2])), (a9, .inl (cI, st.2.1, .inl st.2.2.1))] := by
  intro sz
  refine Met.ofW (cc := cX1_stackSize) (maxL := 1) (ret := (some .int)) (by decide) rfl ?_
  intro p e s m args below meth c s₁ B hml hv
  obtain ⟨rfl, hsz, hP, hK, hD0⟩ := hv
  have hx := B.exec
  have hb := B.bytes
  have hr := B.returns
  have hts := atoms_spec (ws := wsX1_stackSize) B.pre
  have hown : s.vm.findClass RX1 = some m.cls := findClass_of_methodNamed B.named
  have hlocks := B.notSynchronized
  subst hsz
  have hD := hD0.self (sz := s.heap.size)
  generalize hAe : va_A ([(a0, .inr (1, [.ref a1, .ref a3, .ref a6, .ref a8, .int rd, .int tu, .int la, .int (bI dl), .int sh, .int tb])), (a1, .inr (4, [.int ft.1, .ref a2, .int ft.2.2.2])), (a2, .inl (cI, ft.2.1, .inl ft.2.2.1)), (a3, .inr (0, [.ref a4, .int eb])), (a4, .inr (4, [.int er.1, .ref a5, .int er.2.2.2])), (a5, .inl (cI, er.2.1, .inl er.2.2.1)), (a6, .inr (4, [.int li.1, .ref a7, .int li.2.2.2])), (a7, .inl (cI, li.2.1, .inl li.2.2.1)), (a8, .inr (4, [.int st.1, .ref a9, .int st.2.2.2])), (a9, .inl (cI, st.2.1, .inl st.2.2.1))]) s.heap.size = A at hD ⊢
  have hA : ∀ q : Nat, s.heap.size ≤ q → A q := fun q h => by rw [← hAe]; exact Or.inr h
  have hS : va_S A s.heap s.heap [] := va_S.rf
  have hw0 := hts (.fieldLink RX1 30 "SpeedTurns$Game" "stack" "LSpeedTurns$Table;") (List.mem_of_getElem? (i := 1) rfl)
  show W p l e ({ frames := 1, cells := 0, slots := 0, locals := 20 } : Room) s m _ below meth c s.heap [] 0 0 _ _
  refine W_genQ (fun Q hQ => ?_)
  have h := hf
  rw [fX1_stackSize] at h
  have hl := lv_entry ([.ref a0]) (n := 1) (Nat.le_of_ble_eq_true rfl)
  rw [lg_entry_eq]
  generalize (lg_sl ([.ref a0]) ++ List.replicate (1 - (lg_sl ([.ref a0])).length) Slot.unset).toArray = ls at hl ⊢
  have hl : lv_has ls 1 [(0, .ref a0)] := hl
  refine lv_aload_n hx hb dX1_stackSize_0 rfl (lv_at hl 0 rfl) ?_
  refine va_get (D := G) (ci := 1) (v := .ref a8) (C := RX1) (T := TX1) (N := 10) hx hb hts huX1_stackSize_X1 hown hK.1 hP 0 rfl rfl 3 (by decide) hw0 (fun _ h9 => h9) rfl dX1_stackSize_1 ?_
  obtain ⟨x1, ex1, h⟩ := o_b h
  refine call_iV (As := []) (rest := []) (ws2 := [(a0, .inr (1, [.ref a1, .ref a3, .ref a6, .ref a8, .int rd, .int tu, .int la, .int (bI dl), .int sh, .int tb])), (a1, .inr (4, [.int ft.1, .ref a2, .int ft.2.2.2])), (a2, .inl (cI, ft.2.1, .inl ft.2.2.1)), (a3, .inr (0, [.ref a4, .int eb])), (a4, .inr (4, [.int er.1, .ref a5, .int er.2.2.2])), (a5, .inl (cI, er.2.1, .inl er.2.2.1)), (a6, .inr (4, [.int li.1, .ref a7, .int li.2.2.2])), (a7, .inl (cI, li.2.1, .inl li.2.2.1)), (a8, .inr (4, [.int st.1, .ref a9, .int st.2.2.2])), (a9, .inl (cI, st.2.1, .inl st.2.2.1))]) ⟨hx, hb, hml, hown, hts⟩ (cX4_count_ok l G cI cG a8 a9 st x1 ex1) (cwV 0 hts gX1_stackSize_X4_count_60 rfl rfl rfl hdX4_count ⟨Nat.le_of_ble_eq_true rfl, Nat.le_of_ble_eq_true rfl⟩) hP hD hS hA hK 4 rfl rfl rfl [8, 9] rfl rfl rfl rfl rfl rfl rfl rfl hl.1 (Nat.le_of_ble_eq_true rfl) dX1_stackSize_4 ⟨Nat.zero_le _, Nat.zero_le _⟩ (fun H locs hP hD hS => ?_)
  obtain rfl := o_s h
  rw [hQ]
  exact end_i hx hb hr rfl hP hD hS dX1_stackSize_7 hlocks
theorem hdX1_aboutAct : yX1_aboutAct.cls = RX1 ∧ yX1_aboutAct.cls ≠ "java/lang/invoke/MethodHandle" ∧ yX1_aboutAct.cls ≠ "java/lang/invoke/VarHandle" ∧ (parseMethodDescriptor yX1_aboutAct.desc).map (fun d => d.parameters.length) = some 2 := by decide +kernel
set_option maxHeartbeats 4000000 in
set_option maxRecDepth 100000 in
theorem cX1_aboutAct_ok (l : Launch) (G : va_G) (cI cG : ClassId) (a0 a1 a2 a3 a4 a5 a6 a7 a8 a9 : Nat) (ft : Tab) (er : Tab) (eb : Int32) (li : Tab) (st : Tab) (rd : Int32) (tu : Int32) (la : Int32) (dl : Bool) (sh : Int32) (tb : Int32) (p1 : Int32) (p2 : Int32) (out : Int32) (hf : fX1_aboutAct st p1 p2 = some out) : CI l G (tyz cI cG) yX1_aboutAct wsX1_aboutAct ({ frames := 1, cells := 0, slots := 0, locals := 23 } : Room) [.ref a0, .int p1, .int p2] [(a0, .inr (1, [.ref a1, .ref a3, .ref a6, .ref a8, .int rd, .int tu, .int la, .int (bI dl), .int sh, .int tb])), (a1, .inr (4, [.int ft.1, .ref a2, .int ft.2.2.2])), (a2, .inl (cI, ft.2.1, .inl ft.2.2.1)), (a3, .inr (0, [.ref a4, .int eb])), (a4, .inr (4, [.int er.1, .ref a5, .int er.2.2.2])), (a5, .inl (cI, er.2.1, .inl er.2.2.1)), (a6, .inr (4, [.int li.1, .ref a7, .int li.2.2.2])), (a7, .inl (cI, li.2.1, .inl li.2.2.1)), (a8, .inr (4, [.int st.1, .ref a9, .int st.2.2.2])), (a9, .inl (cI, st.2.1, .inl st.2.2.1))] out [(a0, .inr (1, [.ref a1, .ref a3, .ref a6, .ref a8, .int rd, .int tu, .int la, .int (bI dl), .int sh, .int tb])), (a1, .inr (4, [.int ft.1, .ref a2, .int ft.2.2.2])), (a2, .inl (cI, ft.2.1, .inl ft.2.2.1)), (a3, .inr (0, [.ref a4, .int eb])), (a4, .inr (4, [.int er.1, .ref a5, .int er.2.2.2])), (a5, .inl (cI, er.2.1, .inl er.2.2.1)), (a6, .inr (4, [.int li.1, .ref a7, .int li.2.2.2])), (a7, .inl (cI, li.2.1, .inl li.2.2.1)), (a8, .inr (4, [.int st.1, .ref a9, .int st.2.2.2])), (a9, .inl (cI, st.2.1, .inl st.2.2.1))] := by
  intro sz
  refine Met.ofW (cc := cX1_aboutAct) (maxL := 3) (ret := (some .int)) (by decide) rfl ?_
  intro p e s m args below meth c s₁ B hml hv
  obtain ⟨rfl, hsz, hP, hK, hD0⟩ := hv
  have hx := B.exec
  have hb := B.bytes
  have hr := B.returns
  have hts := atoms_spec (ws := wsX1_aboutAct) B.pre
  have hown : s.vm.findClass RX1 = some m.cls := findClass_of_methodNamed B.named
  have hlocks := B.notSynchronized
  subst hsz
  have hD := hD0.self (sz := s.heap.size)
  generalize hAe : va_A ([(a0, .inr (1, [.ref a1, .ref a3, .ref a6, .ref a8, .int rd, .int tu, .int la, .int (bI dl), .int sh, .int tb])), (a1, .inr (4, [.int ft.1, .ref a2, .int ft.2.2.2])), (a2, .inl (cI, ft.2.1, .inl ft.2.2.1)), (a3, .inr (0, [.ref a4, .int eb])), (a4, .inr (4, [.int er.1, .ref a5, .int er.2.2.2])), (a5, .inl (cI, er.2.1, .inl er.2.2.1)), (a6, .inr (4, [.int li.1, .ref a7, .int li.2.2.2])), (a7, .inl (cI, li.2.1, .inl li.2.2.1)), (a8, .inr (4, [.int st.1, .ref a9, .int st.2.2.2])), (a9, .inl (cI, st.2.1, .inl st.2.2.1))]) s.heap.size = A at hD ⊢
  have hA : ∀ q : Nat, s.heap.size ≤ q → A q := fun q h => by rw [← hAe]; exact Or.inr h
  have hS : va_S A s.heap s.heap [] := va_S.rf
  have hw0 := hts (.fieldLink RX1 30 "SpeedTurns$Game" "stack" "LSpeedTurns$Table;") (List.mem_of_getElem? (i := 1) rfl)
  show W p l e ({ frames := 1, cells := 0, slots := 0, locals := 23 } : Room) s m _ below meth c s.heap [] 0 0 _ _
  refine W_genQ (fun Q hQ => ?_)
  have h := hf
  rw [fX1_aboutAct] at h
  have hl := lv_entry ([.ref a0, .int p1, .int p2]) (n := 3) (Nat.le_of_ble_eq_true rfl)
  rw [lg_entry_eq]
  generalize (lg_sl ([.ref a0, .int p1, .int p2]) ++ List.replicate (3 - (lg_sl ([.ref a0, .int p1, .int p2])).length) Slot.unset).toArray = ls at hl ⊢
  have hl : lv_has ls 3 [(0, .ref a0), (1, .int p1), (2, .int p2)] := hl
  refine lv_aload_n hx hb dX1_aboutAct_0 rfl (lv_at hl 0 rfl) ?_
  refine va_get (D := G) (ci := 1) (v := .ref a8) (C := RX1) (T := TX1) (N := 10) hx hb hts huX1_aboutAct_X1 hown hK.1 hP 0 rfl rfl 3 (by decide) hw0 (fun _ h9 => h9) rfl dX1_aboutAct_1 ?_
  refine lv_aload_n hx hb dX1_aboutAct_4 rfl (lv_at hl 0 rfl) ?_
  refine va_get (D := G) (ci := 1) (v := .ref a8) (C := RX1) (T := TX1) (N := 10) hx hb hts huX1_aboutAct_X1 hown hK.1 hP 0 rfl rfl 3 (by decide) hw0 (fun _ h9 => h9) rfl dX1_aboutAct_5 ?_
  obtain ⟨x1, ex1, h⟩ := o_b h
  refine call_iV (As := []) (rest := [.ref a8]) (ws2 := [(a0, .inr (1, [.ref a1, .ref a3, .ref a6, .ref a8, .int rd, .int tu, .int la, .int (bI dl), .int sh, .int tb])), (a1, .inr (4, [.int ft.1, .ref a2, .int ft.2.2.2])), (a2, .inl (cI, ft.2.1, .inl ft.2.2.1)), (a3, .inr (0, [.ref a4, .int eb])), (a4, .inr (4, [.int er.1, .ref a5, .int er.2.2.2])), (a5, .inl (cI, er.2.1, .inl er.2.2.1)), (a6, .inr (4, [.int li.1, .ref a7, .int li.2.2.2])), (a7, .inl (cI, li.2.1, .inl li.2.2.1)), (a8, .inr (4, [.int st.1, .ref a9, .int st.2.2.2])), (a9, .inl (cI, st.2.1, .inl st.2.2.1))]) ⟨hx, hb, hml, hown, hts⟩ (cX4_count_ok l G cI cG a8 a9 st x1 ex1) (cwV 0 hts gX1_aboutAct_X4_count_60 rfl rfl rfl hdX4_count ⟨Nat.le_of_ble_eq_true rfl, Nat.le_of_ble_eq_true rfl⟩) hP hD hS hA hK 4 rfl rfl rfl [8, 9] rfl rfl rfl rfl rfl rfl rfl rfl hl.1 (Nat.le_of_ble_eq_true rfl) dX1_aboutAct_8 ⟨Nat.zero_le _, Nat.zero_le _⟩ (fun H locs hP hD hS => ?_)
  refine lv_iconst (v := 1) hx hb dX1_aboutAct_11 (by decide) ?_
  refine lv_isub hx hb dX1_aboutAct_12 ?_
  refine lv_iload_n hx hb dX1_aboutAct_13 rfl (lv_at hl 1 rfl) ?_
  refine lv_isub hx hb dX1_aboutAct_14 ?_
  refine lv_iload_n hx hb dX1_aboutAct_15 rfl (lv_at hl 2 rfl) ?_
  obtain ⟨x2, ex2, h⟩ := o_b h
  refine call_iV (As := [.int ((x1 - (1 : Int32)) - p1), .int p2]) (rest := []) (ws2 := [(a0, .inr (1, [.ref a1, .ref a3, .ref a6, .ref a8, .int rd, .int tu, .int la, .int (bI dl), .int sh, .int tb])), (a1, .inr (4, [.int ft.1, .ref a2, .int ft.2.2.2])), (a2, .inl (cI, ft.2.1, .inl ft.2.2.1)), (a3, .inr (0, [.ref a4, .int eb])), (a4, .inr (4, [.int er.1, .ref a5, .int er.2.2.2])), (a5, .inl (cI, er.2.1, .inl er.2.2.1)), (a6, .inr (4, [.int li.1, .ref a7, .int li.2.2.2])), (a7, .inl (cI, li.2.1, .inl li.2.2.1)), (a8, .inr (4, [.int st.1, .ref a9, .int st.2.2.2])), (a9, .inl (cI, st.2.1, .inl st.2.2.1))]) ⟨hx, hb, hml, hown, hts⟩ (cX4_at_ok l G cI cG a8 a9 st ((x1 - (1 : Int32)) - p1) p2 x2 ex2) (cwV 2 hts gX1_aboutAct_X4_at_64 rfl rfl rfl hdX4_at ⟨Nat.le_of_ble_eq_true rfl, Nat.le_of_ble_eq_true rfl⟩) hP hD hS hA hK 4 rfl rfl rfl [8, 9] rfl rfl rfl rfl rfl rfl rfl rfl hl.1 (Nat.le_of_ble_eq_true rfl) dX1_aboutAct_16 ⟨Nat.zero_le _, Nat.zero_le _⟩ (fun H locs hP hD hS => ?_)
  obtain rfl := o_s h
  rw [hQ]
  exact end_i hx hb hr rfl hP hD hS dX1_aboutAct_19 hlocks
theorem hdX1_presentTurn : yX1_presentTurn.cls = RX1 ∧ yX1_presentTurn.cls ≠ "java/lang/invoke/MethodHandle" ∧ yX1_presentTurn.cls ≠ "java/lang/invoke/VarHandle" ∧ (parseMethodDescriptor yX1_presentTurn.desc).map (fun d => d.parameters.length) = some 0 := by decide +kernel
set_option maxHeartbeats 4000000 in
set_option maxRecDepth 100000 in
theorem cX1_presentTurn_ok (l : Launch) (G : va_G) (cI cG : ClassId) (a0 a1 a2 a3 a4 a5 a6 a7 a8 a9 : Nat) (ft : Tab) (er : Tab) (eb : Int32) (li : Tab) (st : Tab) (rd : Int32) (tu : Int32) (la : Int32) (dl : Bool) (sh : Int32) (tb : Int32) (out : Int32) (hf : fX1_presentTurn tu = some out) : CI l G (tyz cI cG) yX1_presentTurn wsX1_presentTurn ({ frames := 0, cells := 0, slots := 0, locals := 0 } : Room) [.ref a0] [(a0, .inr (1, [.ref a1, .ref a3, .ref a6, .ref a8, .int rd, .int tu, .int la, .int (bI dl), .int sh, .int tb])), (a1, .inr (4, [.int ft.1, .ref a2, .int ft.2.2.2])), (a2, .inl (cI, ft.2.1, .inl ft.2.2.1)), (a3, .inr (0, [.ref a4, .int eb])), (a4, .inr (4, [.int er.1, .ref a5, .int er.2.2.2])), (a5, .inl (cI, er.2.1, .inl er.2.2.1)), (a6, .inr (4, [.int li.1, .ref a7, .int li.2.2.2])), (a7, .inl (cI, li.2.1, .inl li.2.2.1)), (a8, .inr (4, [.int st.1, .ref a9, .int st.2.2.2])), (a9, .inl (cI, st.2.1, .inl st.2.2.1))] out [(a0, .inr (1, [.ref a1, .ref a3, .ref a6, .ref a8, .int rd, .int tu, .int la, .int (bI dl), .int sh, .int tb])), (a1, .inr (4, [.int ft.1, .ref a2, .int ft.2.2.2])), (a2, .inl (cI, ft.2.1, .inl ft.2.2.1)), (a3, .inr (0, [.ref a4, .int eb])), (a4, .inr (4, [.int er.1, .ref a5, .int er.2.2.2])), (a5, .inl (cI, er.2.1, .inl er.2.2.1)), (a6, .inr (4, [.int li.1, .ref a7, .int li.2.2.2])), (a7, .inl (cI, li.2.1, .inl li.2.2.1)), (a8, .inr (4, [.int st.1, .ref a9, .int st.2.2.2])), (a9, .inl (cI, st.2.1, .inl st.2.2.1))] := by
  intro sz
  refine Met.ofW (cc := cX1_presentTurn) (maxL := 1) (ret := (some .int)) (by decide) rfl ?_
  intro p e s m args below meth c s₁ B hml hv
  obtain ⟨rfl, hsz, hP, hK, hD0⟩ := hv
  have hx := B.exec
  have hb := B.bytes
  have hr := B.returns
  have hts := atoms_spec (ws := wsX1_presentTurn) B.pre
  have hown : s.vm.findClass RX1 = some m.cls := findClass_of_methodNamed B.named
  have hlocks := B.notSynchronized
  subst hsz
  have hD := hD0.self (sz := s.heap.size)
  generalize hAe : va_A ([(a0, .inr (1, [.ref a1, .ref a3, .ref a6, .ref a8, .int rd, .int tu, .int la, .int (bI dl), .int sh, .int tb])), (a1, .inr (4, [.int ft.1, .ref a2, .int ft.2.2.2])), (a2, .inl (cI, ft.2.1, .inl ft.2.2.1)), (a3, .inr (0, [.ref a4, .int eb])), (a4, .inr (4, [.int er.1, .ref a5, .int er.2.2.2])), (a5, .inl (cI, er.2.1, .inl er.2.2.1)), (a6, .inr (4, [.int li.1, .ref a7, .int li.2.2.2])), (a7, .inl (cI, li.2.1, .inl li.2.2.1)), (a8, .inr (4, [.int st.1, .ref a9, .int st.2.2.2])), (a9, .inl (cI, st.2.1, .inl st.2.2.1))]) s.heap.size = A at hD ⊢
  have hA : ∀ q : Nat, s.heap.size ≤ q → A q := fun q h => by rw [← hAe]; exact Or.inr h
  have hS : va_S A s.heap s.heap [] := va_S.rf
  have hw0 := hts (.fieldLink RX1 37 "SpeedTurns$Game" "turn" "I") (List.mem_of_getElem? (i := 1) rfl)
  show W p l e ({ frames := 0, cells := 0, slots := 0, locals := 0 } : Room) s m _ below meth c s.heap [] 0 0 _ _
  refine W_genQ (fun Q hQ => ?_)
  have h := hf
  rw [fX1_presentTurn] at h
  have hl := lv_entry ([.ref a0]) (n := 1) (Nat.le_of_ble_eq_true rfl)
  rw [lg_entry_eq]
  generalize (lg_sl ([.ref a0]) ++ List.replicate (1 - (lg_sl ([.ref a0])).length) Slot.unset).toArray = ls at hl ⊢
  have hl : lv_has ls 1 [(0, .ref a0)] := hl
  refine lv_aload_n hx hb dX1_presentTurn_0 rfl (lv_at hl 0 rfl) ?_
  refine va_get (D := G) (ci := 1) (v := .int tu) (C := RX1) (T := TX1) (N := 10) hx hb hts huX1_presentTurn_X1 hown hK.1 hP 0 rfl rfl 5 (by decide) hw0 (fun _ h9 => h9) rfl dX1_presentTurn_1 ?_
  obtain rfl := o_s h
  rw [hQ]
  exact end_i hx hb hr rfl hP hD hS dX1_presentTurn_4 hlocks
theorem hdX1_total : yX1_total.cls = RX1 ∧ yX1_total.cls ≠ "java/lang/invoke/MethodHandle" ∧ yX1_total.cls ≠ "java/lang/invoke/VarHandle" ∧ (parseMethodDescriptor yX1_total.desc).map (fun d => d.parameters.length) = some 1 := by decide +kernel
set_option maxHeartbeats 4000000 in
set_option maxRecDepth 100000 in
theorem cX1_total_ok (l : Launch) (G : va_G) (cI cG : ClassId) (a0 a1 a2 a3 a4 a5 a6 a7 a8 a9 : Nat) (fu : Nat) (ft : Tab) (er : Tab) (eb : Int32) (li : Tab) (st : Tab) (rd : Int32) (tu : Int32) (la : Int32) (dl : Bool) (sh : Int32) (tb : Int32) (p1 : Int32) (out : Int32) (hf : fX1_total fu ft p1 = some out) : CI l G (tyz cI cG) yX1_total wsX1_total ({ frames := 1, cells := 0, slots := 0, locals := 23 } : Room) [.ref a0, .int p1] [(a0, .inr (1, [.ref a1, .ref a3, .ref a6, .ref a8, .int rd, .int tu, .int la, .int (bI dl), .int sh, .int tb])), (a1, .inr (4, [.int ft.1, .ref a2, .int ft.2.2.2])), (a2, .inl (cI, ft.2.1, .inl ft.2.2.1)), (a3, .inr (0, [.ref a4, .int eb])), (a4, .inr (4, [.int er.1, .ref a5, .int er.2.2.2])), (a5, .inl (cI, er.2.1, .inl er.2.2.1)), (a6, .inr (4, [.int li.1, .ref a7, .int li.2.2.2])), (a7, .inl (cI, li.2.1, .inl li.2.2.1)), (a8, .inr (4, [.int st.1, .ref a9, .int st.2.2.2])), (a9, .inl (cI, st.2.1, .inl st.2.2.1))] out [(a0, .inr (1, [.ref a1, .ref a3, .ref a6, .ref a8, .int rd, .int tu, .int la, .int (bI dl), .int sh, .int tb])), (a1, .inr (4, [.int ft.1, .ref a2, .int ft.2.2.2])), (a2, .inl (cI, ft.2.1, .inl ft.2.2.1)), (a3, .inr (0, [.ref a4, .int eb])), (a4, .inr (4, [.int er.1, .ref a5, .int er.2.2.2])), (a5, .inl (cI, er.2.1, .inl er.2.2.1)), (a6, .inr (4, [.int li.1, .ref a7, .int li.2.2.2])), (a7, .inl (cI, li.2.1, .inl li.2.2.1)), (a8, .inr (4, [.int st.1, .ref a9, .int st.2.2.2])), (a9, .inl (cI, st.2.1, .inl st.2.2.1))] := by
  intro sz
  refine Met.ofW (cc := cX1_total) (maxL := 4) (ret := (some .int)) (by decide) rfl ?_
  intro p e s m args below meth c s₁ B hml hv
  obtain ⟨rfl, hsz, hP, hK, hD0⟩ := hv
  have hx := B.exec
  have hb := B.bytes
  have hr := B.returns
  have hts := atoms_spec (ws := wsX1_total) B.pre
  have hown : s.vm.findClass RX1 = some m.cls := findClass_of_methodNamed B.named
  have hlocks := B.notSynchronized
  subst hsz
  have hD := hD0.self (sz := s.heap.size)
  generalize hAe : va_A ([(a0, .inr (1, [.ref a1, .ref a3, .ref a6, .ref a8, .int rd, .int tu, .int la, .int (bI dl), .int sh, .int tb])), (a1, .inr (4, [.int ft.1, .ref a2, .int ft.2.2.2])), (a2, .inl (cI, ft.2.1, .inl ft.2.2.1)), (a3, .inr (0, [.ref a4, .int eb])), (a4, .inr (4, [.int er.1, .ref a5, .int er.2.2.2])), (a5, .inl (cI, er.2.1, .inl er.2.2.1)), (a6, .inr (4, [.int li.1, .ref a7, .int li.2.2.2])), (a7, .inl (cI, li.2.1, .inl li.2.2.1)), (a8, .inr (4, [.int st.1, .ref a9, .int st.2.2.2])), (a9, .inl (cI, st.2.1, .inl st.2.2.1))]) s.heap.size = A at hD ⊢
  have hA : ∀ q : Nat, s.heap.size ≤ q → A q := fun q h => by rw [← hAe]; exact Or.inr h
  have hS : va_S A s.heap s.heap [] := va_S.rf
  have hw0 := hts (.fieldLink RX1 16 "SpeedTurns$Game" "fighters" "LSpeedTurns$Table;") (List.mem_of_getElem? (i := 1) rfl)
  show W p l e ({ frames := 1, cells := 0, slots := 0, locals := 23 } : Room) s m _ below meth c s.heap [] 0 0 _ _
  refine W_genQ (fun Q hQ => ?_)
  have L4 : ∀  (k : Nat) (v2 : Int32) (v3 : Int32) (H : Heap) (locs : List Loc) (ls : Array Slot), fX1_total_L4 fu ft p1 k v2 v3 = some out → va_P G vwCl ([(a0, .inr (1, [.ref a1, .ref a3, .ref a6, .ref a8, .int rd, .int tu, .int la, .int (bI dl), .int sh, .int tb])), (a1, .inr (4, [.int ft.1, .ref a2, .int ft.2.2.2])), (a2, .inl (cI, ft.2.1, .inl ft.2.2.1)), (a3, .inr (0, [.ref a4, .int eb])), (a4, .inr (4, [.int er.1, .ref a5, .int er.2.2.2])), (a5, .inl (cI, er.2.1, .inl er.2.2.1)), (a6, .inr (4, [.int li.1, .ref a7, .int li.2.2.2])), (a7, .inl (cI, li.2.1, .inl li.2.2.1)), (a8, .inr (4, [.int st.1, .ref a9, .int st.2.2.2])), (a9, .inl (cI, st.2.1, .inl st.2.2.1))]) H → va_D A ([(a0, .inr (1, [.ref a1, .ref a3, .ref a6, .ref a8, .int rd, .int tu, .int la, .int (bI dl), .int sh, .int tb])), (a1, .inr (4, [.int ft.1, .ref a2, .int ft.2.2.2])), (a2, .inl (cI, ft.2.1, .inl ft.2.2.1)), (a3, .inr (0, [.ref a4, .int eb])), (a4, .inr (4, [.int er.1, .ref a5, .int er.2.2.2])), (a5, .inl (cI, er.2.1, .inl er.2.2.1)), (a6, .inr (4, [.int li.1, .ref a7, .int li.2.2.2])), (a7, .inl (cI, li.2.1, .inl li.2.2.1)), (a8, .inr (4, [.int st.1, .ref a9, .int st.2.2.2])), (a9, .inl (cI, st.2.1, .inl st.2.2.1))]) → va_S A s.heap H locs → lv_has ls 4 [(0, .ref a0), (1, .int p1), (2, .int v2), (3, .int v3)] → W p l e ({ frames := 1, cells := 0, slots := 0, locals := 23 } : Room) s m ([.ref a0, .int p1] : List Value).toArray below meth c H locs 0 0 Q (F0 m 4 ls []) := by
    intro  k
    induction k with
    | zero => intro v2 v3 H locs ls h hP hD hS hl; rw [fX1_total_L4] at h; exact o_n h
    | succ k ih =>
      intro v2 v3 H locs ls h hP hD hS hl
      rw [fX1_total_L4] at h
      refine lv_iload_n hx hb dX1_total_4 rfl (lv_at hl 3 rfl) ?_
      refine lv_aload_n hx hb dX1_total_5 rfl (lv_at hl 0 rfl) ?_
      refine va_get (D := G) (ci := 1) (v := .ref a1) (C := RX1) (T := TX1) (N := 10) hx hb hts huX1_total_X1 hown hK.1 hP 0 rfl rfl 0 (by decide) hw0 (fun _ h9 => h9) rfl dX1_total_6 ?_
      obtain ⟨x1, ex1, h⟩ := o_b h
      refine call_iV (As := []) (rest := [.int v3]) (ws2 := [(a0, .inr (1, [.ref a1, .ref a3, .ref a6, .ref a8, .int rd, .int tu, .int la, .int (bI dl), .int sh, .int tb])), (a1, .inr (4, [.int ft.1, .ref a2, .int ft.2.2.2])), (a2, .inl (cI, ft.2.1, .inl ft.2.2.1)), (a3, .inr (0, [.ref a4, .int eb])), (a4, .inr (4, [.int er.1, .ref a5, .int er.2.2.2])), (a5, .inl (cI, er.2.1, .inl er.2.2.1)), (a6, .inr (4, [.int li.1, .ref a7, .int li.2.2.2])), (a7, .inl (cI, li.2.1, .inl li.2.2.1)), (a8, .inr (4, [.int st.1, .ref a9, .int st.2.2.2])), (a9, .inl (cI, st.2.1, .inl st.2.2.1))]) ⟨hx, hb, hml, hown, hts⟩ (cX4_count_ok l G cI cG a1 a2 ft x1 ex1) (cwV 0 hts gX1_total_X4_count_60 rfl rfl rfl hdX4_count ⟨Nat.le_of_ble_eq_true rfl, Nat.le_of_ble_eq_true rfl⟩) hP hD hS hA hK 4 rfl rfl rfl [1, 2] rfl rfl rfl rfl rfl rfl rfl rfl hl.1 (Nat.le_of_ble_eq_true rfl) dX1_total_9 ⟨Nat.zero_le _, Nat.zero_le _⟩ (fun H locs hP hD hS => ?_)
      refine lv_icmp_ge (tgt := 33) hx hb dX1_total_12 (by decide) (fun hc => ?_) (fun hc => ?_)
      · have h := o_t h hc
        refine lv_iload_n hx hb dX1_total_33 rfl (lv_at hl 2 rfl) ?_
        obtain rfl := o_s h
        rw [hQ]
        exact end_i hx hb hr rfl hP hD hS dX1_total_34 hlocks
      · have h := o_f h hc
        refine lv_iload_n hx hb dX1_total_15 rfl (lv_at hl 2 rfl) ?_
        refine lv_aload_n hx hb dX1_total_16 rfl (lv_at hl 0 rfl) ?_
        refine va_get (D := G) (ci := 1) (v := .ref a1) (C := RX1) (T := TX1) (N := 10) hx hb hts huX1_total_X1 hown hK.1 hP 0 rfl rfl 0 (by decide) hw0 (fun _ h9 => h9) rfl dX1_total_17 ?_
        refine lv_iload_n hx hb dX1_total_20 rfl (lv_at hl 3 rfl) ?_
        refine lv_iload_n hx hb dX1_total_21 rfl (lv_at hl 1 rfl) ?_
        obtain ⟨x2, ex2, h⟩ := o_b h
        refine call_iV (As := [.int v3, .int p1]) (rest := [.int v2]) (ws2 := [(a0, .inr (1, [.ref a1, .ref a3, .ref a6, .ref a8, .int rd, .int tu, .int la, .int (bI dl), .int sh, .int tb])), (a1, .inr (4, [.int ft.1, .ref a2, .int ft.2.2.2])), (a2, .inl (cI, ft.2.1, .inl ft.2.2.1)), (a3, .inr (0, [.ref a4, .int eb])), (a4, .inr (4, [.int er.1, .ref a5, .int er.2.2.2])), (a5, .inl (cI, er.2.1, .inl er.2.2.1)), (a6, .inr (4, [.int li.1, .ref a7, .int li.2.2.2])), (a7, .inl (cI, li.2.1, .inl li.2.2.1)), (a8, .inr (4, [.int st.1, .ref a9, .int st.2.2.2])), (a9, .inl (cI, st.2.1, .inl st.2.2.1))]) ⟨hx, hb, hml, hown, hts⟩ (cX4_at_ok l G cI cG a1 a2 ft v3 p1 x2 ex2) (cwV 2 hts gX1_total_X4_at_64 rfl rfl rfl hdX4_at ⟨Nat.le_of_ble_eq_true rfl, Nat.le_of_ble_eq_true rfl⟩) hP hD hS hA hK 4 rfl rfl rfl [1, 2] rfl rfl rfl rfl rfl rfl rfl rfl hl.1 (Nat.le_of_ble_eq_true rfl) dX1_total_22 ⟨Nat.zero_le _, Nat.zero_le _⟩ (fun H locs hP hD hS => ?_)
        refine lv_iadd hx hb dX1_total_25 ?_
        refine lv_istore_n (lv' := [(2, .int (v2 + x2)), (0, .ref a0), (1, .int p1), (3, .int v3)]) hx hb dX1_total_26 rfl hl (by decide) rfl (fun ls hl => ?_)
        refine lv_iinc (v := (v3 + 1)) (lv' := [(3, .int (v3 + 1)), (2, .int (v2 + x2)), (0, .ref a0), (1, .int p1)]) hx hb dX1_total_27 hl (k := 3) rfl rfl (by decide) rfl (fun ls hl => ?_)
        refine lv_goto (tgt := 4) hx hb dX1_total_30 (by decide) ?_
        exact ih (v2 + x2) (v3 + 1) _ _ _ h hP hD hS (lv_sub hl [2, 3, 1, 0] rfl)
  have h := hf
  rw [fX1_total] at h
  have hl := lv_entry ([.ref a0, .int p1]) (n := 4) (Nat.le_of_ble_eq_true rfl)
  rw [lg_entry_eq]
  generalize (lg_sl ([.ref a0, .int p1]) ++ List.replicate (4 - (lg_sl ([.ref a0, .int p1])).length) Slot.unset).toArray = ls at hl ⊢
  have hl : lv_has ls 4 [(0, .ref a0), (1, .int p1)] := hl
  refine lv_iconst (v := 0) hx hb dX1_total_0 (by decide) ?_
  refine lv_istore_n (lv' := [(2, .int (0 : Int32)), (0, .ref a0), (1, .int p1)]) hx hb dX1_total_1 rfl hl (by decide) rfl (fun ls hl => ?_)
  refine lv_iconst (v := 0) hx hb dX1_total_2 (by decide) ?_
  refine lv_istore_n (lv' := [(3, .int (0 : Int32)), (2, .int (0 : Int32)), (0, .ref a0), (1, .int p1)]) hx hb dX1_total_3 rfl hl (by decide) rfl (fun ls hl => ?_)
  exact L4 fu (0 : Int32) (0 : Int32) _ _ _ h hP hD hS (lv_sub hl [2, 3, 1, 0] rfl)
theorem hdX1_lives : yX1_lives.cls = RX1 ∧ yX1_lives.cls ≠ "java/lang/invoke/MethodHandle" ∧ yX1_lives.cls ≠ "java/lang/invoke/VarHandle" ∧ (parseMethodDescriptor yX1_lives.desc).map (fun d => d.parameters.length) = some 0 := by decide +kernel
set_option maxHeartbeats 4000000 in
set_option maxRecDepth 100000 in
theorem cX1_lives_ok (l : Launch) (G : va_G) (cI cG : ClassId) (a0 a1 a2 a3 a4 a5 a6 a7 a8 a9 : Nat) (fu : Nat) (ft : Tab) (er : Tab) (eb : Int32) (li : Tab) (st : Tab) (rd : Int32) (tu : Int32) (la : Int32) (dl : Bool) (sh : Int32) (tb : Int32) (out : Int32) (hf : fX1_lives fu ft = some out) : CI l G (tyz cI cG) yX1_lives wsX1_lives ({ frames := 2, cells := 0, slots := 0, locals := 46 } : Room) [.ref a0] [(a0, .inr (1, [.ref a1, .ref a3, .ref a6, .ref a8, .int rd, .int tu, .int la, .int (bI dl), .int sh, .int tb])), (a1, .inr (4, [.int ft.1, .ref a2, .int ft.2.2.2])), (a2, .inl (cI, ft.2.1, .inl ft.2.2.1)), (a3, .inr (0, [.ref a4, .int eb])), (a4, .inr (4, [.int er.1, .ref a5, .int er.2.2.2])), (a5, .inl (cI, er.2.1, .inl er.2.2.1)), (a6, .inr (4, [.int li.1, .ref a7, .int li.2.2.2])), (a7, .inl (cI, li.2.1, .inl li.2.2.1)), (a8, .inr (4, [.int st.1, .ref a9, .int st.2.2.2])), (a9, .inl (cI, st.2.1, .inl st.2.2.1))] out [(a0, .inr (1, [.ref a1, .ref a3, .ref a6, .ref a8, .int rd, .int tu, .int la, .int (bI dl), .int sh, .int tb])), (a1, .inr (4, [.int ft.1, .ref a2, .int ft.2.2.2])), (a2, .inl (cI, ft.2.1, .inl ft.2.2.1)), (a3, .inr (0, [.ref a4, .int eb])), (a4, .inr (4, [.int er.1, .ref a5, .int er.2.2.2])), (a5, .inl (cI, er.2.1, .inl er.2.2.1)), (a6, .inr (4, [.int li.1, .ref a7, .int li.2.2.2])), (a7, .inl (cI, li.2.1, .inl li.2.2.1)), (a8, .inr (4, [.int st.1, .ref a9, .int st.2.2.2])), (a9, .inl (cI, st.2.1, .inl st.2.2.1))] := by
  intro sz
  refine Met.ofW (cc := cX1_lives) (maxL := 1) (ret := (some .int)) (by decide) rfl ?_
  intro p e s m args below meth c s₁ B hml hv
  obtain ⟨rfl, hsz, hP, hK, hD0⟩ := hv
  have hx := B.exec
  have hb := B.bytes
  have hr := B.returns
  have hts := atoms_spec (ws := wsX1_lives) B.pre
  have hown : s.vm.findClass RX1 = some m.cls := findClass_of_methodNamed B.named
  have hlocks := B.notSynchronized
  subst hsz
  have hD := hD0.self (sz := s.heap.size)
  generalize hAe : va_A ([(a0, .inr (1, [.ref a1, .ref a3, .ref a6, .ref a8, .int rd, .int tu, .int la, .int (bI dl), .int sh, .int tb])), (a1, .inr (4, [.int ft.1, .ref a2, .int ft.2.2.2])), (a2, .inl (cI, ft.2.1, .inl ft.2.2.1)), (a3, .inr (0, [.ref a4, .int eb])), (a4, .inr (4, [.int er.1, .ref a5, .int er.2.2.2])), (a5, .inl (cI, er.2.1, .inl er.2.2.1)), (a6, .inr (4, [.int li.1, .ref a7, .int li.2.2.2])), (a7, .inl (cI, li.2.1, .inl li.2.2.1)), (a8, .inr (4, [.int st.1, .ref a9, .int st.2.2.2])), (a9, .inl (cI, st.2.1, .inl st.2.2.1))]) s.heap.size = A at hD ⊢
  have hA : ∀ q : Nat, s.heap.size ≤ q → A q := fun q h => by rw [← hAe]; exact Or.inr h
  have hS : va_S A s.heap s.heap [] := va_S.rf
  show W p l e ({ frames := 2, cells := 0, slots := 0, locals := 46 } : Room) s m _ below meth c s.heap [] 0 0 _ _
  refine W_genQ (fun Q hQ => ?_)
  have h := hf
  rw [fX1_lives] at h
  have hl := lv_entry ([.ref a0]) (n := 1) (Nat.le_of_ble_eq_true rfl)
  rw [lg_entry_eq]
  generalize (lg_sl ([.ref a0]) ++ List.replicate (1 - (lg_sl ([.ref a0])).length) Slot.unset).toArray = ls at hl ⊢
  have hl : lv_has ls 1 [(0, .ref a0)] := hl
  refine lv_aload_n hx hb dX1_lives_0 rfl (lv_at hl 0 rfl) ?_
  refine lv_iconst (v := 2) hx hb dX1_lives_1 (by decide) ?_
  obtain ⟨x1, ex1, h⟩ := o_b h
  refine call_iV (As := [.int (2 : Int32)]) (rest := []) (ws2 := [(a0, .inr (1, [.ref a1, .ref a3, .ref a6, .ref a8, .int rd, .int tu, .int la, .int (bI dl), .int sh, .int tb])), (a1, .inr (4, [.int ft.1, .ref a2, .int ft.2.2.2])), (a2, .inl (cI, ft.2.1, .inl ft.2.2.1)), (a3, .inr (0, [.ref a4, .int eb])), (a4, .inr (4, [.int er.1, .ref a5, .int er.2.2.2])), (a5, .inl (cI, er.2.1, .inl er.2.2.1)), (a6, .inr (4, [.int li.1, .ref a7, .int li.2.2.2])), (a7, .inl (cI, li.2.1, .inl li.2.2.1)), (a8, .inr (4, [.int st.1, .ref a9, .int st.2.2.2])), (a9, .inl (cI, st.2.1, .inl st.2.2.1))]) ⟨hx, hb, hml, hown, hts⟩ (cX1_total_ok l G cI cG a0 a1 a2 a3 a4 a5 a6 a7 a8 a9 fu ft er eb li st rd tu la dl sh tb (2 : Int32) x1 ex1) (cwV 1 hts gX1_lives_X1_total_101 rfl rfl rfl hdX1_total ⟨Nat.le_of_ble_eq_true rfl, Nat.le_of_ble_eq_true rfl⟩) hP hD hS hA hK 1 rfl rfl rfl [0, 1, 2, 3, 4, 5, 6, 7, 8, 9] rfl rfl rfl rfl rfl rfl rfl rfl hl.1 (Nat.le_of_ble_eq_true rfl) dX1_lives_2 ⟨Nat.zero_le _, Nat.zero_le _⟩ (fun H locs hP hD hS => ?_)
  obtain rfl := o_s h
  rw [hQ]
  exact end_i hx hb hr rfl hP hD hS dX1_lives_5 hlocks
theorem hdX1_join : yX1_join.cls = RX1 ∧ yX1_join.cls ≠ "java/lang/invoke/MethodHandle" ∧ yX1_join.cls ≠ "java/lang/invoke/VarHandle" ∧ (parseMethodDescriptor yX1_join.desc).map (fun d => d.parameters.length) = some 2 := by decide +kernel
set_option maxHeartbeats 4000000 in
set_option maxRecDepth 100000 in
theorem cX1_join_ok (l : Launch) (G : va_G) (cI cG : ClassId) (a0 a1 a2 a3 a4 a5 a6 a7 a8 a9 : Nat) (fu : Nat) (ft : Tab) (er : Tab) (eb : Int32) (li : Tab) (st : Tab) (rd : Int32) (tu : Int32) (la : Int32) (dl : Bool) (sh : Int32) (tb : Int32) (p1 : Int32) (p2 : Int32) (out : Int32 × Tab) (hf : fX1_join fu ft p1 p2 = some out) : CI l G (tyz cI cG) yX1_join wsX1_join ({ frames := 3, cells := 0, slots := 0, locals := 83 } : Room) [.ref a0, .int p1, .int p2] [(a0, .inr (1, [.ref a1, .ref a3, .ref a6, .ref a8, .int rd, .int tu, .int la, .int (bI dl), .int sh, .int tb])), (a1, .inr (4, [.int ft.1, .ref a2, .int ft.2.2.2])), (a2, .inl (cI, ft.2.1, .inl ft.2.2.1)), (a3, .inr (0, [.ref a4, .int eb])), (a4, .inr (4, [.int er.1, .ref a5, .int er.2.2.2])), (a5, .inl (cI, er.2.1, .inl er.2.2.1)), (a6, .inr (4, [.int li.1, .ref a7, .int li.2.2.2])), (a7, .inl (cI, li.2.1, .inl li.2.2.1)), (a8, .inr (4, [.int st.1, .ref a9, .int st.2.2.2])), (a9, .inl (cI, st.2.1, .inl st.2.2.1))] out.1 [(a0, .inr (1, [.ref a1, .ref a3, .ref a6, .ref a8, .int rd, .int tu, .int la, .int (bI dl), .int sh, .int tb])), (a1, .inr (4, [.int out.2.1, .ref a2, .int out.2.2.2.2])), (a2, .inl (cI, out.2.2.1, .inl out.2.2.2.1)), (a3, .inr (0, [.ref a4, .int eb])), (a4, .inr (4, [.int er.1, .ref a5, .int er.2.2.2])), (a5, .inl (cI, er.2.1, .inl er.2.2.1)), (a6, .inr (4, [.int li.1, .ref a7, .int li.2.2.2])), (a7, .inl (cI, li.2.1, .inl li.2.2.1)), (a8, .inr (4, [.int st.1, .ref a9, .int st.2.2.2])), (a9, .inl (cI, st.2.1, .inl st.2.2.1))] := by
  intro sz
  refine Met.ofW (cc := cX1_join) (maxL := 4) (ret := (some .int)) (by decide) rfl ?_
  intro p e s m args below meth c s₁ B hml hv
  obtain ⟨rfl, hsz, hP, hK, hD0⟩ := hv
  have hx := B.exec
  have hb := B.bytes
  have hr := B.returns
  have hts := atoms_spec (ws := wsX1_join) B.pre
  have hown : s.vm.findClass RX1 = some m.cls := findClass_of_methodNamed B.named
  have hlocks := B.notSynchronized
  subst hsz
  have hD := hD0.self (sz := s.heap.size)
  generalize hAe : va_A ([(a0, .inr (1, [.ref a1, .ref a3, .ref a6, .ref a8, .int rd, .int tu, .int la, .int (bI dl), .int sh, .int tb])), (a1, .inr (4, [.int ft.1, .ref a2, .int ft.2.2.2])), (a2, .inl (cI, ft.2.1, .inl ft.2.2.1)), (a3, .inr (0, [.ref a4, .int eb])), (a4, .inr (4, [.int er.1, .ref a5, .int er.2.2.2])), (a5, .inl (cI, er.2.1, .inl er.2.2.1)), (a6, .inr (4, [.int li.1, .ref a7, .int li.2.2.2])), (a7, .inl (cI, li.2.1, .inl li.2.2.1)), (a8, .inr (4, [.int st.1, .ref a9, .int st.2.2.2])), (a9, .inl (cI, st.2.1, .inl st.2.2.1))]) s.heap.size = A at hD ⊢
  have hA : ∀ q : Nat, s.heap.size ≤ q → A q := fun q h => by rw [← hAe]; exact Or.inr h
  have hS : va_S A s.heap s.heap [] := va_S.rf
  have hw0 := hts (.fieldLink RX1 16 "SpeedTurns$Game" "fighters" "LSpeedTurns$Table;") (List.mem_of_getElem? (i := 1) rfl)
  show W p l e ({ frames := 3, cells := 0, slots := 0, locals := 83 } : Room) s m _ below meth c s.heap [] 0 0 _ _
  refine W_genQ (fun Q hQ => ?_)
  have h := hf
  rw [fX1_join] at h
  have hl := lv_entry ([.ref a0, .int p1, .int p2]) (n := 4) (Nat.le_of_ble_eq_true rfl)
  rw [lg_entry_eq]
  generalize (lg_sl ([.ref a0, .int p1, .int p2]) ++ List.replicate (4 - (lg_sl ([.ref a0, .int p1, .int p2])).length) Slot.unset).toArray = ls at hl ⊢
  have hl : lv_has ls 4 [(0, .ref a0), (1, .int p1), (2, .int p2)] := hl
  refine lv_aload_n hx hb dX1_join_0 rfl (lv_at hl 0 rfl) ?_
  refine va_get (D := G) (ci := 1) (v := .ref a1) (C := RX1) (T := TX1) (N := 10) hx hb hts huX1_join_X1 hown hK.1 hP 0 rfl rfl 0 (by decide) hw0 (fun _ h9 => h9) rfl dX1_join_1 ?_
  obtain ⟨x1, ex1, h⟩ := o_b h
  refine call_iV (As := []) (rest := []) (ws2 := [(a0, .inr (1, [.ref a1, .ref a3, .ref a6, .ref a8, .int rd, .int tu, .int la, .int (bI dl), .int sh, .int tb])), (a1, .inr (4, [.int ft.1, .ref a2, .int ft.2.2.2])), (a2, .inl (cI, ft.2.1, .inl ft.2.2.1)), (a3, .inr (0, [.ref a4, .int eb])), (a4, .inr (4, [.int er.1, .ref a5, .int er.2.2.2])), (a5, .inl (cI, er.2.1, .inl er.2.2.1)), (a6, .inr (4, [.int li.1, .ref a7, .int li.2.2.2])), (a7, .inl (cI, li.2.1, .inl li.2.2.1)), (a8, .inr (4, [.int st.1, .ref a9, .int st.2.2.2])), (a9, .inl (cI, st.2.1, .inl st.2.2.1))]) ⟨hx, hb, hml, hown, hts⟩ (cX4_count_ok l G cI cG a1 a2 ft x1 ex1) (cwV 0 hts gX1_join_X4_count_60 rfl rfl rfl hdX4_count ⟨Nat.le_of_ble_eq_true rfl, Nat.le_of_ble_eq_true rfl⟩) hP hD hS hA hK 4 rfl rfl rfl [1, 2] rfl rfl rfl rfl rfl rfl rfl rfl hl.1 (Nat.le_of_ble_eq_true rfl) dX1_join_4 ⟨Nat.zero_le _, Nat.zero_le _⟩ (fun H locs hP hD hS => ?_)
  refine lv_istore_n (lv' := [(3, .int x1), (0, .ref a0), (1, .int p1), (2, .int p2)]) hx hb dX1_join_7 rfl hl (by decide) rfl (fun ls hl => ?_)
  refine lv_aload_n hx hb dX1_join_8 rfl (lv_at hl 1 rfl) ?_
  refine va_get (D := G) (ci := 1) (v := .ref a1) (C := RX1) (T := TX1) (N := 10) hx hb hts huX1_join_X1 hown hK.1 hP 0 rfl rfl 0 (by decide) hw0 (fun _ h9 => h9) rfl dX1_join_9 ?_
  refine lv_iload_n hx hb dX1_join_12 rfl (lv_at hl 0 rfl) ?_
  obtain ⟨x2, ex2, h⟩ := o_b h
  refine call_vV (As := [.int x1]) (rest := []) (ws2 := [(a0, .inr (1, [.ref a1, .ref a3, .ref a6, .ref a8, .int rd, .int tu, .int la, .int (bI dl), .int sh, .int tb])), (a1, .inr (4, [.int x2.1, .ref a2, .int x2.2.2.2])), (a2, .inl (cI, x2.2.1, .inl x2.2.2.1)), (a3, .inr (0, [.ref a4, .int eb])), (a4, .inr (4, [.int er.1, .ref a5, .int er.2.2.2])), (a5, .inl (cI, er.2.1, .inl er.2.2.1)), (a6, .inr (4, [.int li.1, .ref a7, .int li.2.2.2])), (a7, .inl (cI, li.2.1, .inl li.2.2.1)), (a8, .inr (4, [.int st.1, .ref a9, .int st.2.2.2])), (a9, .inl (cI, st.2.1, .inl st.2.2.1))]) ⟨hx, hb, hml, hown, hts⟩ (cX4_insert_ok l G cI cG a1 a2 fu ft x1 x2 ex2) (cwV 1 hts gX1_join_X4_insert_115 rfl rfl rfl hdX4_insert ⟨Nat.le_of_ble_eq_true rfl, Nat.le_of_ble_eq_true rfl⟩) hP hD hS hA hK 4 rfl rfl rfl [1, 2] rfl rfl rfl rfl rfl rfl rfl rfl hl.1 (Nat.le_of_ble_eq_true rfl) dX1_join_13 ⟨Nat.zero_le _, Nat.zero_le _⟩ (fun H locs hP hD hS => ?_)
  refine lv_aload_n hx hb dX1_join_16 rfl (lv_at hl 1 rfl) ?_
  refine va_get (D := G) (ci := 1) (v := .ref a1) (C := RX1) (T := TX1) (N := 10) hx hb hts huX1_join_X1 hown hK.1 hP 0 rfl rfl 0 (by decide) hw0 (fun _ h9 => h9) rfl dX1_join_17 ?_
  refine lv_iload_n hx hb dX1_join_20 rfl (lv_at hl 0 rfl) ?_
  refine lv_iconst (v := 0) hx hb dX1_join_21 (by decide) ?_
  refine lv_iload_n hx hb dX1_join_22 rfl (lv_at hl 2 rfl) ?_
  obtain ⟨x3, ex3, h⟩ := o_b h
  refine call_vV (As := [.int x1, .int (0 : Int32), .int p1]) (rest := []) (ws2 := [(a0, .inr (1, [.ref a1, .ref a3, .ref a6, .ref a8, .int rd, .int tu, .int la, .int (bI dl), .int sh, .int tb])), (a1, .inr (4, [.int x3.1, .ref a2, .int x3.2.2.2])), (a2, .inl (cI, x3.2.1, .inl x3.2.2.1)), (a3, .inr (0, [.ref a4, .int eb])), (a4, .inr (4, [.int er.1, .ref a5, .int er.2.2.2])), (a5, .inl (cI, er.2.1, .inl er.2.2.1)), (a6, .inr (4, [.int li.1, .ref a7, .int li.2.2.2])), (a7, .inl (cI, li.2.1, .inl li.2.2.1)), (a8, .inr (4, [.int st.1, .ref a9, .int st.2.2.2])), (a9, .inl (cI, st.2.1, .inl st.2.2.1))]) ⟨hx, hb, hml, hown, hts⟩ (cX4_put_ok l G cI cG a1 a2 x2 x1 (0 : Int32) p1 x3 ex3) (cwV 3 hts gX1_join_X4_put_119 rfl rfl rfl hdX4_put ⟨Nat.le_of_ble_eq_true rfl, Nat.le_of_ble_eq_true rfl⟩) hP hD hS hA hK 4 rfl rfl rfl [1, 2] rfl rfl rfl rfl rfl rfl rfl rfl hl.1 (Nat.le_of_ble_eq_true rfl) dX1_join_23 ⟨Nat.zero_le _, Nat.zero_le _⟩ (fun H locs hP hD hS => ?_)
  refine lv_aload_n hx hb dX1_join_26 rfl (lv_at hl 1 rfl) ?_
  refine va_get (D := G) (ci := 1) (v := .ref a1) (C := RX1) (T := TX1) (N := 10) hx hb hts huX1_join_X1 hown hK.1 hP 0 rfl rfl 0 (by decide) hw0 (fun _ h9 => h9) rfl dX1_join_27 ?_
  refine lv_iload_n hx hb dX1_join_30 rfl (lv_at hl 0 rfl) ?_
  refine lv_iconst (v := 1) hx hb dX1_join_31 (by decide) ?_
  refine lv_iload_n hx hb dX1_join_32 rfl (lv_at hl 3 rfl) ?_
  obtain ⟨x4, ex4, h⟩ := o_b h
  refine call_vV (As := [.int x1, .int (1 : Int32), .int p2]) (rest := []) (ws2 := [(a0, .inr (1, [.ref a1, .ref a3, .ref a6, .ref a8, .int rd, .int tu, .int la, .int (bI dl), .int sh, .int tb])), (a1, .inr (4, [.int x4.1, .ref a2, .int x4.2.2.2])), (a2, .inl (cI, x4.2.1, .inl x4.2.2.1)), (a3, .inr (0, [.ref a4, .int eb])), (a4, .inr (4, [.int er.1, .ref a5, .int er.2.2.2])), (a5, .inl (cI, er.2.1, .inl er.2.2.1)), (a6, .inr (4, [.int li.1, .ref a7, .int li.2.2.2])), (a7, .inl (cI, li.2.1, .inl li.2.2.1)), (a8, .inr (4, [.int st.1, .ref a9, .int st.2.2.2])), (a9, .inl (cI, st.2.1, .inl st.2.2.1))]) ⟨hx, hb, hml, hown, hts⟩ (cX4_put_ok l G cI cG a1 a2 x3 x1 (1 : Int32) p2 x4 ex4) (cwV 3 hts gX1_join_X4_put_119 rfl rfl rfl hdX4_put ⟨Nat.le_of_ble_eq_true rfl, Nat.le_of_ble_eq_true rfl⟩) hP hD hS hA hK 4 rfl rfl rfl [1, 2] rfl rfl rfl rfl rfl rfl rfl rfl hl.1 (Nat.le_of_ble_eq_true rfl) dX1_join_33 ⟨Nat.zero_le _, Nat.zero_le _⟩ (fun H locs hP hD hS => ?_)
  refine lv_aload_n hx hb dX1_join_36 rfl (lv_at hl 1 rfl) ?_
  refine va_get (D := G) (ci := 1) (v := .ref a1) (C := RX1) (T := TX1) (N := 10) hx hb hts huX1_join_X1 hown hK.1 hP 0 rfl rfl 0 (by decide) hw0 (fun _ h9 => h9) rfl dX1_join_37 ?_
  refine lv_iload_n hx hb dX1_join_40 rfl (lv_at hl 0 rfl) ?_
  refine lv_iconst (v := 2) hx hb dX1_join_41 (by decide) ?_
  refine lv_iload_n hx hb dX1_join_42 rfl (lv_at hl 3 rfl) ?_
  obtain ⟨x5, ex5, h⟩ := o_b h
  refine call_vV (As := [.int x1, .int (2 : Int32), .int p2]) (rest := []) (ws2 := [(a0, .inr (1, [.ref a1, .ref a3, .ref a6, .ref a8, .int rd, .int tu, .int la, .int (bI dl), .int sh, .int tb])), (a1, .inr (4, [.int x5.1, .ref a2, .int x5.2.2.2])), (a2, .inl (cI, x5.2.1, .inl x5.2.2.1)), (a3, .inr (0, [.ref a4, .int eb])), (a4, .inr (4, [.int er.1, .ref a5, .int er.2.2.2])), (a5, .inl (cI, er.2.1, .inl er.2.2.1)), (a6, .inr (4, [.int li.1, .ref a7, .int li.2.2.2])), (a7, .inl (cI, li.2.1, .inl li.2.2.1)), (a8, .inr (4, [.int st.1, .ref a9, .int st.2.2.2])), (a9, .inl (cI, st.2.1, .inl st.2.2.1))]) ⟨hx, hb, hml, hown, hts⟩ (cX4_put_ok l G cI cG a1 a2 x4 x1 (2 : Int32) p2 x5 ex5) (cwV 3 hts gX1_join_X4_put_119 rfl rfl rfl hdX4_put ⟨Nat.le_of_ble_eq_true rfl, Nat.le_of_ble_eq_true rfl⟩) hP hD hS hA hK 4 rfl rfl rfl [1, 2] rfl rfl rfl rfl rfl rfl rfl rfl hl.1 (Nat.le_of_ble_eq_true rfl) dX1_join_43 ⟨Nat.zero_le _, Nat.zero_le _⟩ (fun H locs hP hD hS => ?_)
  refine lv_aload_n hx hb dX1_join_46 rfl (lv_at hl 1 rfl) ?_
  refine va_get (D := G) (ci := 1) (v := .ref a1) (C := RX1) (T := TX1) (N := 10) hx hb hts huX1_join_X1 hown hK.1 hP 0 rfl rfl 0 (by decide) hw0 (fun _ h9 => h9) rfl dX1_join_47 ?_
  refine lv_iload_n hx hb dX1_join_50 rfl (lv_at hl 0 rfl) ?_
  refine lv_iconst (v := 3) hx hb dX1_join_51 (by decide) ?_
  refine lv_iconst (v := 1) hx hb dX1_join_52 (by decide) ?_
  obtain ⟨x6, ex6, h⟩ := o_b h
  refine call_vV (As := [.int x1, .int (3 : Int32), .int (1 : Int32)]) (rest := []) (ws2 := [(a0, .inr (1, [.ref a1, .ref a3, .ref a6, .ref a8, .int rd, .int tu, .int la, .int (bI dl), .int sh, .int tb])), (a1, .inr (4, [.int x6.1, .ref a2, .int x6.2.2.2])), (a2, .inl (cI, x6.2.1, .inl x6.2.2.1)), (a3, .inr (0, [.ref a4, .int eb])), (a4, .inr (4, [.int er.1, .ref a5, .int er.2.2.2])), (a5, .inl (cI, er.2.1, .inl er.2.2.1)), (a6, .inr (4, [.int li.1, .ref a7, .int li.2.2.2])), (a7, .inl (cI, li.2.1, .inl li.2.2.1)), (a8, .inr (4, [.int st.1, .ref a9, .int st.2.2.2])), (a9, .inl (cI, st.2.1, .inl st.2.2.1))]) ⟨hx, hb, hml, hown, hts⟩ (cX4_put_ok l G cI cG a1 a2 x5 x1 (3 : Int32) (1 : Int32) x6 ex6) (cwV 3 hts gX1_join_X4_put_119 rfl rfl rfl hdX4_put ⟨Nat.le_of_ble_eq_true rfl, Nat.le_of_ble_eq_true rfl⟩) hP hD hS hA hK 4 rfl rfl rfl [1, 2] rfl rfl rfl rfl rfl rfl rfl rfl hl.1 (Nat.le_of_ble_eq_true rfl) dX1_join_53 ⟨Nat.zero_le _, Nat.zero_le _⟩ (fun H locs hP hD hS => ?_)
  refine lv_iload_n hx hb dX1_join_56 rfl (lv_at hl 0 rfl) ?_
  obtain rfl := o_s h
  rw [hQ]
  exact end_i hx hb hr rfl hP hD hS dX1_join_57 hlocks
theorem hdX1_changeSpeed : yX1_changeSpeed.cls = RX1 ∧ yX1_changeSpeed.cls ≠ "java/lang/invoke/MethodHandle" ∧ yX1_changeSpeed.cls ≠ "java/lang/invoke/VarHandle" ∧ (parseMethodDescriptor yX1_changeSpeed.desc).map (fun d => d.parameters.length) = some 2 := by decide +kernel
set_option maxHeartbeats 4000000 in
set_option maxRecDepth 100000 in
theorem cX1_changeSpeed_ok (l : Launch) (G : va_G) (cI cG : ClassId) (a0 a1 a2 a3 a4 a5 a6 a7 a8 a9 : Nat) (ft : Tab) (er : Tab) (eb : Int32) (li : Tab) (st : Tab) (rd : Int32) (tu : Int32) (la : Int32) (dl : Bool) (sh : Int32) (tb : Int32) (p1 : Int32) (p2 : Int32) (out : Int32 × Tab) (hf : fX1_changeSpeed ft p1 p2 = some out) : CI l G (tyz cI cG) yX1_changeSpeed wsX1_changeSpeed ({ frames := 1, cells := 0, slots := 0, locals := 24 } : Room) [.ref a0, .int p1, .int p2] [(a0, .inr (1, [.ref a1, .ref a3, .ref a6, .ref a8, .int rd, .int tu, .int la, .int (bI dl), .int sh, .int tb])), (a1, .inr (4, [.int ft.1, .ref a2, .int ft.2.2.2])), (a2, .inl (cI, ft.2.1, .inl ft.2.2.1)), (a3, .inr (0, [.ref a4, .int eb])), (a4, .inr (4, [.int er.1, .ref a5, .int er.2.2.2])), (a5, .inl (cI, er.2.1, .inl er.2.2.1)), (a6, .inr (4, [.int li.1, .ref a7, .int li.2.2.2])), (a7, .inl (cI, li.2.1, .inl li.2.2.1)), (a8, .inr (4, [.int st.1, .ref a9, .int st.2.2.2])), (a9, .inl (cI, st.2.1, .inl st.2.2.1))] out.1 [(a0, .inr (1, [.ref a1, .ref a3, .ref a6, .ref a8, .int rd, .int tu, .int la, .int (bI dl), .int sh, .int tb])), (a1, .inr (4, [.int out.2.1, .ref a2, .int out.2.2.2.2])), (a2, .inl (cI, out.2.2.1, .inl out.2.2.2.1)), (a3, .inr (0, [.ref a4, .int eb])), (a4, .inr (4, [.int er.1, .ref a5, .int er.2.2.2])), (a5, .inl (cI, er.2.1, .inl er.2.2.1)), (a6, .inr (4, [.int li.1, .ref a7, .int li.2.2.2])), (a7, .inl (cI, li.2.1, .inl li.2.2.1)), (a8, .inr (4, [.int st.1, .ref a9, .int st.2.2.2])), (a9, .inl (cI, st.2.1, .inl st.2.2.1))] := by
  intro sz
  refine Met.ofW (cc := cX1_changeSpeed) (maxL := 4) (ret := (some .int)) (by decide) rfl ?_
  intro p e s m args below meth c s₁ B hml hv
  obtain ⟨rfl, hsz, hP, hK, hD0⟩ := hv
  have hx := B.exec
  have hb := B.bytes
  have hr := B.returns
  have hts := atoms_spec (ws := wsX1_changeSpeed) B.pre
  have hown : s.vm.findClass RX1 = some m.cls := findClass_of_methodNamed B.named
  have hlocks := B.notSynchronized
  subst hsz
  have hD := hD0.self (sz := s.heap.size)
  generalize hAe : va_A ([(a0, .inr (1, [.ref a1, .ref a3, .ref a6, .ref a8, .int rd, .int tu, .int la, .int (bI dl), .int sh, .int tb])), (a1, .inr (4, [.int ft.1, .ref a2, .int ft.2.2.2])), (a2, .inl (cI, ft.2.1, .inl ft.2.2.1)), (a3, .inr (0, [.ref a4, .int eb])), (a4, .inr (4, [.int er.1, .ref a5, .int er.2.2.2])), (a5, .inl (cI, er.2.1, .inl er.2.2.1)), (a6, .inr (4, [.int li.1, .ref a7, .int li.2.2.2])), (a7, .inl (cI, li.2.1, .inl li.2.2.1)), (a8, .inr (4, [.int st.1, .ref a9, .int st.2.2.2])), (a9, .inl (cI, st.2.1, .inl st.2.2.1))]) s.heap.size = A at hD ⊢
  have hA : ∀ q : Nat, s.heap.size ≤ q → A q := fun q h => by rw [← hAe]; exact Or.inr h
  have hS : va_S A s.heap s.heap [] := va_S.rf
  have hw0 := hts (.fieldLink RX1 16 "SpeedTurns$Game" "fighters" "LSpeedTurns$Table;") (List.mem_of_getElem? (i := 1) rfl)
  show W p l e ({ frames := 1, cells := 0, slots := 0, locals := 24 } : Room) s m _ below meth c s.heap [] 0 0 _ _
  refine W_genQ (fun Q hQ => ?_)
  have h := hf
  rw [fX1_changeSpeed] at h
  have hl := lv_entry ([.ref a0, .int p1, .int p2]) (n := 4) (Nat.le_of_ble_eq_true rfl)
  rw [lg_entry_eq]
  generalize (lg_sl ([.ref a0, .int p1, .int p2]) ++ List.replicate (4 - (lg_sl ([.ref a0, .int p1, .int p2])).length) Slot.unset).toArray = ls at hl ⊢
  have hl : lv_has ls 4 [(0, .ref a0), (1, .int p1), (2, .int p2)] := hl
  refine lv_aload_n hx hb dX1_changeSpeed_0 rfl (lv_at hl 0 rfl) ?_
  refine va_get (D := G) (ci := 1) (v := .ref a1) (C := RX1) (T := TX1) (N := 10) hx hb hts huX1_changeSpeed_X1 hown hK.1 hP 0 rfl rfl 0 (by decide) hw0 (fun _ h9 => h9) rfl dX1_changeSpeed_1 ?_
  refine lv_iload_n hx hb dX1_changeSpeed_4 rfl (lv_at hl 1 rfl) ?_
  refine lv_iconst (v := 0) hx hb dX1_changeSpeed_5 (by decide) ?_
  obtain ⟨x1, ex1, h⟩ := o_b h
  refine call_iV (As := [.int p1, .int (0 : Int32)]) (rest := []) (ws2 := [(a0, .inr (1, [.ref a1, .ref a3, .ref a6, .ref a8, .int rd, .int tu, .int la, .int (bI dl), .int sh, .int tb])), (a1, .inr (4, [.int ft.1, .ref a2, .int ft.2.2.2])), (a2, .inl (cI, ft.2.1, .inl ft.2.2.1)), (a3, .inr (0, [.ref a4, .int eb])), (a4, .inr (4, [.int er.1, .ref a5, .int er.2.2.2])), (a5, .inl (cI, er.2.1, .inl er.2.2.1)), (a6, .inr (4, [.int li.1, .ref a7, .int li.2.2.2])), (a7, .inl (cI, li.2.1, .inl li.2.2.1)), (a8, .inr (4, [.int st.1, .ref a9, .int st.2.2.2])), (a9, .inl (cI, st.2.1, .inl st.2.2.1))]) ⟨hx, hb, hml, hown, hts⟩ (cX4_at_ok l G cI cG a1 a2 ft p1 (0 : Int32) x1 ex1) (cwV 2 hts gX1_changeSpeed_X4_at_64 rfl rfl rfl hdX4_at ⟨Nat.le_of_ble_eq_true rfl, Nat.le_of_ble_eq_true rfl⟩) hP hD hS hA hK 4 rfl rfl rfl [1, 2] rfl rfl rfl rfl rfl rfl rfl rfl hl.1 (Nat.le_of_ble_eq_true rfl) dX1_changeSpeed_6 ⟨Nat.zero_le _, Nat.zero_le _⟩ (fun H locs hP hD hS => ?_)
  refine lv_istore_n (lv' := [(3, .int x1), (0, .ref a0), (1, .int p1), (2, .int p2)]) hx hb dX1_changeSpeed_9 rfl hl (by decide) rfl (fun ls hl => ?_)
  refine lv_aload_n hx hb dX1_changeSpeed_10 rfl (lv_at hl 1 rfl) ?_
  refine va_get (D := G) (ci := 1) (v := .ref a1) (C := RX1) (T := TX1) (N := 10) hx hb hts huX1_changeSpeed_X1 hown hK.1 hP 0 rfl rfl 0 (by decide) hw0 (fun _ h9 => h9) rfl dX1_changeSpeed_11 ?_
  refine lv_iload_n hx hb dX1_changeSpeed_14 rfl (lv_at hl 2 rfl) ?_
  refine lv_iconst (v := 0) hx hb dX1_changeSpeed_15 (by decide) ?_
  refine lv_iload_n hx hb dX1_changeSpeed_16 rfl (lv_at hl 3 rfl) ?_
  obtain ⟨x2, ex2, h⟩ := o_b h
  refine call_vV (As := [.int p1, .int (0 : Int32), .int p2]) (rest := []) (ws2 := [(a0, .inr (1, [.ref a1, .ref a3, .ref a6, .ref a8, .int rd, .int tu, .int la, .int (bI dl), .int sh, .int tb])), (a1, .inr (4, [.int x2.1, .ref a2, .int x2.2.2.2])), (a2, .inl (cI, x2.2.1, .inl x2.2.2.1)), (a3, .inr (0, [.ref a4, .int eb])), (a4, .inr (4, [.int er.1, .ref a5, .int er.2.2.2])), (a5, .inl (cI, er.2.1, .inl er.2.2.1)), (a6, .inr (4, [.int li.1, .ref a7, .int li.2.2.2])), (a7, .inl (cI, li.2.1, .inl li.2.2.1)), (a8, .inr (4, [.int st.1, .ref a9, .int st.2.2.2])), (a9, .inl (cI, st.2.1, .inl st.2.2.1))]) ⟨hx, hb, hml, hown, hts⟩ (cX4_put_ok l G cI cG a1 a2 ft p1 (0 : Int32) p2 x2 ex2) (cwV 3 hts gX1_changeSpeed_X4_put_119 rfl rfl rfl hdX4_put ⟨Nat.le_of_ble_eq_true rfl, Nat.le_of_ble_eq_true rfl⟩) hP hD hS hA hK 4 rfl rfl rfl [1, 2] rfl rfl rfl rfl rfl rfl rfl rfl hl.1 (Nat.le_of_ble_eq_true rfl) dX1_changeSpeed_17 ⟨Nat.zero_le _, Nat.zero_le _⟩ (fun H locs hP hD hS => ?_)
  refine lv_iload_n hx hb dX1_changeSpeed_20 rfl (lv_at hl 0 rfl) ?_
  obtain rfl := o_s h
  rw [hQ]
  exact end_i hx hb hr rfl hP hD hS dX1_changeSpeed_21 hlocks
theorem hdX1_changeShock : yX1_changeShock.cls = RX1 ∧ yX1_changeShock.cls ≠ "java/lang/invoke/MethodHandle" ∧ yX1_changeShock.cls ≠ "java/lang/invoke/VarHandle" ∧ (parseMethodDescriptor yX1_changeShock.desc).map (fun d => d.parameters.length) = some 1 := by decide +kernel
set_option maxHeartbeats 4000000 in
set_option maxRecDepth 100000 in
theorem cX1_changeShock_ok (l : Launch) (G : va_G) (cI cG : ClassId) (a0 a1 a2 a3 a4 a5 a6 a7 a8 a9 : Nat) (ft : Tab) (er : Tab) (eb : Int32) (li : Tab) (st : Tab) (rd : Int32) (tu : Int32) (la : Int32) (dl : Bool) (sh : Int32) (tb : Int32) (p1 : Int32) (out : Int32 × Int32) (hf : fX1_changeShock sh p1 = some out) : CI l G (tyz cI cG) yX1_changeShock wsX1_changeShock ({ frames := 0, cells := 0, slots := 0, locals := 0 } : Room) [.ref a0, .int p1] [(a0, .inr (1, [.ref a1, .ref a3, .ref a6, .ref a8, .int rd, .int tu, .int la, .int (bI dl), .int sh, .int tb])), (a1, .inr (4, [.int ft.1, .ref a2, .int ft.2.2.2])), (a2, .inl (cI, ft.2.1, .inl ft.2.2.1)), (a3, .inr (0, [.ref a4, .int eb])), (a4, .inr (4, [.int er.1, .ref a5, .int er.2.2.2])), (a5, .inl (cI, er.2.1, .inl er.2.2.1)), (a6, .inr (4, [.int li.1, .ref a7, .int li.2.2.2])), (a7, .inl (cI, li.2.1, .inl li.2.2.1)), (a8, .inr (4, [.int st.1, .ref a9, .int st.2.2.2])), (a9, .inl (cI, st.2.1, .inl st.2.2.1))] out.1 [(a0, .inr (1, [.ref a1, .ref a3, .ref a6, .ref a8, .int rd, .int tu, .int la, .int (bI dl), .int out.2, .int tb])), (a1, .inr (4, [.int ft.1, .ref a2, .int ft.2.2.2])), (a2, .inl (cI, ft.2.1, .inl ft.2.2.1)), (a3, .inr (0, [.ref a4, .int eb])), (a4, .inr (4, [.int er.1, .ref a5, .int er.2.2.2])), (a5, .inl (cI, er.2.1, .inl er.2.2.1)), (a6, .inr (4, [.int li.1, .ref a7, .int li.2.2.2])), (a7, .inl (cI, li.2.1, .inl li.2.2.1)), (a8, .inr (4, [.int st.1, .ref a9, .int st.2.2.2])), (a9, .inl (cI, st.2.1, .inl st.2.2.1))] := by
  intro sz
  refine Met.ofW (cc := cX1_changeShock) (maxL := 3) (ret := (some .int)) (by decide) rfl ?_
  intro p e s m args below meth c s₁ B hml hv
  obtain ⟨rfl, hsz, hP, hK, hD0⟩ := hv
  have hx := B.exec
  have hb := B.bytes
  have hr := B.returns
  have hts := atoms_spec (ws := wsX1_changeShock) B.pre
  have hown : s.vm.findClass RX1 = some m.cls := findClass_of_methodNamed B.named
  have hlocks := B.notSynchronized
  subst hsz
  have hD := hD0.self (sz := s.heap.size)
  generalize hAe : va_A ([(a0, .inr (1, [.ref a1, .ref a3, .ref a6, .ref a8, .int rd, .int tu, .int la, .int (bI dl), .int sh, .int tb])), (a1, .inr (4, [.int ft.1, .ref a2, .int ft.2.2.2])), (a2, .inl (cI, ft.2.1, .inl ft.2.2.1)), (a3, .inr (0, [.ref a4, .int eb])), (a4, .inr (4, [.int er.1, .ref a5, .int er.2.2.2])), (a5, .inl (cI, er.2.1, .inl er.2.2.1)), (a6, .inr (4, [.int li.1, .ref a7, .int li.2.2.2])), (a7, .inl (cI, li.2.1, .inl li.2.2.1)), (a8, .inr (4, [.int st.1, .ref a9, .int st.2.2.2])), (a9, .inl (cI, st.2.1, .inl st.2.2.1))]) s.heap.size = A at hD ⊢
  have hA : ∀ q : Nat, s.heap.size ≤ q → A q := fun q h => by rw [← hAe]; exact Or.inr h
  have hS : va_S A s.heap s.heap [] := va_S.rf
  have hw0 := hts (.fieldLink RX1 47 "SpeedTurns$Game" "shock" "I") (List.mem_of_getElem? (i := 1) rfl)
  show W p l e ({ frames := 0, cells := 0, slots := 0, locals := 0 } : Room) s m _ below meth c s.heap [] 0 0 _ _
  refine W_genQ (fun Q hQ => ?_)
  have h := hf
  rw [fX1_changeShock] at h
  have hl := lv_entry ([.ref a0, .int p1]) (n := 3) (Nat.le_of_ble_eq_true rfl)
  rw [lg_entry_eq]
  generalize (lg_sl ([.ref a0, .int p1]) ++ List.replicate (3 - (lg_sl ([.ref a0, .int p1])).length) Slot.unset).toArray = ls at hl ⊢
  have hl : lv_has ls 3 [(0, .ref a0), (1, .int p1)] := hl
  refine lv_aload_n hx hb dX1_changeShock_0 rfl (lv_at hl 0 rfl) ?_
  refine va_get (D := G) (ci := 1) (v := .int sh) (C := RX1) (T := TX1) (N := 10) hx hb hts huX1_changeShock_X1 hown hK.1 hP 0 rfl rfl 8 (by decide) hw0 (fun _ h9 => h9) rfl dX1_changeShock_1 ?_
  refine lv_istore_n (lv' := [(2, .int sh), (0, .ref a0), (1, .int p1)]) hx hb dX1_changeShock_4 rfl hl (by decide) rfl (fun ls hl => ?_)
  refine lv_aload_n hx hb dX1_changeShock_5 rfl (lv_at hl 1 rfl) ?_
  refine lv_iload_n hx hb dX1_changeShock_6 rfl (lv_at hl 2 rfl) ?_
  refine va_put (D := G) (ci := 1) (v := .int p1) (ty := .int) (C := RX1) (T := TX1) (N := 10) hx hb hts huX1_changeShock_X1 tyX1 tyX1_ok nmX1 hown hK.1 hP hD hS 0 rfl rfl 8 (by decide) hw0 (fun _ h9 => h9) rfl (by decide +kernel) rfl rfl (Nat.le_of_ble_eq_true rfl) dX1_changeShock_7 (fun H locs hP hD hS => ?_)
  have hP : va_P G vwCl ([(a0, .inr (1, [.ref a1, .ref a3, .ref a6, .ref a8, .int rd, .int tu, .int la, .int (bI dl), .int p1, .int tb])), (a1, .inr (4, [.int ft.1, .ref a2, .int ft.2.2.2])), (a2, .inl (cI, ft.2.1, .inl ft.2.2.1)), (a3, .inr (0, [.ref a4, .int eb])), (a4, .inr (4, [.int er.1, .ref a5, .int er.2.2.2])), (a5, .inl (cI, er.2.1, .inl er.2.2.1)), (a6, .inr (4, [.int li.1, .ref a7, .int li.2.2.2])), (a7, .inl (cI, li.2.1, .inl li.2.2.1)), (a8, .inr (4, [.int st.1, .ref a9, .int st.2.2.2])), (a9, .inl (cI, st.2.1, .inl st.2.2.1))]) H := hP
  have hD : va_D A ([(a0, .inr (1, [.ref a1, .ref a3, .ref a6, .ref a8, .int rd, .int tu, .int la, .int (bI dl), .int p1, .int tb])), (a1, .inr (4, [.int ft.1, .ref a2, .int ft.2.2.2])), (a2, .inl (cI, ft.2.1, .inl ft.2.2.1)), (a3, .inr (0, [.ref a4, .int eb])), (a4, .inr (4, [.int er.1, .ref a5, .int er.2.2.2])), (a5, .inl (cI, er.2.1, .inl er.2.2.1)), (a6, .inr (4, [.int li.1, .ref a7, .int li.2.2.2])), (a7, .inl (cI, li.2.1, .inl li.2.2.1)), (a8, .inr (4, [.int st.1, .ref a9, .int st.2.2.2])), (a9, .inl (cI, st.2.1, .inl st.2.2.1))]) := hD
  refine lv_iload_n hx hb dX1_changeShock_10 rfl (lv_at hl 0 rfl) ?_
  obtain rfl := o_s h
  rw [hQ]
  exact end_i hx hb hr rfl hP hD hS dX1_changeShock_11 hlocks
theorem hdX1_mayBeginTurn : yX1_mayBeginTurn.cls = RX1 ∧ yX1_mayBeginTurn.cls ≠ "java/lang/invoke/MethodHandle" ∧ yX1_mayBeginTurn.cls ≠ "java/lang/invoke/VarHandle" ∧ (parseMethodDescriptor yX1_mayBeginTurn.desc).map (fun d => d.parameters.length) = some 0 := by decide +kernel
set_option maxHeartbeats 4000000 in
set_option maxRecDepth 100000 in
theorem cX1_mayBeginTurn_ok (l : Launch) (G : va_G) (cI cG : ClassId) (a0 a1 a2 a3 a4 a5 a6 a7 a8 a9 : Nat) (ft : Tab) (er : Tab) (eb : Int32) (li : Tab) (st : Tab) (rd : Int32) (tu : Int32) (la : Int32) (dl : Bool) (sh : Int32) (tb : Int32) (out : Bool) (hf : fX1_mayBeginTurn tu = some out) : CI l G (tyz cI cG) yX1_mayBeginTurn wsX1_mayBeginTurn ({ frames := 0, cells := 0, slots := 0, locals := 0 } : Room) [.ref a0] [(a0, .inr (1, [.ref a1, .ref a3, .ref a6, .ref a8, .int rd, .int tu, .int la, .int (bI dl), .int sh, .int tb])), (a1, .inr (4, [.int ft.1, .ref a2, .int ft.2.2.2])), (a2, .inl (cI, ft.2.1, .inl ft.2.2.1)), (a3, .inr (0, [.ref a4, .int eb])), (a4, .inr (4, [.int er.1, .ref a5, .int er.2.2.2])), (a5, .inl (cI, er.2.1, .inl er.2.2.1)), (a6, .inr (4, [.int li.1, .ref a7, .int li.2.2.2])), (a7, .inl (cI, li.2.1, .inl li.2.2.1)), (a8, .inr (4, [.int st.1, .ref a9, .int st.2.2.2])), (a9, .inl (cI, st.2.1, .inl st.2.2.1))] (bI out) [(a0, .inr (1, [.ref a1, .ref a3, .ref a6, .ref a8, .int rd, .int tu, .int la, .int (bI dl), .int sh, .int tb])), (a1, .inr (4, [.int ft.1, .ref a2, .int ft.2.2.2])), (a2, .inl (cI, ft.2.1, .inl ft.2.2.1)), (a3, .inr (0, [.ref a4, .int eb])), (a4, .inr (4, [.int er.1, .ref a5, .int er.2.2.2])), (a5, .inl (cI, er.2.1, .inl er.2.2.1)), (a6, .inr (4, [.int li.1, .ref a7, .int li.2.2.2])), (a7, .inl (cI, li.2.1, .inl li.2.2.1)), (a8, .inr (4, [.int st.1, .ref a9, .int st.2.2.2])), (a9, .inl (cI, st.2.1, .inl st.2.2.1))] := by
  intro sz
  refine Met.ofW (cc := cX1_mayBeginTurn) (maxL := 1) (ret := (some .boolean)) (by decide) rfl ?_
  intro p e s m args below meth c s₁ B hml hv
  obtain ⟨rfl, hsz, hP, hK, hD0⟩ := hv
  have hx := B.exec
  have hb := B.bytes
  have hr := B.returns
  have hts := atoms_spec (ws := wsX1_mayBeginTurn) B.pre
  have hown : s.vm.findClass RX1 = some m.cls := findClass_of_methodNamed B.named
  have hlocks := B.notSynchronized
  subst hsz
  have hD := hD0.self (sz := s.heap.size)
  generalize hAe : va_A ([(a0, .inr (1, [.ref a1, .ref a3, .ref a6, .ref a8, .int rd, .int tu, .int la, .int (bI dl), .int sh, .int tb])), (a1, .inr (4, [.int ft.1, .ref a2, .int ft.2.2.2])), (a2, .inl (cI, ft.2.1, .inl ft.2.2.1)), (a3, .inr (0, [.ref a4, .int eb])), (a4, .inr (4, [.int er.1, .ref a5, .int er.2.2.2])), (a5, .inl (cI, er.2.1, .inl er.2.2.1)), (a6, .inr (4, [.int li.1, .ref a7, .int li.2.2.2])), (a7, .inl (cI, li.2.1, .inl li.2.2.1)), (a8, .inr (4, [.int st.1, .ref a9, .int st.2.2.2])), (a9, .inl (cI, st.2.1, .inl st.2.2.1))]) s.heap.size = A at hD ⊢
  have hA : ∀ q : Nat, s.heap.size ≤ q → A q := fun q h => by rw [← hAe]; exact Or.inr h
  have hS : va_S A s.heap s.heap [] := va_S.rf
  have hw0 := hts (.fieldLink RX1 37 "SpeedTurns$Game" "turn" "I") (List.mem_of_getElem? (i := 1) rfl)
  show W p l e ({ frames := 0, cells := 0, slots := 0, locals := 0 } : Room) s m _ below meth c s.heap [] 0 0 _ _
  refine W_genQ (fun Q hQ => ?_)
  have h := hf
  rw [fX1_mayBeginTurn] at h
  have hl := lv_entry ([.ref a0]) (n := 1) (Nat.le_of_ble_eq_true rfl)
  rw [lg_entry_eq]
  generalize (lg_sl ([.ref a0]) ++ List.replicate (1 - (lg_sl ([.ref a0])).length) Slot.unset).toArray = ls at hl ⊢
  have hl : lv_has ls 1 [(0, .ref a0)] := hl
  refine lv_aload_n hx hb dX1_mayBeginTurn_0 rfl (lv_at hl 0 rfl) ?_
  refine va_get (D := G) (ci := 1) (v := .int tu) (C := RX1) (T := TX1) (N := 10) hx hb hts huX1_mayBeginTurn_X1 hown hK.1 hP 0 rfl rfl 5 (by decide) hw0 (fun _ h9 => h9) rfl dX1_mayBeginTurn_1 ?_
  refine lv_iconst (v := (-1)) hx hb dX1_mayBeginTurn_4 (by decide) ?_
  refine lv_icmp_ne (tgt := 12) hx hb dX1_mayBeginTurn_5 (by decide) (fun hc => ?_) (fun hc => ?_)
  · have h := o_f h hc
    refine lv_iconst (v := 0) hx hb dX1_mayBeginTurn_12 (by decide) ?_
    obtain rfl := o_s h
    rw [hQ]
    exact end_z hx hb hr rfl rfl hP hD hS dX1_mayBeginTurn_13 hlocks
  · have h := o_t h hc
    refine lv_iconst (v := 1) hx hb dX1_mayBeginTurn_8 (by decide) ?_
    refine lv_goto (tgt := 13) hx hb dX1_mayBeginTurn_9 (by decide) ?_
    obtain rfl := o_s h
    rw [hQ]
    exact end_z hx hb hr rfl rfl hP hD hS dX1_mayBeginTurn_13 hlocks
theorem hdX1_firstWaiting : yX1_firstWaiting.cls = RX1 ∧ yX1_firstWaiting.cls ≠ "java/lang/invoke/MethodHandle" ∧ yX1_firstWaiting.cls ≠ "java/lang/invoke/VarHandle" ∧ (parseMethodDescriptor yX1_firstWaiting.desc).map (fun d => d.parameters.length) = some 0 := by decide +kernel
set_option maxHeartbeats 4000000 in
set_option maxRecDepth 100000 in
theorem cX1_firstWaiting_ok (l : Launch) (G : va_G) (cI cG : ClassId) (a0 a1 a2 a3 a4 a5 a6 a7 a8 a9 : Nat) (fu : Nat) (ft : Tab) (er : Tab) (eb : Int32) (li : Tab) (st : Tab) (rd : Int32) (tu : Int32) (la : Int32) (dl : Bool) (sh : Int32) (tb : Int32) (out : Int32) (hf : fX1_firstWaiting fu ft li = some out) : CI l G (tyz cI cG) yX1_firstWaiting wsX1_firstWaiting ({ frames := 2, cells := 0, slots := 0, locals := 44 } : Room) [.ref a0] [(a0, .inr (1, [.ref a1, .ref a3, .ref a6, .ref a8, .int rd, .int tu, .int la, .int (bI dl), .int sh, .int tb])), (a1, .inr (4, [.int ft.1, .ref a2, .int ft.2.2.2])), (a2, .inl (cI, ft.2.1, .inl ft.2.2.1)), (a3, .inr (0, [.ref a4, .int eb])), (a4, .inr (4, [.int er.1, .ref a5, .int er.2.2.2])), (a5, .inl (cI, er.2.1, .inl er.2.2.1)), (a6, .inr (4, [.int li.1, .ref a7, .int li.2.2.2])), (a7, .inl (cI, li.2.1, .inl li.2.2.1)), (a8, .inr (4, [.int st.1, .ref a9, .int st.2.2.2])), (a9, .inl (cI, st.2.1, .inl st.2.2.1))] out [(a0, .inr (1, [.ref a1, .ref a3, .ref a6, .ref a8, .int rd, .int tu, .int la, .int (bI dl), .int sh, .int tb])), (a1, .inr (4, [.int ft.1, .ref a2, .int ft.2.2.2])), (a2, .inl (cI, ft.2.1, .inl ft.2.2.1)), (a3, .inr (0, [.ref a4, .int eb])), (a4, .inr (4, [.int er.1, .ref a5, .int er.2.2.2])), (a5, .inl (cI, er.2.1, .inl er.2.2.1)), (a6, .inr (4, [.int li.1, .ref a7, .int li.2.2.2])), (a7, .inl (cI, li.2.1, .inl li.2.2.1)), (a8, .inr (4, [.int st.1, .ref a9, .int st.2.2.2])), (a9, .inl (cI, st.2.1, .inl st.2.2.1))] := by
  intro sz
  refine Met.ofW (cc := cX1_firstWaiting) (maxL := 3) (ret := (some .int)) (by decide) rfl ?_
  intro p e s m args below meth c s₁ B hml hv
  obtain ⟨rfl, hsz, hP, hK, hD0⟩ := hv
  have hx := B.exec
  have hb := B.bytes
  have hr := B.returns
  have hts := atoms_spec (ws := wsX1_firstWaiting) B.pre
  have hown : s.vm.findClass RX1 = some m.cls := findClass_of_methodNamed B.named
  have hlocks := B.notSynchronized
  subst hsz
  have hD := hD0.self (sz := s.heap.size)
  generalize hAe : va_A ([(a0, .inr (1, [.ref a1, .ref a3, .ref a6, .ref a8, .int rd, .int tu, .int la, .int (bI dl), .int sh, .int tb])), (a1, .inr (4, [.int ft.1, .ref a2, .int ft.2.2.2])), (a2, .inl (cI, ft.2.1, .inl ft.2.2.1)), (a3, .inr (0, [.ref a4, .int eb])), (a4, .inr (4, [.int er.1, .ref a5, .int er.2.2.2])), (a5, .inl (cI, er.2.1, .inl er.2.2.1)), (a6, .inr (4, [.int li.1, .ref a7, .int li.2.2.2])), (a7, .inl (cI, li.2.1, .inl li.2.2.1)), (a8, .inr (4, [.int st.1, .ref a9, .int st.2.2.2])), (a9, .inl (cI, st.2.1, .inl st.2.2.1))]) s.heap.size = A at hD ⊢
  have hA : ∀ q : Nat, s.heap.size ≤ q → A q := fun q h => by rw [← hAe]; exact Or.inr h
  have hS : va_S A s.heap s.heap [] := va_S.rf
  have hw0 := hts (.fieldLink RX1 27 "SpeedTurns$Game" "list" "LSpeedTurns$Table;") (List.mem_of_getElem? (i := 1) rfl)
  show W p l e ({ frames := 2, cells := 0, slots := 0, locals := 44 } : Room) s m _ below meth c s.heap [] 0 0 _ _
  refine W_genQ (fun Q hQ => ?_)
  have L2 : ∀  (k : Nat) (v1 : Int32) (H : Heap) (locs : List Loc) (ls : Array Slot), fX1_firstWaiting_L2 fu ft li k v1 = some out → va_P G vwCl ([(a0, .inr (1, [.ref a1, .ref a3, .ref a6, .ref a8, .int rd, .int tu, .int la, .int (bI dl), .int sh, .int tb])), (a1, .inr (4, [.int ft.1, .ref a2, .int ft.2.2.2])), (a2, .inl (cI, ft.2.1, .inl ft.2.2.1)), (a3, .inr (0, [.ref a4, .int eb])), (a4, .inr (4, [.int er.1, .ref a5, .int er.2.2.2])), (a5, .inl (cI, er.2.1, .inl er.2.2.1)), (a6, .inr (4, [.int li.1, .ref a7, .int li.2.2.2])), (a7, .inl (cI, li.2.1, .inl li.2.2.1)), (a8, .inr (4, [.int st.1, .ref a9, .int st.2.2.2])), (a9, .inl (cI, st.2.1, .inl st.2.2.1))]) H → va_D A ([(a0, .inr (1, [.ref a1, .ref a3, .ref a6, .ref a8, .int rd, .int tu, .int la, .int (bI dl), .int sh, .int tb])), (a1, .inr (4, [.int ft.1, .ref a2, .int ft.2.2.2])), (a2, .inl (cI, ft.2.1, .inl ft.2.2.1)), (a3, .inr (0, [.ref a4, .int eb])), (a4, .inr (4, [.int er.1, .ref a5, .int er.2.2.2])), (a5, .inl (cI, er.2.1, .inl er.2.2.1)), (a6, .inr (4, [.int li.1, .ref a7, .int li.2.2.2])), (a7, .inl (cI, li.2.1, .inl li.2.2.1)), (a8, .inr (4, [.int st.1, .ref a9, .int st.2.2.2])), (a9, .inl (cI, st.2.1, .inl st.2.2.1))]) → va_S A s.heap H locs → lv_has ls 3 [(0, .ref a0), (1, .int v1)] → W p l e ({ frames := 2, cells := 0, slots := 0, locals := 44 } : Room) s m ([.ref a0] : List Value).toArray below meth c H locs 0 0 Q (F0 m 2 ls []) := by
    intro  k
    induction k with
    | zero => intro v1 H locs ls h hP hD hS hl; rw [fX1_firstWaiting_L2] at h; exact o_n h
    | succ k ih =>
      intro v1 H locs ls h hP hD hS hl
      rw [fX1_firstWaiting_L2] at h
      refine lv_iload_n hx hb dX1_firstWaiting_2 rfl (lv_at hl 1 rfl) ?_
      refine lv_aload_n hx hb dX1_firstWaiting_3 rfl (lv_at hl 0 rfl) ?_
      refine va_get (D := G) (ci := 1) (v := .ref a6) (C := RX1) (T := TX1) (N := 10) hx hb hts huX1_firstWaiting_X1 hown hK.1 hP 0 rfl rfl 2 (by decide) hw0 (fun _ h9 => h9) rfl dX1_firstWaiting_4 ?_
      obtain ⟨x1, ex1, h⟩ := o_b h
      refine call_iV (As := []) (rest := [.int v1]) (ws2 := [(a0, .inr (1, [.ref a1, .ref a3, .ref a6, .ref a8, .int rd, .int tu, .int la, .int (bI dl), .int sh, .int tb])), (a1, .inr (4, [.int ft.1, .ref a2, .int ft.2.2.2])), (a2, .inl (cI, ft.2.1, .inl ft.2.2.1)), (a3, .inr (0, [.ref a4, .int eb])), (a4, .inr (4, [.int er.1, .ref a5, .int er.2.2.2])), (a5, .inl (cI, er.2.1, .inl er.2.2.1)), (a6, .inr (4, [.int li.1, .ref a7, .int li.2.2.2])), (a7, .inl (cI, li.2.1, .inl li.2.2.1)), (a8, .inr (4, [.int st.1, .ref a9, .int st.2.2.2])), (a9, .inl (cI, st.2.1, .inl st.2.2.1))]) ⟨hx, hb, hml, hown, hts⟩ (cX4_count_ok l G cI cG a6 a7 li x1 ex1) (cwV 0 hts gX1_firstWaiting_X4_count_60 rfl rfl rfl hdX4_count ⟨Nat.le_of_ble_eq_true rfl, Nat.le_of_ble_eq_true rfl⟩) hP hD hS hA hK 4 rfl rfl rfl [6, 7] rfl rfl rfl rfl rfl rfl rfl rfl hl.1 (Nat.le_of_ble_eq_true rfl) dX1_firstWaiting_7 ⟨Nat.zero_le _, Nat.zero_le _⟩ (fun H locs hP hD hS => ?_)
      refine lv_icmp_ge (tgt := 51) hx hb dX1_firstWaiting_10 (by decide) (fun hc => ?_) (fun hc => ?_)
      · have h := o_t h hc
        refine lv_iconst (v := (-1)) hx hb dX1_firstWaiting_51 (by decide) ?_
        obtain rfl := o_s h
        rw [hQ]
        exact end_i hx hb hr rfl hP hD hS dX1_firstWaiting_52 hlocks
      · have h := o_f h hc
        refine lv_aload_n hx hb dX1_firstWaiting_13 rfl (lv_at hl 0 rfl) ?_
        refine va_get (D := G) (ci := 1) (v := .ref a6) (C := RX1) (T := TX1) (N := 10) hx hb hts huX1_firstWaiting_X1 hown hK.1 hP 0 rfl rfl 2 (by decide) hw0 (fun _ h9 => h9) rfl dX1_firstWaiting_14 ?_
        refine lv_iload_n hx hb dX1_firstWaiting_17 rfl (lv_at hl 1 rfl) ?_
        refine lv_iconst (v := 0) hx hb dX1_firstWaiting_18 (by decide) ?_
        obtain ⟨x2, ex2, h⟩ := o_b h
        refine call_iV (As := [.int v1, .int (0 : Int32)]) (rest := []) (ws2 := [(a0, .inr (1, [.ref a1, .ref a3, .ref a6, .ref a8, .int rd, .int tu, .int la, .int (bI dl), .int sh, .int tb])), (a1, .inr (4, [.int ft.1, .ref a2, .int ft.2.2.2])), (a2, .inl (cI, ft.2.1, .inl ft.2.2.1)), (a3, .inr (0, [.ref a4, .int eb])), (a4, .inr (4, [.int er.1, .ref a5, .int er.2.2.2])), (a5, .inl (cI, er.2.1, .inl er.2.2.1)), (a6, .inr (4, [.int li.1, .ref a7, .int li.2.2.2])), (a7, .inl (cI, li.2.1, .inl li.2.2.1)), (a8, .inr (4, [.int st.1, .ref a9, .int st.2.2.2])), (a9, .inl (cI, st.2.1, .inl st.2.2.1))]) ⟨hx, hb, hml, hown, hts⟩ (cX4_at_ok l G cI cG a6 a7 li v1 (0 : Int32) x2 ex2) (cwV 2 hts gX1_firstWaiting_X4_at_64 rfl rfl rfl hdX4_at ⟨Nat.le_of_ble_eq_true rfl, Nat.le_of_ble_eq_true rfl⟩) hP hD hS hA hK 4 rfl rfl rfl [6, 7] rfl rfl rfl rfl rfl rfl rfl rfl hl.1 (Nat.le_of_ble_eq_true rfl) dX1_firstWaiting_19 ⟨Nat.zero_le _, Nat.zero_le _⟩ (fun H locs hP hD hS => ?_)
        refine lv_istore_n (lv' := [(2, .int x2), (0, .ref a0), (1, .int v1)]) hx hb dX1_firstWaiting_22 rfl hl (by decide) rfl (fun ls hl => ?_)
        refine lv_aload_n hx hb dX1_firstWaiting_23 rfl (lv_at hl 1 rfl) ?_
        refine va_get (D := G) (ci := 1) (v := .ref a6) (C := RX1) (T := TX1) (N := 10) hx hb hts huX1_firstWaiting_X1 hown hK.1 hP 0 rfl rfl 2 (by decide) hw0 (fun _ h9 => h9) rfl dX1_firstWaiting_24 ?_
        refine lv_iload_n hx hb dX1_firstWaiting_27 rfl (lv_at hl 2 rfl) ?_
        refine lv_iconst (v := 1) hx hb dX1_firstWaiting_28 (by decide) ?_
        obtain ⟨x3, ex3, h⟩ := o_b h
        refine call_iV (As := [.int v1, .int (1 : Int32)]) (rest := []) (ws2 := [(a0, .inr (1, [.ref a1, .ref a3, .ref a6, .ref a8, .int rd, .int tu, .int la, .int (bI dl), .int sh, .int tb])), (a1, .inr (4, [.int ft.1, .ref a2, .int ft.2.2.2])), (a2, .inl (cI, ft.2.1, .inl ft.2.2.1)), (a3, .inr (0, [.ref a4, .int eb])), (a4, .inr (4, [.int er.1, .ref a5, .int er.2.2.2])), (a5, .inl (cI, er.2.1, .inl er.2.2.1)), (a6, .inr (4, [.int li.1, .ref a7, .int li.2.2.2])), (a7, .inl (cI, li.2.1, .inl li.2.2.1)), (a8, .inr (4, [.int st.1, .ref a9, .int st.2.2.2])), (a9, .inl (cI, st.2.1, .inl st.2.2.1))]) ⟨hx, hb, hml, hown, hts⟩ (cX4_at_ok l G cI cG a6 a7 li v1 (1 : Int32) x3 ex3) (cwV 2 hts gX1_firstWaiting_X4_at_64 rfl rfl rfl hdX4_at ⟨Nat.le_of_ble_eq_true rfl, Nat.le_of_ble_eq_true rfl⟩) hP hD hS hA hK 4 rfl rfl rfl [6, 7] rfl rfl rfl rfl rfl rfl rfl rfl hl.1 (Nat.le_of_ble_eq_true rfl) dX1_firstWaiting_29 ⟨Nat.zero_le _, Nat.zero_le _⟩ (fun H locs hP hD hS => ?_)
        refine lv_if_ne (tgt := 45) hx hb dX1_firstWaiting_32 (by decide) (fun hc => ?_) (fun hc => ?_)
        · have h := o_f h hc
          refine lv_iinc (v := (v1 + 1)) (lv' := [(1, .int (v1 + 1)), (2, .int x2), (0, .ref a0)]) hx hb dX1_firstWaiting_45 hl (k := 2) rfl rfl (by decide) rfl (fun ls hl => ?_)
          refine lv_goto (tgt := 2) hx hb dX1_firstWaiting_48 (by decide) ?_
          exact ih (v1 + 1) _ _ _ h hP hD hS (lv_sub hl [2, 0] rfl)
        · have h := o_t h hc
          refine lv_aload_n hx hb dX1_firstWaiting_35 rfl (lv_at hl 1 rfl) ?_
          refine lv_iload_n hx hb dX1_firstWaiting_36 rfl (lv_at hl 0 rfl) ?_
          obtain ⟨x4, ex4, h⟩ := o_b h
          refine call_iV (As := [.int x2]) (rest := []) (ws2 := [(a0, .inr (1, [.ref a1, .ref a3, .ref a6, .ref a8, .int rd, .int tu, .int la, .int (bI dl), .int sh, .int tb])), (a1, .inr (4, [.int ft.1, .ref a2, .int ft.2.2.2])), (a2, .inl (cI, ft.2.1, .inl ft.2.2.1)), (a3, .inr (0, [.ref a4, .int eb])), (a4, .inr (4, [.int er.1, .ref a5, .int er.2.2.2])), (a5, .inl (cI, er.2.1, .inl er.2.2.1)), (a6, .inr (4, [.int li.1, .ref a7, .int li.2.2.2])), (a7, .inl (cI, li.2.1, .inl li.2.2.1)), (a8, .inr (4, [.int st.1, .ref a9, .int st.2.2.2])), (a9, .inl (cI, st.2.1, .inl st.2.2.1))]) ⟨hx, hb, hml, hown, hts⟩ (cX1_stands_ok l G cI cG a0 a1 a2 a3 a4 a5 a6 a7 a8 a9 ft er eb li st rd tu la dl sh tb x2 x4 ex4) (cwV 1 hts gX1_firstWaiting_X1_stands_104 rfl rfl rfl hdX1_stands ⟨Nat.le_of_ble_eq_true rfl, Nat.le_of_ble_eq_true rfl⟩) hP hD hS hA hK 1 rfl rfl rfl [0, 1, 2, 3, 4, 5, 6, 7, 8, 9] rfl rfl rfl rfl rfl rfl rfl rfl hl.1 (Nat.le_of_ble_eq_true rfl) dX1_firstWaiting_37 ⟨Nat.zero_le _, Nat.zero_le _⟩ (fun H locs hP hD hS => ?_)
          refine lv_if_eq (tgt := 45) hx hb dX1_firstWaiting_40 (by decide) (fun hc => ?_) (fun hc => ?_)
          · have h := o_t h hc
            refine lv_iinc (v := (v1 + 1)) (lv' := [(1, .int (v1 + 1)), (2, .int x2), (0, .ref a0)]) hx hb dX1_firstWaiting_45 hl (k := 2) rfl rfl (by decide) rfl (fun ls hl => ?_)
            refine lv_goto (tgt := 2) hx hb dX1_firstWaiting_48 (by decide) ?_
            exact ih (v1 + 1) _ _ _ h hP hD hS (lv_sub hl [2, 0] rfl)
          · have h := o_f h hc
            refine lv_iload_n hx hb dX1_firstWaiting_43 rfl (lv_at hl 0 rfl) ?_
            obtain rfl := o_s h
            rw [hQ]
            exact end_i hx hb hr rfl hP hD hS dX1_firstWaiting_44 hlocks
  have h := hf
  rw [fX1_firstWaiting] at h
  have hl := lv_entry ([.ref a0]) (n := 3) (Nat.le_of_ble_eq_true rfl)
  rw [lg_entry_eq]
  generalize (lg_sl ([.ref a0]) ++ List.replicate (3 - (lg_sl ([.ref a0])).length) Slot.unset).toArray = ls at hl ⊢
  have hl : lv_has ls 3 [(0, .ref a0)] := hl
  refine lv_iconst (v := 0) hx hb dX1_firstWaiting_0 (by decide) ?_
  refine lv_istore_n (lv' := [(1, .int (0 : Int32)), (0, .ref a0)]) hx hb dX1_firstWaiting_1 rfl hl (by decide) rfl (fun ls hl => ?_)
  exact L2 fu (0 : Int32) _ _ _ h hP hD hS (lv_sub hl [1, 0] rfl)
theorem hdX1_enlist : yX1_enlist.cls = RX1 ∧ yX1_enlist.cls ≠ "java/lang/invoke/MethodHandle" ∧ yX1_enlist.cls ≠ "java/lang/invoke/VarHandle" ∧ (parseMethodDescriptor yX1_enlist.desc).map (fun d => d.parameters.length) = some 1 := by decide +kernel
set_option maxHeartbeats 4000000 in
set_option maxRecDepth 100000 in
theorem cX1_enlist_ok (l : Launch) (G : va_G) (cI cG : ClassId) (a0 a1 a2 a3 a4 a5 a6 a7 a8 a9 : Nat) (fu : Nat) (ft : Tab) (er : Tab) (eb : Int32) (li : Tab) (st : Tab) (rd : Int32) (tu : Int32) (la : Int32) (dl : Bool) (sh : Int32) (tb : Int32) (p1 : Int32) (out : Tab) (hf : fX1_enlist fu ft er li p1 = some out) : CV l G (tyz cI cG) yX1_enlist wsX1_enlist ({ frames := 3, cells := 0, slots := 0, locals := 83 } : Room) [.ref a0, .int p1] [(a0, .inr (1, [.ref a1, .ref a3, .ref a6, .ref a8, .int rd, .int tu, .int la, .int (bI dl), .int sh, .int tb])), (a1, .inr (4, [.int ft.1, .ref a2, .int ft.2.2.2])), (a2, .inl (cI, ft.2.1, .inl ft.2.2.1)), (a3, .inr (0, [.ref a4, .int eb])), (a4, .inr (4, [.int er.1, .ref a5, .int er.2.2.2])), (a5, .inl (cI, er.2.1, .inl er.2.2.1)), (a6, .inr (4, [.int li.1, .ref a7, .int li.2.2.2])), (a7, .inl (cI, li.2.1, .inl li.2.2.1)), (a8, .inr (4, [.int st.1, .ref a9, .int st.2.2.2])), (a9, .inl (cI, st.2.1, .inl st.2.2.1))] [(a0, .inr (1, [.ref a1, .ref a3, .ref a6, .ref a8, .int rd, .int tu, .int la, .int (bI dl), .int sh, .int tb])), (a1, .inr (4, [.int ft.1, .ref a2, .int ft.2.2.2])), (a2, .inl (cI, ft.2.1, .inl ft.2.2.1)), (a3, .inr (0, [.ref a4, .int eb])), (a4, .inr (4, [.int er.1, .ref a5, .int er.2.2.2])), (a5, .inl (cI, er.2.1, .inl er.2.2.1)), (a6, .inr (4, [.int out.1, .ref a7, .int out.2.2.2])), (a7, .inl (cI, out.2.1, .inl out.2.2.1)), (a8, .inr (4, [.int st.1, .ref a9, .int st.2.2.2])), (a9, .inl (cI, st.2.1, .inl st.2.2.1))] := by
  intro sz
  refine Met.ofW (cc := cX1_enlist) (maxL := 5) (ret := none) (by decide) rfl ?_
  intro p e s m args below meth c s₁ B hml hv
  obtain ⟨rfl, hsz, hP, hK, hD0⟩ := hv
  have hx := B.exec
  have hb := B.bytes
  have hr := B.returns
  have hts := atoms_spec (ws := wsX1_enlist) B.pre
  have hown : s.vm.findClass RX1 = some m.cls := findClass_of_methodNamed B.named
  have hlocks := B.notSynchronized
  subst hsz
  have hD := hD0.self (sz := s.heap.size)
  generalize hAe : va_A ([(a0, .inr (1, [.ref a1, .ref a3, .ref a6, .ref a8, .int rd, .int tu, .int la, .int (bI dl), .int sh, .int tb])), (a1, .inr (4, [.int ft.1, .ref a2, .int ft.2.2.2])), (a2, .inl (cI, ft.2.1, .inl ft.2.2.1)), (a3, .inr (0, [.ref a4, .int eb])), (a4, .inr (4, [.int er.1, .ref a5, .int er.2.2.2])), (a5, .inl (cI, er.2.1, .inl er.2.2.1)), (a6, .inr (4, [.int li.1, .ref a7, .int li.2.2.2])), (a7, .inl (cI, li.2.1, .inl li.2.2.1)), (a8, .inr (4, [.int st.1, .ref a9, .int st.2.2.2])), (a9, .inl (cI, st.2.1, .inl st.2.2.1))]) s.heap.size = A at hD ⊢
  have hA : ∀ q : Nat, s.heap.size ≤ q → A q := fun q h => by rw [← hAe]; exact Or.inr h
  have hS : va_S A s.heap s.heap [] := va_S.rf
  have hw0 := hts (.fieldLink RX1 27 "SpeedTurns$Game" "list" "LSpeedTurns$Table;") (List.mem_of_getElem? (i := 5) rfl)
  show W p l e ({ frames := 3, cells := 0, slots := 0, locals := 83 } : Room) s m _ below meth c s.heap [] 0 0 _ _
  refine W_genQ (fun Q hQ => ?_)
  have J57 : ∀ (v3 : Int32) (H : Heap) (locs : List Loc) (ls : Array Slot), fX1_enlist_J57 fu ft er li p1 v3 = some out → va_P G vwCl ([(a0, .inr (1, [.ref a1, .ref a3, .ref a6, .ref a8, .int rd, .int tu, .int la, .int (bI dl), .int sh, .int tb])), (a1, .inr (4, [.int ft.1, .ref a2, .int ft.2.2.2])), (a2, .inl (cI, ft.2.1, .inl ft.2.2.1)), (a3, .inr (0, [.ref a4, .int eb])), (a4, .inr (4, [.int er.1, .ref a5, .int er.2.2.2])), (a5, .inl (cI, er.2.1, .inl er.2.2.1)), (a6, .inr (4, [.int li.1, .ref a7, .int li.2.2.2])), (a7, .inl (cI, li.2.1, .inl li.2.2.1)), (a8, .inr (4, [.int st.1, .ref a9, .int st.2.2.2])), (a9, .inl (cI, st.2.1, .inl st.2.2.1))]) H → va_D A ([(a0, .inr (1, [.ref a1, .ref a3, .ref a6, .ref a8, .int rd, .int tu, .int la, .int (bI dl), .int sh, .int tb])), (a1, .inr (4, [.int ft.1, .ref a2, .int ft.2.2.2])), (a2, .inl (cI, ft.2.1, .inl ft.2.2.1)), (a3, .inr (0, [.ref a4, .int eb])), (a4, .inr (4, [.int er.1, .ref a5, .int er.2.2.2])), (a5, .inl (cI, er.2.1, .inl er.2.2.1)), (a6, .inr (4, [.int li.1, .ref a7, .int li.2.2.2])), (a7, .inl (cI, li.2.1, .inl li.2.2.1)), (a8, .inr (4, [.int st.1, .ref a9, .int st.2.2.2])), (a9, .inl (cI, st.2.1, .inl st.2.2.1))]) → va_S A s.heap H locs → lv_has ls 5 [(0, .ref a0), (1, .int p1), (3, .int v3)] → W p l e ({ frames := 3, cells := 0, slots := 0, locals := 83 } : Room) s m ([.ref a0, .int p1] : List Value).toArray below meth c H locs 0 0 Q (F0 m 57 ls []) := by
    intro v3 H locs ls h hP hD hS hl
    rw [fX1_enlist_J57] at h
    refine lv_aload_n hx hb dX1_enlist_57 rfl (lv_at hl 0 rfl) ?_
    refine va_get (D := G) (ci := 1) (v := .ref a6) (C := RX1) (T := TX1) (N := 10) hx hb hts huX1_enlist_X1 hown hK.1 hP 0 rfl rfl 2 (by decide) hw0 (fun _ h9 => h9) rfl dX1_enlist_58 ?_
    refine lv_iload_n hx hb dX1_enlist_61 rfl (lv_at hl 2 rfl) ?_
    obtain ⟨x4, ex4, h⟩ := o_b h
    refine call_vV (As := [.int v3]) (rest := []) (ws2 := [(a0, .inr (1, [.ref a1, .ref a3, .ref a6, .ref a8, .int rd, .int tu, .int la, .int (bI dl), .int sh, .int tb])), (a1, .inr (4, [.int ft.1, .ref a2, .int ft.2.2.2])), (a2, .inl (cI, ft.2.1, .inl ft.2.2.1)), (a3, .inr (0, [.ref a4, .int eb])), (a4, .inr (4, [.int er.1, .ref a5, .int er.2.2.2])), (a5, .inl (cI, er.2.1, .inl er.2.2.1)), (a6, .inr (4, [.int x4.1, .ref a7, .int x4.2.2.2])), (a7, .inl (cI, x4.2.1, .inl x4.2.2.1)), (a8, .inr (4, [.int st.1, .ref a9, .int st.2.2.2])), (a9, .inl (cI, st.2.1, .inl st.2.2.1))]) ⟨hx, hb, hml, hown, hts⟩ (cX4_insert_ok l G cI cG a6 a7 fu li v3 x4 ex4) (cwV 1 hts gX1_enlist_X4_insert_115 rfl rfl rfl hdX4_insert ⟨Nat.le_of_ble_eq_true rfl, Nat.le_of_ble_eq_true rfl⟩) hP hD hS hA hK 4 rfl rfl rfl [6, 7] rfl rfl rfl rfl rfl rfl rfl rfl hl.1 (Nat.le_of_ble_eq_true rfl) dX1_enlist_62 ⟨Nat.zero_le _, Nat.zero_le _⟩ (fun H locs hP hD hS => ?_)
    refine lv_aload_n hx hb dX1_enlist_65 rfl (lv_at hl 0 rfl) ?_
    refine va_get (D := G) (ci := 1) (v := .ref a6) (C := RX1) (T := TX1) (N := 10) hx hb hts huX1_enlist_X1 hown hK.1 hP 0 rfl rfl 2 (by decide) hw0 (fun _ h9 => h9) rfl dX1_enlist_66 ?_
    refine lv_iload_n hx hb dX1_enlist_69 rfl (lv_at hl 2 rfl) ?_
    refine lv_iconst (v := 0) hx hb dX1_enlist_70 (by decide) ?_
    refine lv_iload_n hx hb dX1_enlist_71 rfl (lv_at hl 1 rfl) ?_
    obtain ⟨x5, ex5, h⟩ := o_b h
    refine call_vV (As := [.int v3, .int (0 : Int32), .int p1]) (rest := []) (ws2 := [(a0, .inr (1, [.ref a1, .ref a3, .ref a6, .ref a8, .int rd, .int tu, .int la, .int (bI dl), .int sh, .int tb])), (a1, .inr (4, [.int ft.1, .ref a2, .int ft.2.2.2])), (a2, .inl (cI, ft.2.1, .inl ft.2.2.1)), (a3, .inr (0, [.ref a4, .int eb])), (a4, .inr (4, [.int er.1, .ref a5, .int er.2.2.2])), (a5, .inl (cI, er.2.1, .inl er.2.2.1)), (a6, .inr (4, [.int x5.1, .ref a7, .int x5.2.2.2])), (a7, .inl (cI, x5.2.1, .inl x5.2.2.1)), (a8, .inr (4, [.int st.1, .ref a9, .int st.2.2.2])), (a9, .inl (cI, st.2.1, .inl st.2.2.1))]) ⟨hx, hb, hml, hown, hts⟩ (cX4_put_ok l G cI cG a6 a7 x4 v3 (0 : Int32) p1 x5 ex5) (cwV 3 hts gX1_enlist_X4_put_119 rfl rfl rfl hdX4_put ⟨Nat.le_of_ble_eq_true rfl, Nat.le_of_ble_eq_true rfl⟩) hP hD hS hA hK 4 rfl rfl rfl [6, 7] rfl rfl rfl rfl rfl rfl rfl rfl hl.1 (Nat.le_of_ble_eq_true rfl) dX1_enlist_72 ⟨Nat.zero_le _, Nat.zero_le _⟩ (fun H locs hP hD hS => ?_)
    refine lv_aload_n hx hb dX1_enlist_75 rfl (lv_at hl 0 rfl) ?_
    refine va_get (D := G) (ci := 1) (v := .ref a6) (C := RX1) (T := TX1) (N := 10) hx hb hts huX1_enlist_X1 hown hK.1 hP 0 rfl rfl 2 (by decide) hw0 (fun _ h9 => h9) rfl dX1_enlist_76 ?_
    refine lv_iload_n hx hb dX1_enlist_79 rfl (lv_at hl 2 rfl) ?_
    refine lv_iconst (v := 1) hx hb dX1_enlist_80 (by decide) ?_
    refine lv_iconst (v := 0) hx hb dX1_enlist_81 (by decide) ?_
    obtain ⟨x6, ex6, h⟩ := o_b h
    refine call_vV (As := [.int v3, .int (1 : Int32), .int (0 : Int32)]) (rest := []) (ws2 := [(a0, .inr (1, [.ref a1, .ref a3, .ref a6, .ref a8, .int rd, .int tu, .int la, .int (bI dl), .int sh, .int tb])), (a1, .inr (4, [.int ft.1, .ref a2, .int ft.2.2.2])), (a2, .inl (cI, ft.2.1, .inl ft.2.2.1)), (a3, .inr (0, [.ref a4, .int eb])), (a4, .inr (4, [.int er.1, .ref a5, .int er.2.2.2])), (a5, .inl (cI, er.2.1, .inl er.2.2.1)), (a6, .inr (4, [.int x6.1, .ref a7, .int x6.2.2.2])), (a7, .inl (cI, x6.2.1, .inl x6.2.2.1)), (a8, .inr (4, [.int st.1, .ref a9, .int st.2.2.2])), (a9, .inl (cI, st.2.1, .inl st.2.2.1))]) ⟨hx, hb, hml, hown, hts⟩ (cX4_put_ok l G cI cG a6 a7 x5 v3 (1 : Int32) (0 : Int32) x6 ex6) (cwV 3 hts gX1_enlist_X4_put_119 rfl rfl rfl hdX4_put ⟨Nat.le_of_ble_eq_true rfl, Nat.le_of_ble_eq_true rfl⟩) hP hD hS hA hK 4 rfl rfl rfl [6, 7] rfl rfl rfl rfl rfl rfl rfl rfl hl.1 (Nat.le_of_ble_eq_true rfl) dX1_enlist_82 ⟨Nat.zero_le _, Nat.zero_le _⟩ (fun H locs hP hD hS => ?_)
    obtain rfl := o_s h
    rw [hQ]
    exact end_v hx hb hr hP hD hS dX1_enlist_85 hlocks
  have L25 : ∀ (v2 : Int32) (k : Nat) (v3 : Int32) (v4 : Int32) (H : Heap) (locs : List Loc) (ls : Array Slot), fX1_enlist_L25 fu ft er li p1 v2 k v3 v4 = some out → va_P G vwCl ([(a0, .inr (1, [.ref a1, .ref a3, .ref a6, .ref a8, .int rd, .int tu, .int la, .int (bI dl), .int sh, .int tb])), (a1, .inr (4, [.int ft.1, .ref a2, .int ft.2.2.2])), (a2, .inl (cI, ft.2.1, .inl ft.2.2.1)), (a3, .inr (0, [.ref a4, .int eb])), (a4, .inr (4, [.int er.1, .ref a5, .int er.2.2.2])), (a5, .inl (cI, er.2.1, .inl er.2.2.1)), (a6, .inr (4, [.int li.1, .ref a7, .int li.2.2.2])), (a7, .inl (cI, li.2.1, .inl li.2.2.1)), (a8, .inr (4, [.int st.1, .ref a9, .int st.2.2.2])), (a9, .inl (cI, st.2.1, .inl st.2.2.1))]) H → va_D A ([(a0, .inr (1, [.ref a1, .ref a3, .ref a6, .ref a8, .int rd, .int tu, .int la, .int (bI dl), .int sh, .int tb])), (a1, .inr (4, [.int ft.1, .ref a2, .int ft.2.2.2])), (a2, .inl (cI, ft.2.1, .inl ft.2.2.1)), (a3, .inr (0, [.ref a4, .int eb])), (a4, .inr (4, [.int er.1, .ref a5, .int er.2.2.2])), (a5, .inl (cI, er.2.1, .inl er.2.2.1)), (a6, .inr (4, [.int li.1, .ref a7, .int li.2.2.2])), (a7, .inl (cI, li.2.1, .inl li.2.2.1)), (a8, .inr (4, [.int st.1, .ref a9, .int st.2.2.2])), (a9, .inl (cI, st.2.1, .inl st.2.2.1))]) → va_S A s.heap H locs → lv_has ls 5 [(0, .ref a0), (1, .int p1), (2, .int v2), (3, .int v3), (4, .int v4)] → W p l e ({ frames := 3, cells := 0, slots := 0, locals := 83 } : Room) s m ([.ref a0, .int p1] : List Value).toArray below meth c H locs 0 0 Q (F0 m 25 ls []) := by
    intro v2 k
    induction k with
    | zero => intro v3 v4 H locs ls h hP hD hS hl; rw [fX1_enlist_L25] at h; exact o_n h
    | succ k ih =>
      intro v3 v4 H locs ls h hP hD hS hl
      rw [fX1_enlist_L25] at h
      refine lv_iload hx hb dX1_enlist_25 (lv_at hl 4 rfl) ?_
      refine lv_if_lt (tgt := 57) hx hb dX1_enlist_27 (by decide) (fun hc => ?_) (fun hc => ?_)
      · have h := o_t h hc
        exact J57 v3 _ _ _ h hP hD hS (lv_sub hl [0, 1, 3] rfl)
      · have h := o_f h hc
        refine lv_aload_n hx hb dX1_enlist_30 rfl (lv_at hl 0 rfl) ?_
        refine lv_aload_n hx hb dX1_enlist_31 rfl (lv_at hl 0 rfl) ?_
        refine va_get (D := G) (ci := 1) (v := .ref a6) (C := RX1) (T := TX1) (N := 10) hx hb hts huX1_enlist_X1 hown hK.1 hP 0 rfl rfl 2 (by decide) hw0 (fun _ h9 => h9) rfl dX1_enlist_32 ?_
        refine lv_iload hx hb dX1_enlist_35 (lv_at hl 4 rfl) ?_
        refine lv_iconst (v := 0) hx hb dX1_enlist_37 (by decide) ?_
        obtain ⟨x7, ex7, h⟩ := o_b h
        refine call_iV (As := [.int v4, .int (0 : Int32)]) (rest := [.ref a0]) (ws2 := [(a0, .inr (1, [.ref a1, .ref a3, .ref a6, .ref a8, .int rd, .int tu, .int la, .int (bI dl), .int sh, .int tb])), (a1, .inr (4, [.int ft.1, .ref a2, .int ft.2.2.2])), (a2, .inl (cI, ft.2.1, .inl ft.2.2.1)), (a3, .inr (0, [.ref a4, .int eb])), (a4, .inr (4, [.int er.1, .ref a5, .int er.2.2.2])), (a5, .inl (cI, er.2.1, .inl er.2.2.1)), (a6, .inr (4, [.int li.1, .ref a7, .int li.2.2.2])), (a7, .inl (cI, li.2.1, .inl li.2.2.1)), (a8, .inr (4, [.int st.1, .ref a9, .int st.2.2.2])), (a9, .inl (cI, st.2.1, .inl st.2.2.1))]) ⟨hx, hb, hml, hown, hts⟩ (cX4_at_ok l G cI cG a6 a7 li v4 (0 : Int32) x7 ex7) (cwV 2 hts gX1_enlist_X4_at_64 rfl rfl rfl hdX4_at ⟨Nat.le_of_ble_eq_true rfl, Nat.le_of_ble_eq_true rfl⟩) hP hD hS hA hK 4 rfl rfl rfl [6, 7] rfl rfl rfl rfl rfl rfl rfl rfl hl.1 (Nat.le_of_ble_eq_true rfl) dX1_enlist_38 ⟨Nat.zero_le _, Nat.zero_le _⟩ (fun H locs hP hD hS => ?_)
        obtain ⟨x8, ex8, h⟩ := o_b h
        refine call_iV (As := [.int x7]) (rest := []) (ws2 := [(a0, .inr (1, [.ref a1, .ref a3, .ref a6, .ref a8, .int rd, .int tu, .int la, .int (bI dl), .int sh, .int tb])), (a1, .inr (4, [.int ft.1, .ref a2, .int ft.2.2.2])), (a2, .inl (cI, ft.2.1, .inl ft.2.2.1)), (a3, .inr (0, [.ref a4, .int eb])), (a4, .inr (4, [.int er.1, .ref a5, .int er.2.2.2])), (a5, .inl (cI, er.2.1, .inl er.2.2.1)), (a6, .inr (4, [.int li.1, .ref a7, .int li.2.2.2])), (a7, .inl (cI, li.2.1, .inl li.2.2.1)), (a8, .inr (4, [.int st.1, .ref a9, .int st.2.2.2])), (a9, .inl (cI, st.2.1, .inl st.2.2.1))]) ⟨hx, hb, hml, hown, hts⟩ (cX1_presentSpeed_ok l G cI cG a0 a1 a2 a3 a4 a5 a6 a7 a8 a9 fu ft er eb li st rd tu la dl sh tb x7 x8 ex8) (cwV 1 hts gX1_enlist_X1_presentSpeed_68 rfl rfl rfl hdX1_presentSpeed ⟨Nat.le_of_ble_eq_true rfl, Nat.le_of_ble_eq_true rfl⟩) hP hD hS hA hK 1 rfl rfl rfl [0, 1, 2, 3, 4, 5, 6, 7, 8, 9] rfl rfl rfl rfl rfl rfl rfl rfl hl.1 (Nat.le_of_ble_eq_true rfl) dX1_enlist_41 ⟨Nat.zero_le _, Nat.zero_le _⟩ (fun H locs hP hD hS => ?_)
        refine lv_iload_n hx hb dX1_enlist_44 rfl (lv_at hl 2 rfl) ?_
        refine lv_icmp_ge (tgt := 57) hx hb dX1_enlist_45 (by decide) (fun hc => ?_) (fun hc => ?_)
        · have h := o_t h hc
          exact J57 v3 _ _ _ h hP hD hS (lv_sub hl [0, 1, 3] rfl)
        · have h := o_f h hc
          refine lv_iload hx hb dX1_enlist_48 (lv_at hl 4 rfl) ?_
          refine lv_istore_n (lv' := [(3, .int v4), (0, .ref a0), (1, .int p1), (2, .int v2), (4, .int v4)]) hx hb dX1_enlist_50 rfl hl (by decide) rfl (fun ls hl => ?_)
          refine lv_iinc (v := (v4 + (-1))) (lv' := [(4, .int (v4 + (-1))), (3, .int v4), (0, .ref a0), (1, .int p1), (2, .int v2)]) hx hb dX1_enlist_51 hl (k := 4) rfl rfl (by decide) rfl (fun ls hl => ?_)
          refine lv_goto (tgt := 25) hx hb dX1_enlist_54 (by decide) ?_
          exact ih v4 (v4 + (-1)) _ _ _ h hP hD hS (lv_sub hl [2, 3, 4, 1, 0] rfl)
  have h := hf
  rw [fX1_enlist] at h
  have hl := lv_entry ([.ref a0, .int p1]) (n := 5) (Nat.le_of_ble_eq_true rfl)
  rw [lg_entry_eq]
  generalize (lg_sl ([.ref a0, .int p1]) ++ List.replicate (5 - (lg_sl ([.ref a0, .int p1])).length) Slot.unset).toArray = ls at hl ⊢
  have hl : lv_has ls 5 [(0, .ref a0), (1, .int p1)] := hl
  refine lv_aload_n hx hb dX1_enlist_0 rfl (lv_at hl 0 rfl) ?_
  refine lv_iload_n hx hb dX1_enlist_1 rfl (lv_at hl 1 rfl) ?_
  obtain ⟨x1, ex1, h⟩ := o_b h
  refine call_iV (As := [.int p1]) (rest := []) (ws2 := [(a0, .inr (1, [.ref a1, .ref a3, .ref a6, .ref a8, .int rd, .int tu, .int la, .int (bI dl), .int sh, .int tb])), (a1, .inr (4, [.int ft.1, .ref a2, .int ft.2.2.2])), (a2, .inl (cI, ft.2.1, .inl ft.2.2.1)), (a3, .inr (0, [.ref a4, .int eb])), (a4, .inr (4, [.int er.1, .ref a5, .int er.2.2.2])), (a5, .inl (cI, er.2.1, .inl er.2.2.1)), (a6, .inr (4, [.int li.1, .ref a7, .int li.2.2.2])), (a7, .inl (cI, li.2.1, .inl li.2.2.1)), (a8, .inr (4, [.int st.1, .ref a9, .int st.2.2.2])), (a9, .inl (cI, st.2.1, .inl st.2.2.1))]) ⟨hx, hb, hml, hown, hts⟩ (cX1_presentSpeed_ok l G cI cG a0 a1 a2 a3 a4 a5 a6 a7 a8 a9 fu ft er eb li st rd tu la dl sh tb p1 x1 ex1) (cwV 1 hts gX1_enlist_X1_presentSpeed_68 rfl rfl rfl hdX1_presentSpeed ⟨Nat.le_of_ble_eq_true rfl, Nat.le_of_ble_eq_true rfl⟩) hP hD hS hA hK 1 rfl rfl rfl [0, 1, 2, 3, 4, 5, 6, 7, 8, 9] rfl rfl rfl rfl rfl rfl rfl rfl hl.1 (Nat.le_of_ble_eq_true rfl) dX1_enlist_2 ⟨Nat.zero_le _, Nat.zero_le _⟩ (fun H locs hP hD hS => ?_)
  refine lv_istore_n (lv' := [(2, .int x1), (0, .ref a0), (1, .int p1)]) hx hb dX1_enlist_5 rfl hl (by decide) rfl (fun ls hl => ?_)
  refine lv_aload_n hx hb dX1_enlist_6 rfl (lv_at hl 1 rfl) ?_
  refine va_get (D := G) (ci := 1) (v := .ref a6) (C := RX1) (T := TX1) (N := 10) hx hb hts huX1_enlist_X1 hown hK.1 hP 0 rfl rfl 2 (by decide) hw0 (fun _ h9 => h9) rfl dX1_enlist_7 ?_
  obtain ⟨x2, ex2, h⟩ := o_b h
  refine call_iV (As := []) (rest := []) (ws2 := [(a0, .inr (1, [.ref a1, .ref a3, .ref a6, .ref a8, .int rd, .int tu, .int la, .int (bI dl), .int sh, .int tb])), (a1, .inr (4, [.int ft.1, .ref a2, .int ft.2.2.2])), (a2, .inl (cI, ft.2.1, .inl ft.2.2.1)), (a3, .inr (0, [.ref a4, .int eb])), (a4, .inr (4, [.int er.1, .ref a5, .int er.2.2.2])), (a5, .inl (cI, er.2.1, .inl er.2.2.1)), (a6, .inr (4, [.int li.1, .ref a7, .int li.2.2.2])), (a7, .inl (cI, li.2.1, .inl li.2.2.1)), (a8, .inr (4, [.int st.1, .ref a9, .int st.2.2.2])), (a9, .inl (cI, st.2.1, .inl st.2.2.1))]) ⟨hx, hb, hml, hown, hts⟩ (cX4_count_ok l G cI cG a6 a7 li x2 ex2) (cwV 0 hts gX1_enlist_X4_count_60 rfl rfl rfl hdX4_count ⟨Nat.le_of_ble_eq_true rfl, Nat.le_of_ble_eq_true rfl⟩) hP hD hS hA hK 4 rfl rfl rfl [6, 7] rfl rfl rfl rfl rfl rfl rfl rfl hl.1 (Nat.le_of_ble_eq_true rfl) dX1_enlist_10 ⟨Nat.zero_le _, Nat.zero_le _⟩ (fun H locs hP hD hS => ?_)
  refine lv_istore_n (lv' := [(3, .int x2), (2, .int x1), (0, .ref a0), (1, .int p1)]) hx hb dX1_enlist_13 rfl hl (by decide) rfl (fun ls hl => ?_)
  refine lv_aload_n hx hb dX1_enlist_14 rfl (lv_at hl 2 rfl) ?_
  refine va_get (D := G) (ci := 1) (v := .ref a6) (C := RX1) (T := TX1) (N := 10) hx hb hts huX1_enlist_X1 hown hK.1 hP 0 rfl rfl 2 (by decide) hw0 (fun _ h9 => h9) rfl dX1_enlist_15 ?_
  obtain ⟨x3, ex3, h⟩ := o_b h
  refine call_iV (As := []) (rest := []) (ws2 := [(a0, .inr (1, [.ref a1, .ref a3, .ref a6, .ref a8, .int rd, .int tu, .int la, .int (bI dl), .int sh, .int tb])), (a1, .inr (4, [.int ft.1, .ref a2, .int ft.2.2.2])), (a2, .inl (cI, ft.2.1, .inl ft.2.2.1)), (a3, .inr (0, [.ref a4, .int eb])), (a4, .inr (4, [.int er.1, .ref a5, .int er.2.2.2])), (a5, .inl (cI, er.2.1, .inl er.2.2.1)), (a6, .inr (4, [.int li.1, .ref a7, .int li.2.2.2])), (a7, .inl (cI, li.2.1, .inl li.2.2.1)), (a8, .inr (4, [.int st.1, .ref a9, .int st.2.2.2])), (a9, .inl (cI, st.2.1, .inl st.2.2.1))]) ⟨hx, hb, hml, hown, hts⟩ (cX4_count_ok l G cI cG a6 a7 li x3 ex3) (cwV 0 hts gX1_enlist_X4_count_60 rfl rfl rfl hdX4_count ⟨Nat.le_of_ble_eq_true rfl, Nat.le_of_ble_eq_true rfl⟩) hP hD hS hA hK 4 rfl rfl rfl [6, 7] rfl rfl rfl rfl rfl rfl rfl rfl hl.1 (Nat.le_of_ble_eq_true rfl) dX1_enlist_18 ⟨Nat.zero_le _, Nat.zero_le _⟩ (fun H locs hP hD hS => ?_)
  refine lv_iconst (v := 1) hx hb dX1_enlist_21 (by decide) ?_
  refine lv_isub hx hb dX1_enlist_22 ?_
  refine lv_istore (lv' := [(4, .int (x3 - (1 : Int32))), (3, .int x2), (2, .int x1), (0, .ref a0), (1, .int p1)]) hx hb dX1_enlist_23 hl (by decide) rfl (fun ls hl => ?_)
  exact L25 x1 fu x2 (x3 - (1 : Int32)) _ _ _ h hP hD hS (lv_sub hl [3, 4, 2, 1, 0] rfl)
theorem hdX1_beginRound : yX1_beginRound.cls = RX1 ∧ yX1_beginRound.cls ≠ "java/lang/invoke/MethodHandle" ∧ yX1_beginRound.cls ≠ "java/lang/invoke/VarHandle" ∧ (parseMethodDescriptor yX1_beginRound.desc).map (fun d => d.parameters.length) = some 0 := by decide +kernel
set_option maxHeartbeats 4000000 in
set_option maxRecDepth 100000 in
theorem cX1_beginRound_ok (l : Launch) (G : va_G) (cI cG : ClassId) (a0 a1 a2 a3 a4 a5 a6 a7 a8 a9 : Nat) (fu : Nat) (ft : Tab) (er : Tab) (eb : Int32) (li : Tab) (st : Tab) (rd : Int32) (tu : Int32) (la : Int32) (dl : Bool) (sh : Int32) (tb : Int32) (out : Tab × Int32) (hf : fX1_beginRound fu ft er li rd = some out) : CV l G (tyz cI cG) yX1_beginRound wsX1_beginRound ({ frames := 4, cells := 0, slots := 0, locals := 107 } : Room) [.ref a0] [(a0, .inr (1, [.ref a1, .ref a3, .ref a6, .ref a8, .int rd, .int tu, .int la, .int (bI dl), .int sh, .int tb])), (a1, .inr (4, [.int ft.1, .ref a2, .int ft.2.2.2])), (a2, .inl (cI, ft.2.1, .inl ft.2.2.1)), (a3, .inr (0, [.ref a4, .int eb])), (a4, .inr (4, [.int er.1, .ref a5, .int er.2.2.2])), (a5, .inl (cI, er.2.1, .inl er.2.2.1)), (a6, .inr (4, [.int li.1, .ref a7, .int li.2.2.2])), (a7, .inl (cI, li.2.1, .inl li.2.2.1)), (a8, .inr (4, [.int st.1, .ref a9, .int st.2.2.2])), (a9, .inl (cI, st.2.1, .inl st.2.2.1))] [(a0, .inr (1, [.ref a1, .ref a3, .ref a6, .ref a8, .int out.2, .int tu, .int la, .int (bI dl), .int sh, .int tb])), (a1, .inr (4, [.int ft.1, .ref a2, .int ft.2.2.2])), (a2, .inl (cI, ft.2.1, .inl ft.2.2.1)), (a3, .inr (0, [.ref a4, .int eb])), (a4, .inr (4, [.int er.1, .ref a5, .int er.2.2.2])), (a5, .inl (cI, er.2.1, .inl er.2.2.1)), (a6, .inr (4, [.int out.1.1, .ref a7, .int out.1.2.2.2])), (a7, .inl (cI, out.1.2.1, .inl out.1.2.2.1)), (a8, .inr (4, [.int st.1, .ref a9, .int st.2.2.2])), (a9, .inl (cI, st.2.1, .inl st.2.2.1))] := by
  intro sz
  refine Met.ofW (cc := cX1_beginRound) (maxL := 2) (ret := none) (by decide) rfl ?_
  intro p e s m args below meth c s₁ B hml hv
  obtain ⟨rfl, hsz, hP, hK, hD0⟩ := hv
  have hx := B.exec
  have hb := B.bytes
  have hr := B.returns
  have hts := atoms_spec (ws := wsX1_beginRound) B.pre
  have hown : s.vm.findClass RX1 = some m.cls := findClass_of_methodNamed B.named
  have hlocks := B.notSynchronized
  subst hsz
  have hD := hD0.self (sz := s.heap.size)
  generalize hAe : va_A ([(a0, .inr (1, [.ref a1, .ref a3, .ref a6, .ref a8, .int rd, .int tu, .int la, .int (bI dl), .int sh, .int tb])), (a1, .inr (4, [.int ft.1, .ref a2, .int ft.2.2.2])), (a2, .inl (cI, ft.2.1, .inl ft.2.2.1)), (a3, .inr (0, [.ref a4, .int eb])), (a4, .inr (4, [.int er.1, .ref a5, .int er.2.2.2])), (a5, .inl (cI, er.2.1, .inl er.2.2.1)), (a6, .inr (4, [.int li.1, .ref a7, .int li.2.2.2])), (a7, .inl (cI, li.2.1, .inl li.2.2.1)), (a8, .inr (4, [.int st.1, .ref a9, .int st.2.2.2])), (a9, .inl (cI, st.2.1, .inl st.2.2.1))]) s.heap.size = A at hD ⊢
  have hA : ∀ q : Nat, s.heap.size ≤ q → A q := fun q h => by rw [← hAe]; exact Or.inr h
  have hS : va_S A s.heap s.heap [] := va_S.rf
  have hw0 := hts (.fieldLink RX1 33 "SpeedTurns$Game" "round" "I") (List.mem_of_getElem? (i := 1) rfl)
  have hw1 := hts (.fieldLink RX1 27 "SpeedTurns$Game" "list" "LSpeedTurns$Table;") (List.mem_of_getElem? (i := 2) rfl)
  have hw2 := hts (.fieldLink RX1 16 "SpeedTurns$Game" "fighters" "LSpeedTurns$Table;") (List.mem_of_getElem? (i := 7) rfl)
  show W p l e ({ frames := 4, cells := 0, slots := 0, locals := 107 } : Room) s m _ below meth c s.heap [] 0 0 _ _
  refine W_genQ (fun Q hQ => ?_)
  have L19 : ∀ (rd : Int32) (k : Nat) (li : Tab) (v1 : Int32) (H : Heap) (locs : List Loc) (ls : Array Slot), fX1_beginRound_L19 fu ft er rd k li v1 = some out → va_P G vwCl ([(a0, .inr (1, [.ref a1, .ref a3, .ref a6, .ref a8, .int rd, .int tu, .int la, .int (bI dl), .int sh, .int tb])), (a1, .inr (4, [.int ft.1, .ref a2, .int ft.2.2.2])), (a2, .inl (cI, ft.2.1, .inl ft.2.2.1)), (a3, .inr (0, [.ref a4, .int eb])), (a4, .inr (4, [.int er.1, .ref a5, .int er.2.2.2])), (a5, .inl (cI, er.2.1, .inl er.2.2.1)), (a6, .inr (4, [.int li.1, .ref a7, .int li.2.2.2])), (a7, .inl (cI, li.2.1, .inl li.2.2.1)), (a8, .inr (4, [.int st.1, .ref a9, .int st.2.2.2])), (a9, .inl (cI, st.2.1, .inl st.2.2.1))]) H → va_D A ([(a0, .inr (1, [.ref a1, .ref a3, .ref a6, .ref a8, .int rd, .int tu, .int la, .int (bI dl), .int sh, .int tb])), (a1, .inr (4, [.int ft.1, .ref a2, .int ft.2.2.2])), (a2, .inl (cI, ft.2.1, .inl ft.2.2.1)), (a3, .inr (0, [.ref a4, .int eb])), (a4, .inr (4, [.int er.1, .ref a5, .int er.2.2.2])), (a5, .inl (cI, er.2.1, .inl er.2.2.1)), (a6, .inr (4, [.int li.1, .ref a7, .int li.2.2.2])), (a7, .inl (cI, li.2.1, .inl li.2.2.1)), (a8, .inr (4, [.int st.1, .ref a9, .int st.2.2.2])), (a9, .inl (cI, st.2.1, .inl st.2.2.1))]) → va_S A s.heap H locs → lv_has ls 2 [(0, .ref a0), (1, .int v1)] → W p l e ({ frames := 4, cells := 0, slots := 0, locals := 107 } : Room) s m ([.ref a0] : List Value).toArray below meth c H locs 0 0 Q (F0 m 19 ls []) := by
    intro rd k
    induction k with
    | zero => intro li v1 H locs ls h hP hD hS hl; rw [fX1_beginRound_L19] at h; exact o_n h
    | succ k ih =>
      intro li v1 H locs ls h hP hD hS hl
      rw [fX1_beginRound_L19] at h
      refine lv_iload_n hx hb dX1_beginRound_19 rfl (lv_at hl 1 rfl) ?_
      refine lv_aload_n hx hb dX1_beginRound_20 rfl (lv_at hl 0 rfl) ?_
      refine va_get (D := G) (ci := 1) (v := .ref a1) (C := RX1) (T := TX1) (N := 10) hx hb hts huX1_beginRound_X1 hown hK.1 hP 0 rfl rfl 0 (by decide) hw2 (fun _ h9 => h9) rfl dX1_beginRound_21 ?_
      obtain ⟨x2, ex2, h⟩ := o_b h
      refine call_iV (As := []) (rest := [.int v1]) (ws2 := [(a0, .inr (1, [.ref a1, .ref a3, .ref a6, .ref a8, .int rd, .int tu, .int la, .int (bI dl), .int sh, .int tb])), (a1, .inr (4, [.int ft.1, .ref a2, .int ft.2.2.2])), (a2, .inl (cI, ft.2.1, .inl ft.2.2.1)), (a3, .inr (0, [.ref a4, .int eb])), (a4, .inr (4, [.int er.1, .ref a5, .int er.2.2.2])), (a5, .inl (cI, er.2.1, .inl er.2.2.1)), (a6, .inr (4, [.int li.1, .ref a7, .int li.2.2.2])), (a7, .inl (cI, li.2.1, .inl li.2.2.1)), (a8, .inr (4, [.int st.1, .ref a9, .int st.2.2.2])), (a9, .inl (cI, st.2.1, .inl st.2.2.1))]) ⟨hx, hb, hml, hown, hts⟩ (cX4_count_ok l G cI cG a1 a2 ft x2 ex2) (cwV 0 hts gX1_beginRound_X4_count_60 rfl rfl rfl hdX4_count ⟨Nat.le_of_ble_eq_true rfl, Nat.le_of_ble_eq_true rfl⟩) hP hD hS hA hK 4 rfl rfl rfl [1, 2] rfl rfl rfl rfl rfl rfl rfl rfl hl.1 (Nat.le_of_ble_eq_true rfl) dX1_beginRound_24 ⟨Nat.zero_le _, Nat.zero_le _⟩ (fun H locs hP hD hS => ?_)
      refine lv_icmp_ge (tgt := 49) hx hb dX1_beginRound_27 (by decide) (fun hc => ?_) (fun hc => ?_)
      · have h := o_t h hc
        obtain rfl := o_s h
        rw [hQ]
        exact end_v hx hb hr hP hD hS dX1_beginRound_49 hlocks
      · have h := o_f h hc
        refine lv_aload_n hx hb dX1_beginRound_30 rfl (lv_at hl 0 rfl) ?_
        refine lv_iload_n hx hb dX1_beginRound_31 rfl (lv_at hl 1 rfl) ?_
        obtain ⟨x3, ex3, h⟩ := o_b h
        refine call_iV (As := [.int v1]) (rest := []) (ws2 := [(a0, .inr (1, [.ref a1, .ref a3, .ref a6, .ref a8, .int rd, .int tu, .int la, .int (bI dl), .int sh, .int tb])), (a1, .inr (4, [.int ft.1, .ref a2, .int ft.2.2.2])), (a2, .inl (cI, ft.2.1, .inl ft.2.2.1)), (a3, .inr (0, [.ref a4, .int eb])), (a4, .inr (4, [.int er.1, .ref a5, .int er.2.2.2])), (a5, .inl (cI, er.2.1, .inl er.2.2.1)), (a6, .inr (4, [.int li.1, .ref a7, .int li.2.2.2])), (a7, .inl (cI, li.2.1, .inl li.2.2.1)), (a8, .inr (4, [.int st.1, .ref a9, .int st.2.2.2])), (a9, .inl (cI, st.2.1, .inl st.2.2.1))]) ⟨hx, hb, hml, hown, hts⟩ (cX1_stands_ok l G cI cG a0 a1 a2 a3 a4 a5 a6 a7 a8 a9 ft er eb li st rd tu la dl sh tb v1 x3 ex3) (cwV 1 hts gX1_beginRound_X1_stands_104 rfl rfl rfl hdX1_stands ⟨Nat.le_of_ble_eq_true rfl, Nat.le_of_ble_eq_true rfl⟩) hP hD hS hA hK 1 rfl rfl rfl [0, 1, 2, 3, 4, 5, 6, 7, 8, 9] rfl rfl rfl rfl rfl rfl rfl rfl hl.1 (Nat.le_of_ble_eq_true rfl) dX1_beginRound_32 ⟨Nat.zero_le _, Nat.zero_le _⟩ (fun H locs hP hD hS => ?_)
        refine lv_if_eq (tgt := 43) hx hb dX1_beginRound_35 (by decide) (fun hc => ?_) (fun hc => ?_)
        · have h := o_t h hc
          refine lv_iinc (v := (v1 + 1)) (lv' := [(1, .int (v1 + 1)), (0, .ref a0)]) hx hb dX1_beginRound_43 hl (k := 1) rfl rfl (by decide) rfl (fun ls hl => ?_)
          refine lv_goto (tgt := 19) hx hb dX1_beginRound_46 (by decide) ?_
          exact ih li (v1 + 1) _ _ _ h hP hD hS (lv_sub hl [1, 0] rfl)
        · have h := o_f h hc
          refine lv_aload_n hx hb dX1_beginRound_38 rfl (lv_at hl 0 rfl) ?_
          refine lv_iload_n hx hb dX1_beginRound_39 rfl (lv_at hl 1 rfl) ?_
          obtain ⟨x4, ex4, h⟩ := o_b h
          refine call_vV (As := [.int v1]) (rest := []) (ws2 := [(a0, .inr (1, [.ref a1, .ref a3, .ref a6, .ref a8, .int rd, .int tu, .int la, .int (bI dl), .int sh, .int tb])), (a1, .inr (4, [.int ft.1, .ref a2, .int ft.2.2.2])), (a2, .inl (cI, ft.2.1, .inl ft.2.2.1)), (a3, .inr (0, [.ref a4, .int eb])), (a4, .inr (4, [.int er.1, .ref a5, .int er.2.2.2])), (a5, .inl (cI, er.2.1, .inl er.2.2.1)), (a6, .inr (4, [.int x4.1, .ref a7, .int x4.2.2.2])), (a7, .inl (cI, x4.2.1, .inl x4.2.2.1)), (a8, .inr (4, [.int st.1, .ref a9, .int st.2.2.2])), (a9, .inl (cI, st.2.1, .inl st.2.2.1))]) ⟨hx, hb, hml, hown, hts⟩ (cX1_enlist_ok l G cI cG a0 a1 a2 a3 a4 a5 a6 a7 a8 a9 fu ft er eb li st rd tu la dl sh tb v1 x4 ex4) (cwV 1 hts gX1_beginRound_X1_enlist_141 rfl rfl rfl hdX1_enlist ⟨Nat.le_of_ble_eq_true rfl, Nat.le_of_ble_eq_true rfl⟩) hP hD hS hA hK 1 rfl rfl rfl [0, 1, 2, 3, 4, 5, 6, 7, 8, 9] rfl rfl rfl rfl rfl rfl rfl rfl hl.1 (Nat.le_of_ble_eq_true rfl) dX1_beginRound_40 ⟨Nat.zero_le _, Nat.zero_le _⟩ (fun H locs hP hD hS => ?_)
          refine lv_iinc (v := (v1 + 1)) (lv' := [(1, .int (v1 + 1)), (0, .ref a0)]) hx hb dX1_beginRound_43 hl (k := 1) rfl rfl (by decide) rfl (fun ls hl => ?_)
          refine lv_goto (tgt := 19) hx hb dX1_beginRound_46 (by decide) ?_
          exact ih x4 (v1 + 1) _ _ _ h hP hD hS (lv_sub hl [1, 0] rfl)
  have h := hf
  rw [fX1_beginRound] at h
  have hl := lv_entry ([.ref a0]) (n := 2) (Nat.le_of_ble_eq_true rfl)
  rw [lg_entry_eq]
  generalize (lg_sl ([.ref a0]) ++ List.replicate (2 - (lg_sl ([.ref a0])).length) Slot.unset).toArray = ls at hl ⊢
  have hl : lv_has ls 2 [(0, .ref a0)] := hl
  refine lv_aload_n hx hb dX1_beginRound_0 rfl (lv_at hl 0 rfl) ?_
  refine lv_dup hx hb dX1_beginRound_1 rfl ?_
  refine va_get (D := G) (ci := 1) (v := .int rd) (C := RX1) (T := TX1) (N := 10) hx hb hts huX1_beginRound_X1 hown hK.1 hP 0 rfl rfl 4 (by decide) hw0 (fun _ h9 => h9) rfl dX1_beginRound_2 ?_
  refine lv_iconst (v := 1) hx hb dX1_beginRound_5 (by decide) ?_
  refine lv_iadd hx hb dX1_beginRound_6 ?_
  refine va_put (D := G) (ci := 1) (v := .int (rd + (1 : Int32))) (ty := .int) (C := RX1) (T := TX1) (N := 10) hx hb hts huX1_beginRound_X1 tyX1 tyX1_ok nmX1 hown hK.1 hP hD hS 0 rfl rfl 4 (by decide) hw0 (fun _ h9 => h9) rfl (by decide +kernel) rfl rfl (Nat.le_of_ble_eq_true rfl) dX1_beginRound_7 (fun H locs hP hD hS => ?_)
  have hP : va_P G vwCl ([(a0, .inr (1, [.ref a1, .ref a3, .ref a6, .ref a8, .int (rd + (1 : Int32)), .int tu, .int la, .int (bI dl), .int sh, .int tb])), (a1, .inr (4, [.int ft.1, .ref a2, .int ft.2.2.2])), (a2, .inl (cI, ft.2.1, .inl ft.2.2.1)), (a3, .inr (0, [.ref a4, .int eb])), (a4, .inr (4, [.int er.1, .ref a5, .int er.2.2.2])), (a5, .inl (cI, er.2.1, .inl er.2.2.1)), (a6, .inr (4, [.int li.1, .ref a7, .int li.2.2.2])), (a7, .inl (cI, li.2.1, .inl li.2.2.1)), (a8, .inr (4, [.int st.1, .ref a9, .int st.2.2.2])), (a9, .inl (cI, st.2.1, .inl st.2.2.1))]) H := hP
  have hD : va_D A ([(a0, .inr (1, [.ref a1, .ref a3, .ref a6, .ref a8, .int (rd + (1 : Int32)), .int tu, .int la, .int (bI dl), .int sh, .int tb])), (a1, .inr (4, [.int ft.1, .ref a2, .int ft.2.2.2])), (a2, .inl (cI, ft.2.1, .inl ft.2.2.1)), (a3, .inr (0, [.ref a4, .int eb])), (a4, .inr (4, [.int er.1, .ref a5, .int er.2.2.2])), (a5, .inl (cI, er.2.1, .inl er.2.2.1)), (a6, .inr (4, [.int li.1, .ref a7, .int li.2.2.2])), (a7, .inl (cI, li.2.1, .inl li.2.2.1)), (a8, .inr (4, [.int st.1, .ref a9, .int st.2.2.2])), (a9, .inl (cI, st.2.1, .inl st.2.2.1))]) := hD
  refine lv_aload_n hx hb dX1_beginRound_10 rfl (lv_at hl 0 rfl) ?_
  refine va_get (D := G) (ci := 1) (v := .ref a6) (C := RX1) (T := TX1) (N := 10) hx hb hts huX1_beginRound_X1 hown hK.1 hP 0 rfl rfl 2 (by decide) hw1 (fun _ h9 => h9) rfl dX1_beginRound_11 ?_
  obtain ⟨x1, ex1, h⟩ := o_b h
  refine call_vV (As := []) (rest := []) (ws2 := [(a0, .inr (1, [.ref a1, .ref a3, .ref a6, .ref a8, .int (rd + (1 : Int32)), .int tu, .int la, .int (bI dl), .int sh, .int tb])), (a1, .inr (4, [.int ft.1, .ref a2, .int ft.2.2.2])), (a2, .inl (cI, ft.2.1, .inl ft.2.2.1)), (a3, .inr (0, [.ref a4, .int eb])), (a4, .inr (4, [.int er.1, .ref a5, .int er.2.2.2])), (a5, .inl (cI, er.2.1, .inl er.2.2.1)), (a6, .inr (4, [.int x1.1, .ref a7, .int x1.2.2.2])), (a7, .inl (cI, x1.2.1, .inl x1.2.2.1)), (a8, .inr (4, [.int st.1, .ref a9, .int st.2.2.2])), (a9, .inl (cI, st.2.1, .inl st.2.2.1))]) ⟨hx, hb, hml, hown, hts⟩ (cX4_clear_ok l G cI cG a6 a7 li x1 ex1) (cwV 0 hts gX1_beginRound_X4_clear_138 rfl rfl rfl hdX4_clear ⟨Nat.le_of_ble_eq_true rfl, Nat.le_of_ble_eq_true rfl⟩) hP hD hS hA hK 4 rfl rfl rfl [6, 7] rfl rfl rfl rfl rfl rfl rfl rfl hl.1 (Nat.le_of_ble_eq_true rfl) dX1_beginRound_14 ⟨Nat.zero_le _, Nat.zero_le _⟩ (fun H locs hP hD hS => ?_)
  refine lv_iconst (v := 0) hx hb dX1_beginRound_17 (by decide) ?_
  refine lv_istore_n (lv' := [(1, .int (0 : Int32)), (0, .ref a0)]) hx hb dX1_beginRound_18 rfl hl (by decide) rfl (fun ls hl => ?_)
  exact L19 (rd + (1 : Int32)) fu x1 (0 : Int32) _ _ _ h hP hD hS (lv_sub hl [1, 0] rfl)
theorem hdX1_takeTurn : yX1_takeTurn.cls = RX1 ∧ yX1_takeTurn.cls ≠ "java/lang/invoke/MethodHandle" ∧ yX1_takeTurn.cls ≠ "java/lang/invoke/VarHandle" ∧ (parseMethodDescriptor yX1_takeTurn.desc).map (fun d => d.parameters.length) = some 1 := by decide +kernel
set_option maxHeartbeats 4000000 in
set_option maxRecDepth 100000 in
theorem cX1_takeTurn_ok (l : Launch) (G : va_G) (cI cG : ClassId) (a0 a1 a2 a3 a4 a5 a6 a7 a8 a9 : Nat) (fu : Nat) (ft : Tab) (er : Tab) (eb : Int32) (li : Tab) (st : Tab) (rd : Int32) (tu : Int32) (la : Int32) (dl : Bool) (sh : Int32) (tb : Int32) (p1 : Int32) (out : Tab × Int32 × Int32) (hf : fX1_takeTurn fu li tu la p1 = some out) : CV l G (tyz cI cG) yX1_takeTurn wsX1_takeTurn ({ frames := 2, cells := 0, slots := 0, locals := 45 } : Room) [.ref a0, .int p1] [(a0, .inr (1, [.ref a1, .ref a3, .ref a6, .ref a8, .int rd, .int tu, .int la, .int (bI dl), .int sh, .int tb])), (a1, .inr (4, [.int ft.1, .ref a2, .int ft.2.2.2])), (a2, .inl (cI, ft.2.1, .inl ft.2.2.1)), (a3, .inr (0, [.ref a4, .int eb])), (a4, .inr (4, [.int er.1, .ref a5, .int er.2.2.2])), (a5, .inl (cI, er.2.1, .inl er.2.2.1)), (a6, .inr (4, [.int li.1, .ref a7, .int li.2.2.2])), (a7, .inl (cI, li.2.1, .inl li.2.2.1)), (a8, .inr (4, [.int st.1, .ref a9, .int st.2.2.2])), (a9, .inl (cI, st.2.1, .inl st.2.2.1))] [(a0, .inr (1, [.ref a1, .ref a3, .ref a6, .ref a8, .int rd, .int out.2.1, .int out.2.2, .int (bI dl), .int sh, .int tb])), (a1, .inr (4, [.int ft.1, .ref a2, .int ft.2.2.2])), (a2, .inl (cI, ft.2.1, .inl ft.2.2.1)), (a3, .inr (0, [.ref a4, .int eb])), (a4, .inr (4, [.int er.1, .ref a5, .int er.2.2.2])), (a5, .inl (cI, er.2.1, .inl er.2.2.1)), (a6, .inr (4, [.int out.1.1, .ref a7, .int out.1.2.2.2])), (a7, .inl (cI, out.1.2.1, .inl out.1.2.2.1)), (a8, .inr (4, [.int st.1, .ref a9, .int st.2.2.2])), (a9, .inl (cI, st.2.1, .inl st.2.2.1))] := by
  intro sz
  refine Met.ofW (cc := cX1_takeTurn) (maxL := 2) (ret := none) (by decide) rfl ?_
  intro p e s m args below meth c s₁ B hml hv
  obtain ⟨rfl, hsz, hP, hK, hD0⟩ := hv
  have hx := B.exec
  have hb := B.bytes
  have hr := B.returns
  have hts := atoms_spec (ws := wsX1_takeTurn) B.pre
  have hown : s.vm.findClass RX1 = some m.cls := findClass_of_methodNamed B.named
  have hlocks := B.notSynchronized
  subst hsz
  have hD := hD0.self (sz := s.heap.size)
  generalize hAe : va_A ([(a0, .inr (1, [.ref a1, .ref a3, .ref a6, .ref a8, .int rd, .int tu, .int la, .int (bI dl), .int sh, .int tb])), (a1, .inr (4, [.int ft.1, .ref a2, .int ft.2.2.2])), (a2, .inl (cI, ft.2.1, .inl ft.2.2.1)), (a3, .inr (0, [.ref a4, .int eb])), (a4, .inr (4, [.int er.1, .ref a5, .int er.2.2.2])), (a5, .inl (cI, er.2.1, .inl er.2.2.1)), (a6, .inr (4, [.int li.1, .ref a7, .int li.2.2.2])), (a7, .inl (cI, li.2.1, .inl li.2.2.1)), (a8, .inr (4, [.int st.1, .ref a9, .int st.2.2.2])), (a9, .inl (cI, st.2.1, .inl st.2.2.1))]) s.heap.size = A at hD ⊢
  have hA : ∀ q : Nat, s.heap.size ≤ q → A q := fun q h => by rw [← hAe]; exact Or.inr h
  have hS : va_S A s.heap s.heap [] := va_S.rf
  have hw0 := hts (.fieldLink RX1 37 "SpeedTurns$Game" "turn" "I") (List.mem_of_getElem? (i := 1) rfl)
  have hw1 := hts (.fieldLink RX1 40 "SpeedTurns$Game" "latest" "I") (List.mem_of_getElem? (i := 2) rfl)
  have hw2 := hts (.fieldLink RX1 27 "SpeedTurns$Game" "list" "LSpeedTurns$Table;") (List.mem_of_getElem? (i := 3) rfl)
  show W p l e ({ frames := 2, cells := 0, slots := 0, locals := 45 } : Room) s m _ below meth c s.heap [] 0 0 _ _
  refine W_genQ (fun Q hQ => ?_)
  have h := hf
  rw [fX1_takeTurn] at h
  have hl := lv_entry ([.ref a0, .int p1]) (n := 2) (Nat.le_of_ble_eq_true rfl)
  rw [lg_entry_eq]
  generalize (lg_sl ([.ref a0, .int p1]) ++ List.replicate (2 - (lg_sl ([.ref a0, .int p1])).length) Slot.unset).toArray = ls at hl ⊢
  have hl : lv_has ls 2 [(0, .ref a0), (1, .int p1)] := hl
  refine lv_aload_n hx hb dX1_takeTurn_0 rfl (lv_at hl 0 rfl) ?_
  refine lv_iload_n hx hb dX1_takeTurn_1 rfl (lv_at hl 1 rfl) ?_
  refine va_put (D := G) (ci := 1) (v := .int p1) (ty := .int) (C := RX1) (T := TX1) (N := 10) hx hb hts huX1_takeTurn_X1 tyX1 tyX1_ok nmX1 hown hK.1 hP hD hS 0 rfl rfl 5 (by decide) hw0 (fun _ h9 => h9) rfl (by decide +kernel) rfl rfl (Nat.le_of_ble_eq_true rfl) dX1_takeTurn_2 (fun H locs hP hD hS => ?_)
  have hP : va_P G vwCl ([(a0, .inr (1, [.ref a1, .ref a3, .ref a6, .ref a8, .int rd, .int p1, .int la, .int (bI dl), .int sh, .int tb])), (a1, .inr (4, [.int ft.1, .ref a2, .int ft.2.2.2])), (a2, .inl (cI, ft.2.1, .inl ft.2.2.1)), (a3, .inr (0, [.ref a4, .int eb])), (a4, .inr (4, [.int er.1, .ref a5, .int er.2.2.2])), (a5, .inl (cI, er.2.1, .inl er.2.2.1)), (a6, .inr (4, [.int li.1, .ref a7, .int li.2.2.2])), (a7, .inl (cI, li.2.1, .inl li.2.2.1)), (a8, .inr (4, [.int st.1, .ref a9, .int st.2.2.2])), (a9, .inl (cI, st.2.1, .inl st.2.2.1))]) H := hP
  have hD : va_D A ([(a0, .inr (1, [.ref a1, .ref a3, .ref a6, .ref a8, .int rd, .int p1, .int la, .int (bI dl), .int sh, .int tb])), (a1, .inr (4, [.int ft.1, .ref a2, .int ft.2.2.2])), (a2, .inl (cI, ft.2.1, .inl ft.2.2.1)), (a3, .inr (0, [.ref a4, .int eb])), (a4, .inr (4, [.int er.1, .ref a5, .int er.2.2.2])), (a5, .inl (cI, er.2.1, .inl er.2.2.1)), (a6, .inr (4, [.int li.1, .ref a7, .int li.2.2.2])), (a7, .inl (cI, li.2.1, .inl li.2.2.1)), (a8, .inr (4, [.int st.1, .ref a9, .int st.2.2.2])), (a9, .inl (cI, st.2.1, .inl st.2.2.1))]) := hD
  refine lv_aload_n hx hb dX1_takeTurn_5 rfl (lv_at hl 0 rfl) ?_
  refine lv_iload_n hx hb dX1_takeTurn_6 rfl (lv_at hl 1 rfl) ?_
  refine va_put (D := G) (ci := 1) (v := .int p1) (ty := .int) (C := RX1) (T := TX1) (N := 10) hx hb hts huX1_takeTurn_X1 tyX1 tyX1_ok nmX1 hown hK.1 hP hD hS 0 rfl rfl 6 (by decide) hw1 (fun _ h9 => h9) rfl (by decide +kernel) rfl rfl (Nat.le_of_ble_eq_true rfl) dX1_takeTurn_7 (fun H locs hP hD hS => ?_)
  have hP : va_P G vwCl ([(a0, .inr (1, [.ref a1, .ref a3, .ref a6, .ref a8, .int rd, .int p1, .int p1, .int (bI dl), .int sh, .int tb])), (a1, .inr (4, [.int ft.1, .ref a2, .int ft.2.2.2])), (a2, .inl (cI, ft.2.1, .inl ft.2.2.1)), (a3, .inr (0, [.ref a4, .int eb])), (a4, .inr (4, [.int er.1, .ref a5, .int er.2.2.2])), (a5, .inl (cI, er.2.1, .inl er.2.2.1)), (a6, .inr (4, [.int li.1, .ref a7, .int li.2.2.2])), (a7, .inl (cI, li.2.1, .inl li.2.2.1)), (a8, .inr (4, [.int st.1, .ref a9, .int st.2.2.2])), (a9, .inl (cI, st.2.1, .inl st.2.2.1))]) H := hP
  have hD : va_D A ([(a0, .inr (1, [.ref a1, .ref a3, .ref a6, .ref a8, .int rd, .int p1, .int p1, .int (bI dl), .int sh, .int tb])), (a1, .inr (4, [.int ft.1, .ref a2, .int ft.2.2.2])), (a2, .inl (cI, ft.2.1, .inl ft.2.2.1)), (a3, .inr (0, [.ref a4, .int eb])), (a4, .inr (4, [.int er.1, .ref a5, .int er.2.2.2])), (a5, .inl (cI, er.2.1, .inl er.2.2.1)), (a6, .inr (4, [.int li.1, .ref a7, .int li.2.2.2])), (a7, .inl (cI, li.2.1, .inl li.2.2.1)), (a8, .inr (4, [.int st.1, .ref a9, .int st.2.2.2])), (a9, .inl (cI, st.2.1, .inl st.2.2.1))]) := hD
  refine lv_aload_n hx hb dX1_takeTurn_10 rfl (lv_at hl 0 rfl) ?_
  refine va_get (D := G) (ci := 1) (v := .ref a6) (C := RX1) (T := TX1) (N := 10) hx hb hts huX1_takeTurn_X1 hown hK.1 hP 0 rfl rfl 2 (by decide) hw2 (fun _ h9 => h9) rfl dX1_takeTurn_11 ?_
  refine lv_aload_n hx hb dX1_takeTurn_14 rfl (lv_at hl 0 rfl) ?_
  refine lv_iload_n hx hb dX1_takeTurn_15 rfl (lv_at hl 1 rfl) ?_
  obtain ⟨x1, ex1, h⟩ := o_b h
  refine call_iV (As := [.int p1]) (rest := [.ref a6]) (ws2 := [(a0, .inr (1, [.ref a1, .ref a3, .ref a6, .ref a8, .int rd, .int p1, .int p1, .int (bI dl), .int sh, .int tb])), (a1, .inr (4, [.int ft.1, .ref a2, .int ft.2.2.2])), (a2, .inl (cI, ft.2.1, .inl ft.2.2.1)), (a3, .inr (0, [.ref a4, .int eb])), (a4, .inr (4, [.int er.1, .ref a5, .int er.2.2.2])), (a5, .inl (cI, er.2.1, .inl er.2.2.1)), (a6, .inr (4, [.int li.1, .ref a7, .int li.2.2.2])), (a7, .inl (cI, li.2.1, .inl li.2.2.1)), (a8, .inr (4, [.int st.1, .ref a9, .int st.2.2.2])), (a9, .inl (cI, st.2.1, .inl st.2.2.1))]) ⟨hx, hb, hml, hown, hts⟩ (cX1_placeOf_ok l G cI cG a0 a1 a2 a3 a4 a5 a6 a7 a8 a9 fu ft er eb li st rd p1 p1 dl sh tb p1 x1 ex1) (cwV 1 hts gX1_takeTurn_X1_placeOf_75 rfl rfl rfl hdX1_placeOf ⟨Nat.le_of_ble_eq_true rfl, Nat.le_of_ble_eq_true rfl⟩) hP hD hS hA hK 1 rfl rfl rfl [0, 1, 2, 3, 4, 5, 6, 7, 8, 9] rfl rfl rfl rfl rfl rfl rfl rfl hl.1 (Nat.le_of_ble_eq_true rfl) dX1_takeTurn_16 ⟨Nat.zero_le _, Nat.zero_le _⟩ (fun H locs hP hD hS => ?_)
  refine lv_iconst (v := 1) hx hb dX1_takeTurn_19 (by decide) ?_
  refine lv_iconst (v := 1) hx hb dX1_takeTurn_20 (by decide) ?_
  obtain ⟨x2, ex2, h⟩ := o_b h
  refine call_vV (As := [.int x1, .int (1 : Int32), .int (1 : Int32)]) (rest := []) (ws2 := [(a0, .inr (1, [.ref a1, .ref a3, .ref a6, .ref a8, .int rd, .int p1, .int p1, .int (bI dl), .int sh, .int tb])), (a1, .inr (4, [.int ft.1, .ref a2, .int ft.2.2.2])), (a2, .inl (cI, ft.2.1, .inl ft.2.2.1)), (a3, .inr (0, [.ref a4, .int eb])), (a4, .inr (4, [.int er.1, .ref a5, .int er.2.2.2])), (a5, .inl (cI, er.2.1, .inl er.2.2.1)), (a6, .inr (4, [.int x2.1, .ref a7, .int x2.2.2.2])), (a7, .inl (cI, x2.2.1, .inl x2.2.2.1)), (a8, .inr (4, [.int st.1, .ref a9, .int st.2.2.2])), (a9, .inl (cI, st.2.1, .inl st.2.2.1))]) ⟨hx, hb, hml, hown, hts⟩ (cX4_put_ok l G cI cG a6 a7 li x1 (1 : Int32) (1 : Int32) x2 ex2) (cwV 3 hts gX1_takeTurn_X4_put_119 rfl rfl rfl hdX4_put ⟨Nat.le_of_ble_eq_true rfl, Nat.le_of_ble_eq_true rfl⟩) hP hD hS hA hK 4 rfl rfl rfl [6, 7] rfl rfl rfl rfl rfl rfl rfl rfl hl.1 (Nat.le_of_ble_eq_true rfl) dX1_takeTurn_21 ⟨Nat.zero_le _, Nat.zero_le _⟩ (fun H locs hP hD hS => ?_)
  obtain rfl := o_s h
  rw [hQ]
  exact end_v hx hb hr hP hD hS dX1_takeTurn_24 hlocks
theorem hdX1_harm : yX1_harm.cls = RX1 ∧ yX1_harm.cls ≠ "java/lang/invoke/MethodHandle" ∧ yX1_harm.cls ≠ "java/lang/invoke/VarHandle" ∧ (parseMethodDescriptor yX1_harm.desc).map (fun d => d.parameters.length) = some 2 := by decide +kernel
set_option maxHeartbeats 4000000 in
set_option maxRecDepth 100000 in
theorem cX1_harm_ok (l : Launch) (G : va_G) (cI cG : ClassId) (a0 a1 a2 a3 a4 a5 a6 a7 a8 a9 : Nat) (fu : Nat) (ft : Tab) (er : Tab) (eb : Int32) (li : Tab) (st : Tab) (rd : Int32) (tu : Int32) (la : Int32) (dl : Bool) (sh : Int32) (tb : Int32) (p1 : Int32) (p2 : Int32) (out : Tab × Tab) (hf : fX1_harm fu ft er sh p1 p2 = some out) : CV l G (tyz cI cG) yX1_harm wsX1_harm ({ frames := 3, cells := 0, slots := 0, locals := 106 } : Room) [.ref a0, .int p1, .int p2] [(a0, .inr (1, [.ref a1, .ref a3, .ref a6, .ref a8, .int rd, .int tu, .int la, .int (bI dl), .int sh, .int tb])), (a1, .inr (4, [.int ft.1, .ref a2, .int ft.2.2.2])), (a2, .inl (cI, ft.2.1, .inl ft.2.2.1)), (a3, .inr (0, [.ref a4, .int eb])), (a4, .inr (4, [.int er.1, .ref a5, .int er.2.2.2])), (a5, .inl (cI, er.2.1, .inl er.2.2.1)), (a6, .inr (4, [.int li.1, .ref a7, .int li.2.2.2])), (a7, .inl (cI, li.2.1, .inl li.2.2.1)), (a8, .inr (4, [.int st.1, .ref a9, .int st.2.2.2])), (a9, .inl (cI, st.2.1, .inl st.2.2.1))] [(a0, .inr (1, [.ref a1, .ref a3, .ref a6, .ref a8, .int rd, .int tu, .int la, .int (bI dl), .int sh, .int tb])), (a1, .inr (4, [.int out.1.1, .ref a2, .int out.1.2.2.2])), (a2, .inl (cI, out.1.2.1, .inl out.1.2.2.1)), (a3, .inr (0, [.ref a4, .int eb])), (a4, .inr (4, [.int out.2.1, .ref a5, .int out.2.2.2.2])), (a5, .inl (cI, out.2.2.1, .inl out.2.2.2.1)), (a6, .inr (4, [.int li.1, .ref a7, .int li.2.2.2])), (a7, .inl (cI, li.2.1, .inl li.2.2.1)), (a8, .inr (4, [.int st.1, .ref a9, .int st.2.2.2])), (a9, .inl (cI, st.2.1, .inl st.2.2.1))] := by
  intro sz
  refine Met.ofW (cc := cX1_harm) (maxL := 5) (ret := none) (by decide) rfl ?_
  intro p e s m args below meth c s₁ B hml hv
  obtain ⟨rfl, hsz, hP, hK, hD0⟩ := hv
  have hx := B.exec
  have hb := B.bytes
  have hr := B.returns
  have hts := atoms_spec (ws := wsX1_harm) B.pre
  have hown : s.vm.findClass RX1 = some m.cls := findClass_of_methodNamed B.named
  have hlocks := B.notSynchronized
  subst hsz
  have hD := hD0.self (sz := s.heap.size)
  generalize hAe : va_A ([(a0, .inr (1, [.ref a1, .ref a3, .ref a6, .ref a8, .int rd, .int tu, .int la, .int (bI dl), .int sh, .int tb])), (a1, .inr (4, [.int ft.1, .ref a2, .int ft.2.2.2])), (a2, .inl (cI, ft.2.1, .inl ft.2.2.1)), (a3, .inr (0, [.ref a4, .int eb])), (a4, .inr (4, [.int er.1, .ref a5, .int er.2.2.2])), (a5, .inl (cI, er.2.1, .inl er.2.2.1)), (a6, .inr (4, [.int li.1, .ref a7, .int li.2.2.2])), (a7, .inl (cI, li.2.1, .inl li.2.2.1)), (a8, .inr (4, [.int st.1, .ref a9, .int st.2.2.2])), (a9, .inl (cI, st.2.1, .inl st.2.2.1))]) s.heap.size = A at hD ⊢
  have hA : ∀ q : Nat, s.heap.size ≤ q → A q := fun q h => by rw [← hAe]; exact Or.inr h
  have hS : va_S A s.heap s.heap [] := va_S.rf
  have hw0 := hts (.fieldLink RX1 16 "SpeedTurns$Game" "fighters" "LSpeedTurns$Table;") (List.mem_of_getElem? (i := 1) rfl)
  have hw1 := hts (.methodLink RX1 150 Lib.Math.min.name) (List.mem_of_getElem? (i := 6) rfl)
  have hw2 := hts (.static Lib.Math.min.name) (List.mem_of_getElem? (i := 7) rfl)
  have hw3 := hts (.initialized "java/lang/Math") (List.mem_of_getElem? (i := 8) rfl)
  have hw4 := hts (.code Lib.Math.min.name Lib.Math.min.code 2 (some .int)) (List.mem_of_getElem? (i := 9) rfl)
  have hw5 := hts (.fieldLink RX1 47 "SpeedTurns$Game" "shock" "I") (List.mem_of_getElem? (i := 13) rfl)
  have hw6 := hts (.fieldLink RX1 23 "SpeedTurns$Game" "effects" "LSpeedTurns$Effects;") (List.mem_of_getElem? (i := 14) rfl)
  show W p l e ({ frames := 3, cells := 0, slots := 0, locals := 106 } : Room) s m _ below meth c s.heap [] 0 0 _ _
  refine W_genQ (fun Q hQ => ?_)
  have h := hf
  rw [fX1_harm] at h
  have hl := lv_entry ([.ref a0, .int p1, .int p2]) (n := 5) (Nat.le_of_ble_eq_true rfl)
  rw [lg_entry_eq]
  generalize (lg_sl ([.ref a0, .int p1, .int p2]) ++ List.replicate (5 - (lg_sl ([.ref a0, .int p1, .int p2])).length) Slot.unset).toArray = ls at hl ⊢
  have hl : lv_has ls 5 [(0, .ref a0), (1, .int p1), (2, .int p2)] := hl
  refine lv_aload_n hx hb dX1_harm_0 rfl (lv_at hl 0 rfl) ?_
  refine va_get (D := G) (ci := 1) (v := .ref a1) (C := RX1) (T := TX1) (N := 10) hx hb hts huX1_harm_X1 hown hK.1 hP 0 rfl rfl 0 (by decide) hw0 (fun _ h9 => h9) rfl dX1_harm_1 ?_
  refine lv_iload_n hx hb dX1_harm_4 rfl (lv_at hl 1 rfl) ?_
  refine lv_iconst (v := 2) hx hb dX1_harm_5 (by decide) ?_
  obtain ⟨x1, ex1, h⟩ := o_b h
  refine call_iV (As := [.int p1, .int (2 : Int32)]) (rest := []) (ws2 := [(a0, .inr (1, [.ref a1, .ref a3, .ref a6, .ref a8, .int rd, .int tu, .int la, .int (bI dl), .int sh, .int tb])), (a1, .inr (4, [.int ft.1, .ref a2, .int ft.2.2.2])), (a2, .inl (cI, ft.2.1, .inl ft.2.2.1)), (a3, .inr (0, [.ref a4, .int eb])), (a4, .inr (4, [.int er.1, .ref a5, .int er.2.2.2])), (a5, .inl (cI, er.2.1, .inl er.2.2.1)), (a6, .inr (4, [.int li.1, .ref a7, .int li.2.2.2])), (a7, .inl (cI, li.2.1, .inl li.2.2.1)), (a8, .inr (4, [.int st.1, .ref a9, .int st.2.2.2])), (a9, .inl (cI, st.2.1, .inl st.2.2.1))]) ⟨hx, hb, hml, hown, hts⟩ (cX4_at_ok l G cI cG a1 a2 ft p1 (2 : Int32) x1 ex1) (cwV 2 hts gX1_harm_X4_at_64 rfl rfl rfl hdX4_at ⟨Nat.le_of_ble_eq_true rfl, Nat.le_of_ble_eq_true rfl⟩) hP hD hS hA hK 4 rfl rfl rfl [1, 2] rfl rfl rfl rfl rfl rfl rfl rfl hl.1 (Nat.le_of_ble_eq_true rfl) dX1_harm_6 ⟨Nat.zero_le _, Nat.zero_le _⟩ (fun H locs hP hD hS => ?_)
  refine lv_istore_n (lv' := [(3, .int x1), (0, .ref a0), (1, .int p1), (2, .int p2)]) hx hb dX1_harm_9 rfl hl (by decide) rfl (fun ls hl => ?_)
  refine lv_iload_n hx hb dX1_harm_10 rfl (lv_at hl 3 rfl) ?_
  refine lv_iload_n hx hb dX1_harm_11 rfl (lv_at hl 0 rfl) ?_
  refine va_mmin hx hb (by rw [hml]; exact hl.1.symm) hown hw1 hw2 hw3 hw4 (Nat.le_of_ble_eq_true rfl) (Nat.le_of_ble_eq_true rfl) (Nat.zero_le _) (Nat.zero_le _) dX1_harm_12 ?_
  refine lv_istore (lv' := [(4, .int (if x1 < p2 then x1 else p2)), (3, .int x1), (0, .ref a0), (1, .int p1), (2, .int p2)]) hx hb dX1_harm_15 hl (by decide) rfl (fun ls hl => ?_)
  refine lv_aload_n hx hb dX1_harm_17 rfl (lv_at hl 2 rfl) ?_
  refine va_get (D := G) (ci := 1) (v := .ref a1) (C := RX1) (T := TX1) (N := 10) hx hb hts huX1_harm_X1 hown hK.1 hP 0 rfl rfl 0 (by decide) hw0 (fun _ h9 => h9) rfl dX1_harm_18 ?_
  refine lv_iload_n hx hb dX1_harm_21 rfl (lv_at hl 3 rfl) ?_
  refine lv_iconst (v := 2) hx hb dX1_harm_22 (by decide) ?_
  refine lv_iload_n hx hb dX1_harm_23 rfl (lv_at hl 1 rfl) ?_
  refine lv_iload hx hb dX1_harm_24 (lv_at hl 0 rfl) ?_
  refine lv_isub hx hb dX1_harm_26 ?_
  obtain ⟨x2, ex2, h⟩ := o_b h
  refine call_vV (As := [.int p1, .int (2 : Int32), .int (x1 - (if x1 < p2 then x1 else p2))]) (rest := []) (ws2 := [(a0, .inr (1, [.ref a1, .ref a3, .ref a6, .ref a8, .int rd, .int tu, .int la, .int (bI dl), .int sh, .int tb])), (a1, .inr (4, [.int x2.1, .ref a2, .int x2.2.2.2])), (a2, .inl (cI, x2.2.1, .inl x2.2.2.1)), (a3, .inr (0, [.ref a4, .int eb])), (a4, .inr (4, [.int er.1, .ref a5, .int er.2.2.2])), (a5, .inl (cI, er.2.1, .inl er.2.2.1)), (a6, .inr (4, [.int li.1, .ref a7, .int li.2.2.2])), (a7, .inl (cI, li.2.1, .inl li.2.2.1)), (a8, .inr (4, [.int st.1, .ref a9, .int st.2.2.2])), (a9, .inl (cI, st.2.1, .inl st.2.2.1))]) ⟨hx, hb, hml, hown, hts⟩ (cX4_put_ok l G cI cG a1 a2 ft p1 (2 : Int32) (x1 - (if x1 < p2 then x1 else p2)) x2 ex2) (cwV 3 hts gX1_harm_X4_put_119 rfl rfl rfl hdX4_put ⟨Nat.le_of_ble_eq_true rfl, Nat.le_of_ble_eq_true rfl⟩) hP hD hS hA hK 4 rfl rfl rfl [1, 2] rfl rfl rfl rfl rfl rfl rfl rfl hl.1 (Nat.le_of_ble_eq_true rfl) dX1_harm_27 ⟨Nat.zero_le _, Nat.zero_le _⟩ (fun H locs hP hD hS => ?_)
  refine lv_iload hx hb dX1_harm_30 (lv_at hl 0 rfl) ?_
  refine lv_iload_n hx hb dX1_harm_32 rfl (lv_at hl 1 rfl) ?_
  refine lv_icmp_lt (tgt := 47) hx hb dX1_harm_33 (by decide) (fun hc => ?_) (fun hc => ?_)
  · have h := o_t h hc
    refine lv_iload hx hb dX1_harm_47 (lv_at hl 0 rfl) ?_
    refine lv_aload_n hx hb dX1_harm_49 rfl (lv_at hl 2 rfl) ?_
    refine va_get (D := G) (ci := 1) (v := .int sh) (C := RX1) (T := TX1) (N := 10) hx hb hts huX1_harm_X1 hown hK.1 hP 0 rfl rfl 8 (by decide) hw5 (fun _ h9 => h9) rfl dX1_harm_50 ?_
    refine lv_icmp_lt (tgt := 64) hx hb dX1_harm_53 (by decide) (fun hc => ?_) (fun hc => ?_)
    · have h := o_t h hc
      obtain rfl := o_s h
      rw [hQ]
      exact end_v hx hb hr hP hD hS dX1_harm_64 hlocks
    · have h := o_f h hc
      refine lv_aload_n hx hb dX1_harm_56 rfl (lv_at hl 2 rfl) ?_
      refine va_get (D := G) (ci := 1) (v := .ref a3) (C := RX1) (T := TX1) (N := 10) hx hb hts huX1_harm_X1 hown hK.1 hP 0 rfl rfl 1 (by decide) hw6 (fun _ h9 => h9) rfl dX1_harm_57 ?_
      refine lv_iload_n hx hb dX1_harm_60 rfl (lv_at hl 3 rfl) ?_
      obtain ⟨x3, ex3, h⟩ := o_b h
      refine call_vV (As := [.int p1]) (rest := []) (ws2 := [(a0, .inr (1, [.ref a1, .ref a3, .ref a6, .ref a8, .int rd, .int tu, .int la, .int (bI dl), .int sh, .int tb])), (a1, .inr (4, [.int x2.1, .ref a2, .int x2.2.2.2])), (a2, .inl (cI, x2.2.1, .inl x2.2.2.1)), (a3, .inr (0, [.ref a4, .int eb])), (a4, .inr (4, [.int x3.1, .ref a5, .int x3.2.2.2])), (a5, .inl (cI, x3.2.1, .inl x3.2.2.1)), (a6, .inr (4, [.int li.1, .ref a7, .int li.2.2.2])), (a7, .inl (cI, li.2.1, .inl li.2.2.1)), (a8, .inr (4, [.int st.1, .ref a9, .int st.2.2.2])), (a9, .inl (cI, st.2.1, .inl st.2.2.1))]) ⟨hx, hb, hml, hown, hts⟩ (cX0_endHeldBy_ok l G cI cG a3 a4 a5 fu er eb p1 x3 ex3) (cwV 1 hts gX1_harm_X0_endHeldBy_156 rfl rfl rfl hdX0_endHeldBy ⟨Nat.le_of_ble_eq_true rfl, Nat.le_of_ble_eq_true rfl⟩) hP hD hS hA hK 0 rfl rfl rfl [3, 4, 5] rfl rfl rfl rfl rfl rfl rfl rfl hl.1 (Nat.le_of_ble_eq_true rfl) dX1_harm_61 ⟨Nat.zero_le _, Nat.zero_le _⟩ (fun H locs hP hD hS => ?_)
      obtain rfl := o_s h
      rw [hQ]
      exact end_v hx hb hr hP hD hS dX1_harm_64 hlocks
  · have h := o_f h hc
    refine lv_aload_n hx hb dX1_harm_36 rfl (lv_at hl 2 rfl) ?_
    refine va_get (D := G) (ci := 1) (v := .ref a3) (C := RX1) (T := TX1) (N := 10) hx hb hts huX1_harm_X1 hown hK.1 hP 0 rfl rfl 1 (by decide) hw6 (fun _ h9 => h9) rfl dX1_harm_37 ?_
    refine lv_iload_n hx hb dX1_harm_40 rfl (lv_at hl 3 rfl) ?_
    obtain ⟨x4, ex4, h⟩ := o_b h
    refine call_vV (As := [.int p1]) (rest := []) (ws2 := [(a0, .inr (1, [.ref a1, .ref a3, .ref a6, .ref a8, .int rd, .int tu, .int la, .int (bI dl), .int sh, .int tb])), (a1, .inr (4, [.int x2.1, .ref a2, .int x2.2.2.2])), (a2, .inl (cI, x2.2.1, .inl x2.2.2.1)), (a3, .inr (0, [.ref a4, .int eb])), (a4, .inr (4, [.int x4.1, .ref a5, .int x4.2.2.2])), (a5, .inl (cI, x4.2.1, .inl x4.2.2.1)), (a6, .inr (4, [.int li.1, .ref a7, .int li.2.2.2])), (a7, .inl (cI, li.2.1, .inl li.2.2.1)), (a8, .inr (4, [.int st.1, .ref a9, .int st.2.2.2])), (a9, .inl (cI, st.2.1, .inl st.2.2.1))]) ⟨hx, hb, hml, hown, hts⟩ (cX0_endOfFallen_ok l G cI cG a3 a4 a5 fu er eb p1 x4 ex4) (cwV 1 hts gX1_harm_X0_endOfFallen_153 rfl rfl rfl hdX0_endOfFallen ⟨Nat.le_of_ble_eq_true rfl, Nat.le_of_ble_eq_true rfl⟩) hP hD hS hA hK 0 rfl rfl rfl [3, 4, 5] rfl rfl rfl rfl rfl rfl rfl rfl hl.1 (Nat.le_of_ble_eq_true rfl) dX1_harm_41 ⟨Nat.zero_le _, Nat.zero_le _⟩ (fun H locs hP hD hS => ?_)
    refine lv_goto (tgt := 64) hx hb dX1_harm_44 (by decide) ?_
    obtain rfl := o_s h
    rw [hQ]
    exact end_v hx hb hr hP hD hS dX1_harm_64 hlocks
theorem hdX1_sufferPoison : yX1_sufferPoison.cls = RX1 ∧ yX1_sufferPoison.cls ≠ "java/lang/invoke/MethodHandle" ∧ yX1_sufferPoison.cls ≠ "java/lang/invoke/VarHandle" ∧ (parseMethodDescriptor yX1_sufferPoison.desc).map (fun d => d.parameters.length) = some 1 := by decide +kernel
set_option maxHeartbeats 4000000 in
set_option maxRecDepth 100000 in
theorem cX1_sufferPoison_ok (l : Launch) (G : va_G) (cI cG : ClassId) (a0 a1 a2 a3 a4 a5 a6 a7 a8 a9 : Nat) (fu : Nat) (ft : Tab) (er : Tab) (eb : Int32) (li : Tab) (st : Tab) (rd : Int32) (tu : Int32) (la : Int32) (dl : Bool) (sh : Int32) (tb : Int32) (p1 : Int32) (out : Tab × Tab) (hf : fX1_sufferPoison fu ft er sh p1 = some out) : CV l G (tyz cI cG) yX1_sufferPoison wsX1_sufferPoison ({ frames := 4, cells := 0, slots := 0, locals := 130 } : Room) [.ref a0, .int p1] [(a0, .inr (1, [.ref a1, .ref a3, .ref a6, .ref a8, .int rd, .int tu, .int la, .int (bI dl), .int sh, .int tb])), (a1, .inr (4, [.int ft.1, .ref a2, .int ft.2.2.2])), (a2, .inl (cI, ft.2.1, .inl ft.2.2.1)), (a3, .inr (0, [.ref a4, .int eb])), (a4, .inr (4, [.int er.1, .ref a5, .int er.2.2.2])), (a5, .inl (cI, er.2.1, .inl er.2.2.1)), (a6, .inr (4, [.int li.1, .ref a7, .int li.2.2.2])), (a7, .inl (cI, li.2.1, .inl li.2.2.1)), (a8, .inr (4, [.int st.1, .ref a9, .int st.2.2.2])), (a9, .inl (cI, st.2.1, .inl st.2.2.1))] [(a0, .inr (1, [.ref a1, .ref a3, .ref a6, .ref a8, .int rd, .int tu, .int la, .int (bI dl), .int sh, .int tb])), (a1, .inr (4, [.int out.1.1, .ref a2, .int out.1.2.2.2])), (a2, .inl (cI, out.1.2.1, .inl out.1.2.2.1)), (a3, .inr (0, [.ref a4, .int eb])), (a4, .inr (4, [.int out.2.1, .ref a5, .int out.2.2.2.2])), (a5, .inl (cI, out.2.2.1, .inl out.2.2.2.1)), (a6, .inr (4, [.int li.1, .ref a7, .int li.2.2.2])), (a7, .inl (cI, li.2.1, .inl li.2.2.1)), (a8, .inr (4, [.int st.1, .ref a9, .int st.2.2.2])), (a9, .inl (cI, st.2.1, .inl st.2.2.1))] := by
  intro sz
  refine Met.ofW (cc := cX1_sufferPoison) (maxL := 5) (ret := none) (by decide) rfl ?_
  intro p e s m args below meth c s₁ B hml hv
  obtain ⟨rfl, hsz, hP, hK, hD0⟩ := hv
  have hx := B.exec
  have hb := B.bytes
  have hr := B.returns
  have hts := atoms_spec (ws := wsX1_sufferPoison) B.pre
  have hown : s.vm.findClass RX1 = some m.cls := findClass_of_methodNamed B.named
  have hlocks := B.notSynchronized
  subst hsz
  have hD := hD0.self (sz := s.heap.size)
  generalize hAe : va_A ([(a0, .inr (1, [.ref a1, .ref a3, .ref a6, .ref a8, .int rd, .int tu, .int la, .int (bI dl), .int sh, .int tb])), (a1, .inr (4, [.int ft.1, .ref a2, .int ft.2.2.2])), (a2, .inl (cI, ft.2.1, .inl ft.2.2.1)), (a3, .inr (0, [.ref a4, .int eb])), (a4, .inr (4, [.int er.1, .ref a5, .int er.2.2.2])), (a5, .inl (cI, er.2.1, .inl er.2.2.1)), (a6, .inr (4, [.int li.1, .ref a7, .int li.2.2.2])), (a7, .inl (cI, li.2.1, .inl li.2.2.1)), (a8, .inr (4, [.int st.1, .ref a9, .int st.2.2.2])), (a9, .inl (cI, st.2.1, .inl st.2.2.1))]) s.heap.size = A at hD ⊢
  have hA : ∀ q : Nat, s.heap.size ≤ q → A q := fun q h => by rw [← hAe]; exact Or.inr h
  have hS : va_S A s.heap s.heap [] := va_S.rf
  have hw0 := hts (.fieldLink RX1 23 "SpeedTurns$Game" "effects" "LSpeedTurns$Effects;") (List.mem_of_getElem? (i := 1) rfl)
  show W p l e ({ frames := 4, cells := 0, slots := 0, locals := 130 } : Room) s m _ below meth c s.heap [] 0 0 _ _
  refine W_genQ (fun Q hQ => ?_)
  have L4 : ∀  (k : Nat) (ft : Tab) (er : Tab) (v2 : Int32) (v3 : Int32) (H : Heap) (locs : List Loc) (ls : Array Slot), fX1_sufferPoison_L4 fu sh p1 k ft er v2 v3 = some out → va_P G vwCl ([(a0, .inr (1, [.ref a1, .ref a3, .ref a6, .ref a8, .int rd, .int tu, .int la, .int (bI dl), .int sh, .int tb])), (a1, .inr (4, [.int ft.1, .ref a2, .int ft.2.2.2])), (a2, .inl (cI, ft.2.1, .inl ft.2.2.1)), (a3, .inr (0, [.ref a4, .int eb])), (a4, .inr (4, [.int er.1, .ref a5, .int er.2.2.2])), (a5, .inl (cI, er.2.1, .inl er.2.2.1)), (a6, .inr (4, [.int li.1, .ref a7, .int li.2.2.2])), (a7, .inl (cI, li.2.1, .inl li.2.2.1)), (a8, .inr (4, [.int st.1, .ref a9, .int st.2.2.2])), (a9, .inl (cI, st.2.1, .inl st.2.2.1))]) H → va_D A ([(a0, .inr (1, [.ref a1, .ref a3, .ref a6, .ref a8, .int rd, .int tu, .int la, .int (bI dl), .int sh, .int tb])), (a1, .inr (4, [.int ft.1, .ref a2, .int ft.2.2.2])), (a2, .inl (cI, ft.2.1, .inl ft.2.2.1)), (a3, .inr (0, [.ref a4, .int eb])), (a4, .inr (4, [.int er.1, .ref a5, .int er.2.2.2])), (a5, .inl (cI, er.2.1, .inl er.2.2.1)), (a6, .inr (4, [.int li.1, .ref a7, .int li.2.2.2])), (a7, .inl (cI, li.2.1, .inl li.2.2.1)), (a8, .inr (4, [.int st.1, .ref a9, .int st.2.2.2])), (a9, .inl (cI, st.2.1, .inl st.2.2.1))]) → va_S A s.heap H locs → lv_has ls 5 [(0, .ref a0), (1, .int p1), (2, .int v2), (3, .int v3)] → W p l e ({ frames := 4, cells := 0, slots := 0, locals := 130 } : Room) s m ([.ref a0, .int p1] : List Value).toArray below meth c H locs 0 0 Q (F0 m 4 ls []) := by
    intro  k
    induction k with
    | zero => intro ft er v2 v3 H locs ls h hP hD hS hl; rw [fX1_sufferPoison_L4] at h; exact o_n h
    | succ k ih =>
      intro ft er v2 v3 H locs ls h hP hD hS hl
      rw [fX1_sufferPoison_L4] at h
      refine lv_iload_n hx hb dX1_sufferPoison_4 rfl (lv_at hl 3 rfl) ?_
      refine lv_bipush (v := 30) hx hb dX1_sufferPoison_5 (by decide) ?_
      refine lv_icmp_ge (tgt := 59) hx hb dX1_sufferPoison_7 (by decide) (fun hc => ?_) (fun hc => ?_)
      · have h := o_t h hc
        obtain rfl := o_s h
        rw [hQ]
        exact end_v hx hb hr hP hD hS dX1_sufferPoison_59 hlocks
      · have h := o_f h hc
        refine lv_aload_n hx hb dX1_sufferPoison_10 rfl (lv_at hl 0 rfl) ?_
        refine va_get (D := G) (ci := 1) (v := .ref a3) (C := RX1) (T := TX1) (N := 10) hx hb hts huX1_sufferPoison_X1 hown hK.1 hP 0 rfl rfl 1 (by decide) hw0 (fun _ h9 => h9) rfl dX1_sufferPoison_11 ?_
        refine lv_iload_n hx hb dX1_sufferPoison_14 rfl (lv_at hl 1 rfl) ?_
        refine lv_iload_n hx hb dX1_sufferPoison_15 rfl (lv_at hl 2 rfl) ?_
        obtain ⟨x1, ex1, h⟩ := o_b h
        refine call_iV (As := [.int p1, .int v2]) (rest := []) (ws2 := [(a0, .inr (1, [.ref a1, .ref a3, .ref a6, .ref a8, .int rd, .int tu, .int la, .int (bI dl), .int sh, .int tb])), (a1, .inr (4, [.int ft.1, .ref a2, .int ft.2.2.2])), (a2, .inl (cI, ft.2.1, .inl ft.2.2.1)), (a3, .inr (0, [.ref a4, .int eb])), (a4, .inr (4, [.int er.1, .ref a5, .int er.2.2.2])), (a5, .inl (cI, er.2.1, .inl er.2.2.1)), (a6, .inr (4, [.int li.1, .ref a7, .int li.2.2.2])), (a7, .inl (cI, li.2.1, .inl li.2.2.1)), (a8, .inr (4, [.int st.1, .ref a9, .int st.2.2.2])), (a9, .inl (cI, st.2.1, .inl st.2.2.1))]) ⟨hx, hb, hml, hown, hts⟩ (cX0_poisonBornAfter_ok l G cI cG a3 a4 a5 fu er eb p1 v2 x1 ex1) (cwV 2 hts gX1_sufferPoison_X0_poisonBornAfter_144 rfl rfl rfl hdX0_poisonBornAfter ⟨Nat.le_of_ble_eq_true rfl, Nat.le_of_ble_eq_true rfl⟩) hP hD hS hA hK 0 rfl rfl rfl [3, 4, 5] rfl rfl rfl rfl rfl rfl rfl rfl hl.1 (Nat.le_of_ble_eq_true rfl) dX1_sufferPoison_16 ⟨Nat.zero_le _, Nat.zero_le _⟩ (fun H locs hP hD hS => ?_)
        refine lv_istore (lv' := [(4, .int x1), (0, .ref a0), (1, .int p1), (2, .int v2), (3, .int v3)]) hx hb dX1_sufferPoison_19 hl (by decide) rfl (fun ls hl => ?_)
        refine lv_iload hx hb dX1_sufferPoison_21 (lv_at hl 0 rfl) ?_
        refine lv_iconst (v := (-1)) hx hb dX1_sufferPoison_23 (by decide) ?_
        refine lv_icmp_ne (tgt := 28) hx hb dX1_sufferPoison_24 (by decide) (fun hc => ?_) (fun hc => ?_)
        · have h := o_f h hc
          refine lv_aload_n hx hb dX1_sufferPoison_28 rfl (lv_at hl 1 rfl) ?_
          refine va_get (D := G) (ci := 1) (v := .ref a3) (C := RX1) (T := TX1) (N := 10) hx hb hts huX1_sufferPoison_X1 hown hK.1 hP 0 rfl rfl 1 (by decide) hw0 (fun _ h9 => h9) rfl dX1_sufferPoison_29 ?_
          refine lv_iload hx hb dX1_sufferPoison_32 (lv_at hl 0 rfl) ?_
          obtain ⟨x2, ex2, h⟩ := o_b h
          refine call_iV (As := [.int x1]) (rest := []) (ws2 := [(a0, .inr (1, [.ref a1, .ref a3, .ref a6, .ref a8, .int rd, .int tu, .int la, .int (bI dl), .int sh, .int tb])), (a1, .inr (4, [.int ft.1, .ref a2, .int ft.2.2.2])), (a2, .inl (cI, ft.2.1, .inl ft.2.2.1)), (a3, .inr (0, [.ref a4, .int eb])), (a4, .inr (4, [.int er.1, .ref a5, .int er.2.2.2])), (a5, .inl (cI, er.2.1, .inl er.2.2.1)), (a6, .inr (4, [.int li.1, .ref a7, .int li.2.2.2])), (a7, .inl (cI, li.2.1, .inl li.2.2.1)), (a8, .inr (4, [.int st.1, .ref a9, .int st.2.2.2])), (a9, .inl (cI, st.2.1, .inl st.2.2.1))]) ⟨hx, hb, hml, hown, hts⟩ (cX0_birthOf_ok l G cI cG a3 a4 a5 er eb x1 x2 ex2) (cwV 1 hts gX1_sufferPoison_X0_birthOf_88 rfl rfl rfl hdX0_birthOf ⟨Nat.le_of_ble_eq_true rfl, Nat.le_of_ble_eq_true rfl⟩) hP hD hS hA hK 0 rfl rfl rfl [3, 4, 5] rfl rfl rfl rfl rfl rfl rfl rfl hl.1 (Nat.le_of_ble_eq_true rfl) dX1_sufferPoison_34 ⟨Nat.zero_le _, Nat.zero_le _⟩ (fun H locs hP hD hS => ?_)
          refine lv_istore_n (lv' := [(2, .int x2), (4, .int x1), (0, .ref a0), (1, .int p1), (3, .int v3)]) hx hb dX1_sufferPoison_37 rfl hl (by decide) rfl (fun ls hl => ?_)
          refine lv_aload_n hx hb dX1_sufferPoison_38 rfl (lv_at hl 2 rfl) ?_
          refine lv_iload_n hx hb dX1_sufferPoison_39 rfl (lv_at hl 3 rfl) ?_
          refine lv_aload_n hx hb dX1_sufferPoison_40 rfl (lv_at hl 2 rfl) ?_
          refine va_get (D := G) (ci := 1) (v := .ref a3) (C := RX1) (T := TX1) (N := 10) hx hb hts huX1_sufferPoison_X1 hown hK.1 hP 0 rfl rfl 1 (by decide) hw0 (fun _ h9 => h9) rfl dX1_sufferPoison_41 ?_
          refine lv_iload hx hb dX1_sufferPoison_44 (lv_at hl 1 rfl) ?_
          refine lv_iconst (v := 1) hx hb dX1_sufferPoison_46 (by decide) ?_
          obtain ⟨x3, ex3, h⟩ := o_b h
          refine call_iV (As := [.int x1, .int (1 : Int32)]) (rest := [.int p1, .ref a0]) (ws2 := [(a0, .inr (1, [.ref a1, .ref a3, .ref a6, .ref a8, .int rd, .int tu, .int la, .int (bI dl), .int sh, .int tb])), (a1, .inr (4, [.int ft.1, .ref a2, .int ft.2.2.2])), (a2, .inl (cI, ft.2.1, .inl ft.2.2.1)), (a3, .inr (0, [.ref a4, .int eb])), (a4, .inr (4, [.int er.1, .ref a5, .int er.2.2.2])), (a5, .inl (cI, er.2.1, .inl er.2.2.1)), (a6, .inr (4, [.int li.1, .ref a7, .int li.2.2.2])), (a7, .inl (cI, li.2.1, .inl li.2.2.1)), (a8, .inr (4, [.int st.1, .ref a9, .int st.2.2.2])), (a9, .inl (cI, st.2.1, .inl st.2.2.1))]) ⟨hx, hb, hml, hown, hts⟩ (cX0_about_ok l G cI cG a3 a4 a5 er eb x1 (1 : Int32) x3 ex3) (cwV 2 hts gX1_sufferPoison_X0_about_85 rfl rfl rfl hdX0_about ⟨Nat.le_of_ble_eq_true rfl, Nat.le_of_ble_eq_true rfl⟩) hP hD hS hA hK 0 rfl rfl rfl [3, 4, 5] rfl rfl rfl rfl rfl rfl rfl rfl hl.1 (Nat.le_of_ble_eq_true rfl) dX1_sufferPoison_47 ⟨Nat.zero_le _, Nat.zero_le _⟩ (fun H locs hP hD hS => ?_)
          obtain ⟨x4, ex4, h⟩ := o_b h
          refine call_vV (As := [.int p1, .int x3]) (rest := []) (ws2 := [(a0, .inr (1, [.ref a1, .ref a3, .ref a6, .ref a8, .int rd, .int tu, .int la, .int (bI dl), .int sh, .int tb])), (a1, .inr (4, [.int x4.1.1, .ref a2, .int x4.1.2.2.2])), (a2, .inl (cI, x4.1.2.1, .inl x4.1.2.2.1)), (a3, .inr (0, [.ref a4, .int eb])), (a4, .inr (4, [.int x4.2.1, .ref a5, .int x4.2.2.2.2])), (a5, .inl (cI, x4.2.2.1, .inl x4.2.2.2.1)), (a6, .inr (4, [.int li.1, .ref a7, .int li.2.2.2])), (a7, .inl (cI, li.2.1, .inl li.2.2.1)), (a8, .inr (4, [.int st.1, .ref a9, .int st.2.2.2])), (a9, .inl (cI, st.2.1, .inl st.2.2.1))]) ⟨hx, hb, hml, hown, hts⟩ (cX1_harm_ok l G cI cG a0 a1 a2 a3 a4 a5 a6 a7 a8 a9 fu ft er eb li st rd tu la dl sh tb p1 x3 x4 ex4) (cwV 2 hts gX1_sufferPoison_X1_harm_147 rfl rfl rfl hdX1_harm ⟨Nat.le_of_ble_eq_true rfl, Nat.le_of_ble_eq_true rfl⟩) hP hD hS hA hK 1 rfl rfl rfl [0, 1, 2, 3, 4, 5, 6, 7, 8, 9] rfl rfl rfl rfl rfl rfl rfl rfl hl.1 (Nat.le_of_ble_eq_true rfl) dX1_sufferPoison_50 ⟨Nat.zero_le _, Nat.zero_le _⟩ (fun H locs hP hD hS => ?_)
          refine lv_iinc (v := (v3 + 1)) (lv' := [(3, .int (v3 + 1)), (2, .int x2), (4, .int x1), (0, .ref a0), (1, .int p1)]) hx hb dX1_sufferPoison_53 hl (k := 4) rfl rfl (by decide) rfl (fun ls hl => ?_)
          refine lv_goto (tgt := 4) hx hb dX1_sufferPoison_56 (by decide) ?_
          exact ih x4.1 x4.2 x2 (v3 + 1) _ _ _ h hP hD hS (lv_sub hl [3, 4, 1, 0] rfl)
        · have h := o_t h hc
          obtain rfl := o_s h
          rw [hQ]
          exact end_v hx hb hr hP hD hS dX1_sufferPoison_27 hlocks
  have h := hf
  rw [fX1_sufferPoison] at h
  have hl := lv_entry ([.ref a0, .int p1]) (n := 5) (Nat.le_of_ble_eq_true rfl)
  rw [lg_entry_eq]
  generalize (lg_sl ([.ref a0, .int p1]) ++ List.replicate (5 - (lg_sl ([.ref a0, .int p1])).length) Slot.unset).toArray = ls at hl ⊢
  have hl : lv_has ls 5 [(0, .ref a0), (1, .int p1)] := hl
  refine lv_iconst (v := (-1)) hx hb dX1_sufferPoison_0 (by decide) ?_
  refine lv_istore_n (lv' := [(2, .int (-1 : Int32)), (0, .ref a0), (1, .int p1)]) hx hb dX1_sufferPoison_1 rfl hl (by decide) rfl (fun ls hl => ?_)
  refine lv_iconst (v := 0) hx hb dX1_sufferPoison_2 (by decide) ?_
  refine lv_istore_n (lv' := [(3, .int (0 : Int32)), (2, .int (-1 : Int32)), (0, .ref a0), (1, .int p1)]) hx hb dX1_sufferPoison_3 rfl hl (by decide) rfl (fun ls hl => ?_)
  exact L4 fu ft er (-1 : Int32) (0 : Int32) _ _ _ h hP hD hS (lv_sub hl [2, 3, 1, 0] rfl)
theorem hdX1_endTurn : yX1_endTurn.cls = RX1 ∧ yX1_endTurn.cls ≠ "java/lang/invoke/MethodHandle" ∧ yX1_endTurn.cls ≠ "java/lang/invoke/VarHandle" ∧ (parseMethodDescriptor yX1_endTurn.desc).map (fun d => d.parameters.length) = some 0 := by decide +kernel
set_option maxHeartbeats 4000000 in
set_option maxRecDepth 100000 in
theorem cX1_endTurn_ok (l : Launch) (G : va_G) (cI cG : ClassId) (a0 a1 a2 a3 a4 a5 a6 a7 a8 a9 : Nat) (fu : Nat) (ft : Tab) (er : Tab) (eb : Int32) (li : Tab) (st : Tab) (rd : Int32) (tu : Int32) (la : Int32) (dl : Bool) (sh : Int32) (tb : Int32) (out : Int32 × Tab × Int32) (hf : fX1_endTurn fu er tu = some out) : CI l G (tyz cI cG) yX1_endTurn wsX1_endTurn ({ frames := 3, cells := 0, slots := 0, locals := 108 } : Room) [.ref a0] [(a0, .inr (1, [.ref a1, .ref a3, .ref a6, .ref a8, .int rd, .int tu, .int la, .int (bI dl), .int sh, .int tb])), (a1, .inr (4, [.int ft.1, .ref a2, .int ft.2.2.2])), (a2, .inl (cI, ft.2.1, .inl ft.2.2.1)), (a3, .inr (0, [.ref a4, .int eb])), (a4, .inr (4, [.int er.1, .ref a5, .int er.2.2.2])), (a5, .inl (cI, er.2.1, .inl er.2.2.1)), (a6, .inr (4, [.int li.1, .ref a7, .int li.2.2.2])), (a7, .inl (cI, li.2.1, .inl li.2.2.1)), (a8, .inr (4, [.int st.1, .ref a9, .int st.2.2.2])), (a9, .inl (cI, st.2.1, .inl st.2.2.1))] out.1 [(a0, .inr (1, [.ref a1, .ref a3, .ref a6, .ref a8, .int rd, .int out.2.2, .int la, .int (bI dl), .int sh, .int tb])), (a1, .inr (4, [.int ft.1, .ref a2, .int ft.2.2.2])), (a2, .inl (cI, ft.2.1, .inl ft.2.2.1)), (a3, .inr (0, [.ref a4, .int eb])), (a4, .inr (4, [.int out.2.1.1, .ref a5, .int out.2.1.2.2.2])), (a5, .inl (cI, out.2.1.2.1, .inl out.2.1.2.2.1)), (a6, .inr (4, [.int li.1, .ref a7, .int li.2.2.2])), (a7, .inl (cI, li.2.1, .inl li.2.2.1)), (a8, .inr (4, [.int st.1, .ref a9, .int st.2.2.2])), (a9, .inl (cI, st.2.1, .inl st.2.2.1))] := by
  intro sz
  refine Met.ofW (cc := cX1_endTurn) (maxL := 2) (ret := (some .int)) (by decide) rfl ?_
  intro p e s m args below meth c s₁ B hml hv
  obtain ⟨rfl, hsz, hP, hK, hD0⟩ := hv
  have hx := B.exec
  have hb := B.bytes
  have hr := B.returns
  have hts := atoms_spec (ws := wsX1_endTurn) B.pre
  have hown : s.vm.findClass RX1 = some m.cls := findClass_of_methodNamed B.named
  have hlocks := B.notSynchronized
  subst hsz
  have hD := hD0.self (sz := s.heap.size)
  generalize hAe : va_A ([(a0, .inr (1, [.ref a1, .ref a3, .ref a6, .ref a8, .int rd, .int tu, .int la, .int (bI dl), .int sh, .int tb])), (a1, .inr (4, [.int ft.1, .ref a2, .int ft.2.2.2])), (a2, .inl (cI, ft.2.1, .inl ft.2.2.1)), (a3, .inr (0, [.ref a4, .int eb])), (a4, .inr (4, [.int er.1, .ref a5, .int er.2.2.2])), (a5, .inl (cI, er.2.1, .inl er.2.2.1)), (a6, .inr (4, [.int li.1, .ref a7, .int li.2.2.2])), (a7, .inl (cI, li.2.1, .inl li.2.2.1)), (a8, .inr (4, [.int st.1, .ref a9, .int st.2.2.2])), (a9, .inl (cI, st.2.1, .inl st.2.2.1))]) s.heap.size = A at hD ⊢
  have hA : ∀ q : Nat, s.heap.size ≤ q → A q := fun q h => by rw [← hAe]; exact Or.inr h
  have hS : va_S A s.heap s.heap [] := va_S.rf
  have hw0 := hts (.fieldLink RX1 23 "SpeedTurns$Game" "effects" "LSpeedTurns$Effects;") (List.mem_of_getElem? (i := 1) rfl)
  have hw1 := hts (.fieldLink RX1 37 "SpeedTurns$Game" "turn" "I") (List.mem_of_getElem? (i := 2) rfl)
  show W p l e ({ frames := 3, cells := 0, slots := 0, locals := 108 } : Room) s m _ below meth c s.heap [] 0 0 _ _
  refine W_genQ (fun Q hQ => ?_)
  have h := hf
  rw [fX1_endTurn] at h
  have hl := lv_entry ([.ref a0]) (n := 2) (Nat.le_of_ble_eq_true rfl)
  rw [lg_entry_eq]
  generalize (lg_sl ([.ref a0]) ++ List.replicate (2 - (lg_sl ([.ref a0])).length) Slot.unset).toArray = ls at hl ⊢
  have hl : lv_has ls 2 [(0, .ref a0)] := hl
  refine lv_aload_n hx hb dX1_endTurn_0 rfl (lv_at hl 0 rfl) ?_
  refine va_get (D := G) (ci := 1) (v := .ref a3) (C := RX1) (T := TX1) (N := 10) hx hb hts huX1_endTurn_X1 hown hK.1 hP 0 rfl rfl 1 (by decide) hw0 (fun _ h9 => h9) rfl dX1_endTurn_1 ?_
  refine lv_aload_n hx hb dX1_endTurn_4 rfl (lv_at hl 0 rfl) ?_
  refine va_get (D := G) (ci := 1) (v := .int tu) (C := RX1) (T := TX1) (N := 10) hx hb hts huX1_endTurn_X1 hown hK.1 hP 0 rfl rfl 5 (by decide) hw1 (fun _ h9 => h9) rfl dX1_endTurn_5 ?_
  obtain ⟨x1, ex1, h⟩ := o_b h
  refine call_iV (As := [.int tu]) (rest := []) (ws2 := [(a0, .inr (1, [.ref a1, .ref a3, .ref a6, .ref a8, .int rd, .int tu, .int la, .int (bI dl), .int sh, .int tb])), (a1, .inr (4, [.int ft.1, .ref a2, .int ft.2.2.2])), (a2, .inl (cI, ft.2.1, .inl ft.2.2.1)), (a3, .inr (0, [.ref a4, .int eb])), (a4, .inr (4, [.int x1.2.1, .ref a5, .int x1.2.2.2.2])), (a5, .inl (cI, x1.2.2.1, .inl x1.2.2.2.1)), (a6, .inr (4, [.int li.1, .ref a7, .int li.2.2.2])), (a7, .inl (cI, li.2.1, .inl li.2.2.1)), (a8, .inr (4, [.int st.1, .ref a9, .int st.2.2.2])), (a9, .inl (cI, st.2.1, .inl st.2.2.1))]) ⟨hx, hb, hml, hown, hts⟩ (cX0_countDown_ok l G cI cG a3 a4 a5 fu er eb tu x1 ex1) (cwV 1 hts gX1_endTurn_X0_countDown_159 rfl rfl rfl hdX0_countDown ⟨Nat.le_of_ble_eq_true rfl, Nat.le_of_ble_eq_true rfl⟩) hP hD hS hA hK 0 rfl rfl rfl [3, 4, 5] rfl rfl rfl rfl rfl rfl rfl rfl hl.1 (Nat.le_of_ble_eq_true rfl) dX1_endTurn_8 ⟨Nat.zero_le _, Nat.zero_le _⟩ (fun H locs hP hD hS => ?_)
  refine lv_istore_n (lv' := [(1, .int x1.1), (0, .ref a0)]) hx hb dX1_endTurn_11 rfl hl (by decide) rfl (fun ls hl => ?_)
  refine lv_aload_n hx hb dX1_endTurn_12 rfl (lv_at hl 1 rfl) ?_
  refine lv_iconst (v := (-1)) hx hb dX1_endTurn_13 (by decide) ?_
  refine va_put (D := G) (ci := 1) (v := .int (-1 : Int32)) (ty := .int) (C := RX1) (T := TX1) (N := 10) hx hb hts huX1_endTurn_X1 tyX1 tyX1_ok nmX1 hown hK.1 hP hD hS 0 rfl rfl 5 (by decide) hw1 (fun _ h9 => h9) rfl (by decide +kernel) rfl rfl (Nat.le_of_ble_eq_true rfl) dX1_endTurn_14 (fun H locs hP hD hS => ?_)
  have hP : va_P G vwCl ([(a0, .inr (1, [.ref a1, .ref a3, .ref a6, .ref a8, .int rd, .int (-1 : Int32), .int la, .int (bI dl), .int sh, .int tb])), (a1, .inr (4, [.int ft.1, .ref a2, .int ft.2.2.2])), (a2, .inl (cI, ft.2.1, .inl ft.2.2.1)), (a3, .inr (0, [.ref a4, .int eb])), (a4, .inr (4, [.int x1.2.1, .ref a5, .int x1.2.2.2.2])), (a5, .inl (cI, x1.2.2.1, .inl x1.2.2.2.1)), (a6, .inr (4, [.int li.1, .ref a7, .int li.2.2.2])), (a7, .inl (cI, li.2.1, .inl li.2.2.1)), (a8, .inr (4, [.int st.1, .ref a9, .int st.2.2.2])), (a9, .inl (cI, st.2.1, .inl st.2.2.1))]) H := hP
  have hD : va_D A ([(a0, .inr (1, [.ref a1, .ref a3, .ref a6, .ref a8, .int rd, .int (-1 : Int32), .int la, .int (bI dl), .int sh, .int tb])), (a1, .inr (4, [.int ft.1, .ref a2, .int ft.2.2.2])), (a2, .inl (cI, ft.2.1, .inl ft.2.2.1)), (a3, .inr (0, [.ref a4, .int eb])), (a4, .inr (4, [.int x1.2.1, .ref a5, .int x1.2.2.2.2])), (a5, .inl (cI, x1.2.2.1, .inl x1.2.2.2.1)), (a6, .inr (4, [.int li.1, .ref a7, .int li.2.2.2])), (a7, .inl (cI, li.2.1, .inl li.2.2.1)), (a8, .inr (4, [.int st.1, .ref a9, .int st.2.2.2])), (a9, .inl (cI, st.2.1, .inl st.2.2.1))]) := hD
  refine lv_iload_n hx hb dX1_endTurn_17 rfl (lv_at hl 0 rfl) ?_
  obtain rfl := o_s h
  rw [hQ]
  exact end_i hx hb hr rfl hP hD hS dX1_endTurn_18 hlocks
theorem hdX1_beginTurn : yX1_beginTurn.cls = RX1 ∧ yX1_beginTurn.cls ≠ "java/lang/invoke/MethodHandle" ∧ yX1_beginTurn.cls ≠ "java/lang/invoke/VarHandle" ∧ (parseMethodDescriptor yX1_beginTurn.desc).map (fun d => d.parameters.length) = some 0 := by decide +kernel
set_option maxHeartbeats 4000000 in
set_option maxRecDepth 100000 in
theorem cX1_beginTurn_ok (l : Launch) (G : va_G) (cI cG : ClassId) (a0 a1 a2 a3 a4 a5 a6 a7 a8 a9 : Nat) (fu : Nat) (ft : Tab) (er : Tab) (eb : Int32) (li : Tab) (st : Tab) (rd : Int32) (tu : Int32) (la : Int32) (dl : Bool) (sh : Int32) (tb : Int32) (out : Int32 × Tab × Tab × Tab × Int32 × Int32 × Int32 × Bool × Int32) (hf : fX1_beginTurn fu ft er li rd tu la dl sh tb = some out) : CI l G (tyz cI cG) yX1_beginTurn wsX1_beginTurn ({ frames := 5, cells := 0, slots := 0, locals := 154 } : Room) [.ref a0] [(a0, .inr (1, [.ref a1, .ref a3, .ref a6, .ref a8, .int rd, .int tu, .int la, .int (bI dl), .int sh, .int tb])), (a1, .inr (4, [.int ft.1, .ref a2, .int ft.2.2.2])), (a2, .inl (cI, ft.2.1, .inl ft.2.2.1)), (a3, .inr (0, [.ref a4, .int eb])), (a4, .inr (4, [.int er.1, .ref a5, .int er.2.2.2])), (a5, .inl (cI, er.2.1, .inl er.2.2.1)), (a6, .inr (4, [.int li.1, .ref a7, .int li.2.2.2])), (a7, .inl (cI, li.2.1, .inl li.2.2.1)), (a8, .inr (4, [.int st.1, .ref a9, .int st.2.2.2])), (a9, .inl (cI, st.2.1, .inl st.2.2.1))] out.1 [(a0, .inr (1, [.ref a1, .ref a3, .ref a6, .ref a8, .int out.2.2.2.2.1, .int out.2.2.2.2.2.1, .int out.2.2.2.2.2.2.1, .int (bI out.2.2.2.2.2.2.2.1), .int sh, .int out.2.2.2.2.2.2.2.2])), (a1, .inr (4, [.int out.2.1.1, .ref a2, .int out.2.1.2.2.2])), (a2, .inl (cI, out.2.1.2.1, .inl out.2.1.2.2.1)), (a3, .inr (0, [.ref a4, .int eb])), (a4, .inr (4, [.int out.2.2.1.1, .ref a5, .int out.2.2.1.2.2.2])), (a5, .inl (cI, out.2.2.1.2.1, .inl out.2.2.1.2.2.1)), (a6, .inr (4, [.int out.2.2.2.1.1, .ref a7, .int out.2.2.2.1.2.2.2])), (a7, .inl (cI, out.2.2.2.1.2.1, .inl out.2.2.2.1.2.2.1)), (a8, .inr (4, [.int st.1, .ref a9, .int st.2.2.2])), (a9, .inl (cI, st.2.1, .inl st.2.2.1))] := by
  intro sz
  refine Met.ofW (cc := cX1_beginTurn) (maxL := 2) (ret := (some .int)) (by decide) rfl ?_
  intro p e s m args below meth c s₁ B hml hv
  obtain ⟨rfl, hsz, hP, hK, hD0⟩ := hv
  have hx := B.exec
  have hb := B.bytes
  have hr := B.returns
  have hts := atoms_spec (ws := wsX1_beginTurn) B.pre
  have hown : s.vm.findClass RX1 = some m.cls := findClass_of_methodNamed B.named
  have hlocks := B.notSynchronized
  subst hsz
  have hD := hD0.self (sz := s.heap.size)
  generalize hAe : va_A ([(a0, .inr (1, [.ref a1, .ref a3, .ref a6, .ref a8, .int rd, .int tu, .int la, .int (bI dl), .int sh, .int tb])), (a1, .inr (4, [.int ft.1, .ref a2, .int ft.2.2.2])), (a2, .inl (cI, ft.2.1, .inl ft.2.2.1)), (a3, .inr (0, [.ref a4, .int eb])), (a4, .inr (4, [.int er.1, .ref a5, .int er.2.2.2])), (a5, .inl (cI, er.2.1, .inl er.2.2.1)), (a6, .inr (4, [.int li.1, .ref a7, .int li.2.2.2])), (a7, .inl (cI, li.2.1, .inl li.2.2.1)), (a8, .inr (4, [.int st.1, .ref a9, .int st.2.2.2])), (a9, .inl (cI, st.2.1, .inl st.2.2.1))]) s.heap.size = A at hD ⊢
  have hA : ∀ q : Nat, s.heap.size ≤ q → A q := fun q h => by rw [← hAe]; exact Or.inr h
  have hS : va_S A s.heap s.heap [] := va_S.rf
  have hw0 := hts (.fieldLink RX1 43 "SpeedTurns$Game" "delayable" "Z") (List.mem_of_getElem? (i := 8) rfl)
  have hw1 := hts (.fieldLink RX1 50 "SpeedTurns$Game" "turnsBegun" "I") (List.mem_of_getElem? (i := 9) rfl)
  have hw2 := hts (.fieldLink RX1 16 "SpeedTurns$Game" "fighters" "LSpeedTurns$Table;") (List.mem_of_getElem? (i := 10) rfl)
  have hw3 := hts (.fieldLink RX1 23 "SpeedTurns$Game" "effects" "LSpeedTurns$Effects;") (List.mem_of_getElem? (i := 21) rfl)
  have hw4 := hts (.fieldLink RX1 37 "SpeedTurns$Game" "turn" "I") (List.mem_of_getElem? (i := 29) rfl)
  show W p l e ({ frames := 5, cells := 0, slots := 0, locals := 154 } : Room) s m _ below meth c s.heap [] 0 0 _ _
  refine W_genQ (fun Q hQ => ?_)
  have J19 : ∀ (li : Tab) (rd : Int32) (v1 : Int32) (H : Heap) (locs : List Loc) (ls : Array Slot), fX1_beginTurn_J19 fu ft er tu la dl sh tb li rd v1 = some out → va_P G vwCl ([(a0, .inr (1, [.ref a1, .ref a3, .ref a6, .ref a8, .int rd, .int tu, .int la, .int (bI dl), .int sh, .int tb])), (a1, .inr (4, [.int ft.1, .ref a2, .int ft.2.2.2])), (a2, .inl (cI, ft.2.1, .inl ft.2.2.1)), (a3, .inr (0, [.ref a4, .int eb])), (a4, .inr (4, [.int er.1, .ref a5, .int er.2.2.2])), (a5, .inl (cI, er.2.1, .inl er.2.2.1)), (a6, .inr (4, [.int li.1, .ref a7, .int li.2.2.2])), (a7, .inl (cI, li.2.1, .inl li.2.2.1)), (a8, .inr (4, [.int st.1, .ref a9, .int st.2.2.2])), (a9, .inl (cI, st.2.1, .inl st.2.2.1))]) H → va_D A ([(a0, .inr (1, [.ref a1, .ref a3, .ref a6, .ref a8, .int rd, .int tu, .int la, .int (bI dl), .int sh, .int tb])), (a1, .inr (4, [.int ft.1, .ref a2, .int ft.2.2.2])), (a2, .inl (cI, ft.2.1, .inl ft.2.2.1)), (a3, .inr (0, [.ref a4, .int eb])), (a4, .inr (4, [.int er.1, .ref a5, .int er.2.2.2])), (a5, .inl (cI, er.2.1, .inl er.2.2.1)), (a6, .inr (4, [.int li.1, .ref a7, .int li.2.2.2])), (a7, .inl (cI, li.2.1, .inl li.2.2.1)), (a8, .inr (4, [.int st.1, .ref a9, .int st.2.2.2])), (a9, .inl (cI, st.2.1, .inl st.2.2.1))]) → va_S A s.heap H locs → lv_has ls 2 [(0, .ref a0), (1, .int v1)] → W p l e ({ frames := 5, cells := 0, slots := 0, locals := 154 } : Room) s m ([.ref a0] : List Value).toArray below meth c H locs 0 0 Q (F0 m 19 ls []) := by
    intro li rd v1 H locs ls h hP hD hS hl
    rw [fX1_beginTurn_J19] at h
    refine lv_iload_n hx hb dX1_beginTurn_19 rfl (lv_at hl 1 rfl) ?_
    refine lv_iconst (v := (-1)) hx hb dX1_beginTurn_20 (by decide) ?_
    refine lv_icmp_ne (tgt := 26) hx hb dX1_beginTurn_21 (by decide) (fun hc => ?_) (fun hc => ?_)
    · have h := o_f h hc
      refine lv_aload_n hx hb dX1_beginTurn_26 rfl (lv_at hl 0 rfl) ?_
      refine lv_iload_n hx hb dX1_beginTurn_27 rfl (lv_at hl 1 rfl) ?_
      obtain ⟨x2, ex2, h⟩ := o_b h
      refine call_vV (As := [.int v1]) (rest := []) (ws2 := [(a0, .inr (1, [.ref a1, .ref a3, .ref a6, .ref a8, .int rd, .int x2.2.1, .int x2.2.2, .int (bI dl), .int sh, .int tb])), (a1, .inr (4, [.int ft.1, .ref a2, .int ft.2.2.2])), (a2, .inl (cI, ft.2.1, .inl ft.2.2.1)), (a3, .inr (0, [.ref a4, .int eb])), (a4, .inr (4, [.int er.1, .ref a5, .int er.2.2.2])), (a5, .inl (cI, er.2.1, .inl er.2.2.1)), (a6, .inr (4, [.int x2.1.1, .ref a7, .int x2.1.2.2.2])), (a7, .inl (cI, x2.1.2.1, .inl x2.1.2.2.1)), (a8, .inr (4, [.int st.1, .ref a9, .int st.2.2.2])), (a9, .inl (cI, st.2.1, .inl st.2.2.1))]) ⟨hx, hb, hml, hown, hts⟩ (cX1_takeTurn_ok l G cI cG a0 a1 a2 a3 a4 a5 a6 a7 a8 a9 fu ft er eb li st rd tu la dl sh tb v1 x2 ex2) (cwV 1 hts gX1_beginTurn_X1_takeTurn_129 rfl rfl rfl hdX1_takeTurn ⟨Nat.le_of_ble_eq_true rfl, Nat.le_of_ble_eq_true rfl⟩) hP hD hS hA hK 1 rfl rfl rfl [0, 1, 2, 3, 4, 5, 6, 7, 8, 9] rfl rfl rfl rfl rfl rfl rfl rfl hl.1 (Nat.le_of_ble_eq_true rfl) dX1_beginTurn_28 ⟨Nat.zero_le _, Nat.zero_le _⟩ (fun H locs hP hD hS => ?_)
      refine lv_aload_n hx hb dX1_beginTurn_31 rfl (lv_at hl 0 rfl) ?_
      refine lv_iconst (v := 1) hx hb dX1_beginTurn_32 (by decide) ?_
      refine va_put (D := G) (ci := 1) (v := .int (1 : Int32)) (ty := .boolean) (C := RX1) (T := TX1) (N := 10) hx hb hts huX1_beginTurn_X1 tyX1 tyX1_ok nmX1 hown hK.1 hP hD hS 0 rfl rfl 7 (by decide) hw0 (fun _ h9 => h9) rfl (by decide +kernel) rfl rfl (Nat.le_of_ble_eq_true rfl) dX1_beginTurn_33 (fun H locs hP hD hS => ?_)
      have hP : va_P G vwCl ([(a0, .inr (1, [.ref a1, .ref a3, .ref a6, .ref a8, .int rd, .int x2.2.1, .int x2.2.2, .int (bI true), .int sh, .int tb])), (a1, .inr (4, [.int ft.1, .ref a2, .int ft.2.2.2])), (a2, .inl (cI, ft.2.1, .inl ft.2.2.1)), (a3, .inr (0, [.ref a4, .int eb])), (a4, .inr (4, [.int er.1, .ref a5, .int er.2.2.2])), (a5, .inl (cI, er.2.1, .inl er.2.2.1)), (a6, .inr (4, [.int x2.1.1, .ref a7, .int x2.1.2.2.2])), (a7, .inl (cI, x2.1.2.1, .inl x2.1.2.2.1)), (a8, .inr (4, [.int st.1, .ref a9, .int st.2.2.2])), (a9, .inl (cI, st.2.1, .inl st.2.2.1))]) H := hP
      have hD : va_D A ([(a0, .inr (1, [.ref a1, .ref a3, .ref a6, .ref a8, .int rd, .int x2.2.1, .int x2.2.2, .int (bI true), .int sh, .int tb])), (a1, .inr (4, [.int ft.1, .ref a2, .int ft.2.2.2])), (a2, .inl (cI, ft.2.1, .inl ft.2.2.1)), (a3, .inr (0, [.ref a4, .int eb])), (a4, .inr (4, [.int er.1, .ref a5, .int er.2.2.2])), (a5, .inl (cI, er.2.1, .inl er.2.2.1)), (a6, .inr (4, [.int x2.1.1, .ref a7, .int x2.1.2.2.2])), (a7, .inl (cI, x2.1.2.1, .inl x2.1.2.2.1)), (a8, .inr (4, [.int st.1, .ref a9, .int st.2.2.2])), (a9, .inl (cI, st.2.1, .inl st.2.2.1))]) := hD
      refine lv_aload_n hx hb dX1_beginTurn_36 rfl (lv_at hl 0 rfl) ?_
      refine lv_dup hx hb dX1_beginTurn_37 rfl ?_
      refine va_get (D := G) (ci := 1) (v := .int tb) (C := RX1) (T := TX1) (N := 10) hx hb hts huX1_beginTurn_X1 hown hK.1 hP 0 rfl rfl 9 (by decide) hw1 (fun _ h9 => h9) rfl dX1_beginTurn_38 ?_
      refine lv_iconst (v := 1) hx hb dX1_beginTurn_41 (by decide) ?_
      refine lv_iadd hx hb dX1_beginTurn_42 ?_
      refine va_put (D := G) (ci := 1) (v := .int (tb + (1 : Int32))) (ty := .int) (C := RX1) (T := TX1) (N := 10) hx hb hts huX1_beginTurn_X1 tyX1 tyX1_ok nmX1 hown hK.1 hP hD hS 0 rfl rfl 9 (by decide) hw1 (fun _ h9 => h9) rfl (by decide +kernel) rfl rfl (Nat.le_of_ble_eq_true rfl) dX1_beginTurn_43 (fun H locs hP hD hS => ?_)
      have hP : va_P G vwCl ([(a0, .inr (1, [.ref a1, .ref a3, .ref a6, .ref a8, .int rd, .int x2.2.1, .int x2.2.2, .int (bI true), .int sh, .int (tb + (1 : Int32))])), (a1, .inr (4, [.int ft.1, .ref a2, .int ft.2.2.2])), (a2, .inl (cI, ft.2.1, .inl ft.2.2.1)), (a3, .inr (0, [.ref a4, .int eb])), (a4, .inr (4, [.int er.1, .ref a5, .int er.2.2.2])), (a5, .inl (cI, er.2.1, .inl er.2.2.1)), (a6, .inr (4, [.int x2.1.1, .ref a7, .int x2.1.2.2.2])), (a7, .inl (cI, x2.1.2.1, .inl x2.1.2.2.1)), (a8, .inr (4, [.int st.1, .ref a9, .int st.2.2.2])), (a9, .inl (cI, st.2.1, .inl st.2.2.1))]) H := hP
      have hD : va_D A ([(a0, .inr (1, [.ref a1, .ref a3, .ref a6, .ref a8, .int rd, .int x2.2.1, .int x2.2.2, .int (bI true), .int sh, .int (tb + (1 : Int32))])), (a1, .inr (4, [.int ft.1, .ref a2, .int ft.2.2.2])), (a2, .inl (cI, ft.2.1, .inl ft.2.2.1)), (a3, .inr (0, [.ref a4, .int eb])), (a4, .inr (4, [.int er.1, .ref a5, .int er.2.2.2])), (a5, .inl (cI, er.2.1, .inl er.2.2.1)), (a6, .inr (4, [.int x2.1.1, .ref a7, .int x2.1.2.2.2])), (a7, .inl (cI, x2.1.2.1, .inl x2.1.2.2.1)), (a8, .inr (4, [.int st.1, .ref a9, .int st.2.2.2])), (a9, .inl (cI, st.2.1, .inl st.2.2.1))]) := hD
      refine lv_aload_n hx hb dX1_beginTurn_46 rfl (lv_at hl 0 rfl) ?_
      refine va_get (D := G) (ci := 1) (v := .ref a1) (C := RX1) (T := TX1) (N := 10) hx hb hts huX1_beginTurn_X1 hown hK.1 hP 0 rfl rfl 0 (by decide) hw2 (fun _ h9 => h9) rfl dX1_beginTurn_47 ?_
      refine lv_iload_n hx hb dX1_beginTurn_50 rfl (lv_at hl 1 rfl) ?_
      refine lv_iconst (v := 3) hx hb dX1_beginTurn_51 (by decide) ?_
      refine lv_iconst (v := 1) hx hb dX1_beginTurn_52 (by decide) ?_
      obtain ⟨x3, ex3, h⟩ := o_b h
      refine call_vV (As := [.int v1, .int (3 : Int32), .int (1 : Int32)]) (rest := []) (ws2 := [(a0, .inr (1, [.ref a1, .ref a3, .ref a6, .ref a8, .int rd, .int x2.2.1, .int x2.2.2, .int (bI true), .int sh, .int (tb + (1 : Int32))])), (a1, .inr (4, [.int x3.1, .ref a2, .int x3.2.2.2])), (a2, .inl (cI, x3.2.1, .inl x3.2.2.1)), (a3, .inr (0, [.ref a4, .int eb])), (a4, .inr (4, [.int er.1, .ref a5, .int er.2.2.2])), (a5, .inl (cI, er.2.1, .inl er.2.2.1)), (a6, .inr (4, [.int x2.1.1, .ref a7, .int x2.1.2.2.2])), (a7, .inl (cI, x2.1.2.1, .inl x2.1.2.2.1)), (a8, .inr (4, [.int st.1, .ref a9, .int st.2.2.2])), (a9, .inl (cI, st.2.1, .inl st.2.2.1))]) ⟨hx, hb, hml, hown, hts⟩ (cX4_put_ok l G cI cG a1 a2 ft v1 (3 : Int32) (1 : Int32) x3 ex3) (cwV 3 hts gX1_beginTurn_X4_put_119 rfl rfl rfl hdX4_put ⟨Nat.le_of_ble_eq_true rfl, Nat.le_of_ble_eq_true rfl⟩) hP hD hS hA hK 4 rfl rfl rfl [1, 2] rfl rfl rfl rfl rfl rfl rfl rfl hl.1 (Nat.le_of_ble_eq_true rfl) dX1_beginTurn_53 ⟨Nat.zero_le _, Nat.zero_le _⟩ (fun H locs hP hD hS => ?_)
      refine lv_aload_n hx hb dX1_beginTurn_56 rfl (lv_at hl 0 rfl) ?_
      refine lv_iload_n hx hb dX1_beginTurn_57 rfl (lv_at hl 1 rfl) ?_
      obtain ⟨x4, ex4, h⟩ := o_b h
      refine call_vV (As := [.int v1]) (rest := []) (ws2 := [(a0, .inr (1, [.ref a1, .ref a3, .ref a6, .ref a8, .int rd, .int x2.2.1, .int x2.2.2, .int (bI true), .int sh, .int (tb + (1 : Int32))])), (a1, .inr (4, [.int x4.1.1, .ref a2, .int x4.1.2.2.2])), (a2, .inl (cI, x4.1.2.1, .inl x4.1.2.2.1)), (a3, .inr (0, [.ref a4, .int eb])), (a4, .inr (4, [.int x4.2.1, .ref a5, .int x4.2.2.2.2])), (a5, .inl (cI, x4.2.2.1, .inl x4.2.2.2.1)), (a6, .inr (4, [.int x2.1.1, .ref a7, .int x2.1.2.2.2])), (a7, .inl (cI, x2.1.2.1, .inl x2.1.2.2.1)), (a8, .inr (4, [.int st.1, .ref a9, .int st.2.2.2])), (a9, .inl (cI, st.2.1, .inl st.2.2.1))]) ⟨hx, hb, hml, hown, hts⟩ (cX1_sufferPoison_ok l G cI cG a0 a1 a2 a3 a4 a5 a6 a7 a8 a9 fu x3 er eb x2.1 st rd x2.2.1 x2.2.2 true sh (tb + (1 : Int32)) v1 x4 ex4) (cwV 1 hts gX1_beginTurn_X1_sufferPoison_132 rfl rfl rfl hdX1_sufferPoison ⟨Nat.le_of_ble_eq_true rfl, Nat.le_of_ble_eq_true rfl⟩) hP hD hS hA hK 1 rfl rfl rfl [0, 1, 2, 3, 4, 5, 6, 7, 8, 9] rfl rfl rfl rfl rfl rfl rfl rfl hl.1 (Nat.le_of_ble_eq_true rfl) dX1_beginTurn_58 ⟨Nat.zero_le _, Nat.zero_le _⟩ (fun H locs hP hD hS => ?_)
      refine lv_aload_n hx hb dX1_beginTurn_61 rfl (lv_at hl 0 rfl) ?_
      refine lv_iload_n hx hb dX1_beginTurn_62 rfl (lv_at hl 1 rfl) ?_
      obtain ⟨x5, ex5, h⟩ := o_b h
      refine call_iV (As := [.int v1]) (rest := []) (ws2 := [(a0, .inr (1, [.ref a1, .ref a3, .ref a6, .ref a8, .int rd, .int x2.2.1, .int x2.2.2, .int (bI true), .int sh, .int (tb + (1 : Int32))])), (a1, .inr (4, [.int x4.1.1, .ref a2, .int x4.1.2.2.2])), (a2, .inl (cI, x4.1.2.1, .inl x4.1.2.2.1)), (a3, .inr (0, [.ref a4, .int eb])), (a4, .inr (4, [.int x4.2.1, .ref a5, .int x4.2.2.2.2])), (a5, .inl (cI, x4.2.2.1, .inl x4.2.2.2.1)), (a6, .inr (4, [.int x2.1.1, .ref a7, .int x2.1.2.2.2])), (a7, .inl (cI, x2.1.2.1, .inl x2.1.2.2.1)), (a8, .inr (4, [.int st.1, .ref a9, .int st.2.2.2])), (a9, .inl (cI, st.2.1, .inl st.2.2.1))]) ⟨hx, hb, hml, hown, hts⟩ (cX1_stands_ok l G cI cG a0 a1 a2 a3 a4 a5 a6 a7 a8 a9 x4.1 x4.2 eb x2.1 st rd x2.2.1 x2.2.2 true sh (tb + (1 : Int32)) v1 x5 ex5) (cwV 1 hts gX1_beginTurn_X1_stands_104 rfl rfl rfl hdX1_stands ⟨Nat.le_of_ble_eq_true rfl, Nat.le_of_ble_eq_true rfl⟩) hP hD hS hA hK 1 rfl rfl rfl [0, 1, 2, 3, 4, 5, 6, 7, 8, 9] rfl rfl rfl rfl rfl rfl rfl rfl hl.1 (Nat.le_of_ble_eq_true rfl) dX1_beginTurn_63 ⟨Nat.zero_le _, Nat.zero_le _⟩ (fun H locs hP hD hS => ?_)
      refine lv_if_ne (tgt := 77) hx hb dX1_beginTurn_66 (by decide) (fun hc => ?_) (fun hc => ?_)
      · have h := o_f h hc
        refine lv_aload_n hx hb dX1_beginTurn_77 rfl (lv_at hl 0 rfl) ?_
        refine va_get (D := G) (ci := 1) (v := .ref a3) (C := RX1) (T := TX1) (N := 10) hx hb hts huX1_beginTurn_X1 hown hK.1 hP 0 rfl rfl 1 (by decide) hw3 (fun _ h9 => h9) rfl dX1_beginTurn_78 ?_
        refine lv_iload_n hx hb dX1_beginTurn_81 rfl (lv_at hl 1 rfl) ?_
        refine lv_iconst (v := 4) hx hb dX1_beginTurn_82 (by decide) ?_
        obtain ⟨x6, ex6, h⟩ := o_b h
        refine call_iV (As := [.int v1, .int (4 : Int32)]) (rest := []) (ws2 := [(a0, .inr (1, [.ref a1, .ref a3, .ref a6, .ref a8, .int rd, .int x2.2.1, .int x2.2.2, .int (bI true), .int sh, .int (tb + (1 : Int32))])), (a1, .inr (4, [.int x4.1.1, .ref a2, .int x4.1.2.2.2])), (a2, .inl (cI, x4.1.2.1, .inl x4.1.2.2.1)), (a3, .inr (0, [.ref a4, .int eb])), (a4, .inr (4, [.int x4.2.1, .ref a5, .int x4.2.2.2.2])), (a5, .inl (cI, x4.2.2.1, .inl x4.2.2.2.1)), (a6, .inr (4, [.int x2.1.1, .ref a7, .int x2.1.2.2.2])), (a7, .inl (cI, x2.1.2.1, .inl x2.1.2.2.1)), (a8, .inr (4, [.int st.1, .ref a9, .int st.2.2.2])), (a9, .inl (cI, st.2.1, .inl st.2.2.1))]) ⟨hx, hb, hml, hown, hts⟩ (cX0_powerOn_ok l G cI cG a3 a4 a5 fu x4.2 eb v1 (4 : Int32) x6 ex6) (cwV 2 hts gX1_beginTurn_X0_powerOn_107 rfl rfl rfl hdX0_powerOn ⟨Nat.le_of_ble_eq_true rfl, Nat.le_of_ble_eq_true rfl⟩) hP hD hS hA hK 0 rfl rfl rfl [3, 4, 5] rfl rfl rfl rfl rfl rfl rfl rfl hl.1 (Nat.le_of_ble_eq_true rfl) dX1_beginTurn_83 ⟨Nat.zero_le _, Nat.zero_le _⟩ (fun H locs hP hD hS => ?_)
        refine lv_if_le (tgt := 94) hx hb dX1_beginTurn_86 (by decide) (fun hc => ?_) (fun hc => ?_)
        · have h := o_t h hc
          refine lv_iload_n hx hb dX1_beginTurn_94 rfl (lv_at hl 1 rfl) ?_
          obtain rfl := o_s h
          rw [hQ]
          exact end_i hx hb hr rfl hP hD hS dX1_beginTurn_95 hlocks
        · have h := o_f h hc
          refine lv_aload_n hx hb dX1_beginTurn_89 rfl (lv_at hl 0 rfl) ?_
          obtain ⟨x7, ex7, h⟩ := o_b h
          refine call_iV (As := []) (rest := []) (ws2 := [(a0, .inr (1, [.ref a1, .ref a3, .ref a6, .ref a8, .int rd, .int x7.2.2, .int x2.2.2, .int (bI true), .int sh, .int (tb + (1 : Int32))])), (a1, .inr (4, [.int x4.1.1, .ref a2, .int x4.1.2.2.2])), (a2, .inl (cI, x4.1.2.1, .inl x4.1.2.2.1)), (a3, .inr (0, [.ref a4, .int eb])), (a4, .inr (4, [.int x7.2.1.1, .ref a5, .int x7.2.1.2.2.2])), (a5, .inl (cI, x7.2.1.2.1, .inl x7.2.1.2.2.1)), (a6, .inr (4, [.int x2.1.1, .ref a7, .int x2.1.2.2.2])), (a7, .inl (cI, x2.1.2.1, .inl x2.1.2.2.1)), (a8, .inr (4, [.int st.1, .ref a9, .int st.2.2.2])), (a9, .inl (cI, st.2.1, .inl st.2.2.1))]) ⟨hx, hb, hml, hown, hts⟩ (cX1_endTurn_ok l G cI cG a0 a1 a2 a3 a4 a5 a6 a7 a8 a9 fu x4.1 x4.2 eb x2.1 st rd x2.2.1 x2.2.2 true sh (tb + (1 : Int32)) x7 ex7) (cwV 0 hts gX1_beginTurn_X1_endTurn_135 rfl rfl rfl hdX1_endTurn ⟨Nat.le_of_ble_eq_true rfl, Nat.le_of_ble_eq_true rfl⟩) hP hD hS hA hK 1 rfl rfl rfl [0, 1, 2, 3, 4, 5, 6, 7, 8, 9] rfl rfl rfl rfl rfl rfl rfl rfl hl.1 (Nat.le_of_ble_eq_true rfl) dX1_beginTurn_90 ⟨Nat.zero_le _, Nat.zero_le _⟩ (fun H locs hP hD hS => ?_)
          refine lv_pop hx hb dX1_beginTurn_93 rfl ?_
          refine lv_iload_n hx hb dX1_beginTurn_94 rfl (lv_at hl 1 rfl) ?_
          obtain rfl := o_s h
          rw [hQ]
          exact end_i hx hb hr rfl hP hD hS dX1_beginTurn_95 hlocks
      · have h := o_t h hc
        refine lv_aload_n hx hb dX1_beginTurn_69 rfl (lv_at hl 0 rfl) ?_
        refine lv_iconst (v := (-1)) hx hb dX1_beginTurn_70 (by decide) ?_
        refine va_put (D := G) (ci := 1) (v := .int (-1 : Int32)) (ty := .int) (C := RX1) (T := TX1) (N := 10) hx hb hts huX1_beginTurn_X1 tyX1 tyX1_ok nmX1 hown hK.1 hP hD hS 0 rfl rfl 5 (by decide) hw4 (fun _ h9 => h9) rfl (by decide +kernel) rfl rfl (Nat.le_of_ble_eq_true rfl) dX1_beginTurn_71 (fun H locs hP hD hS => ?_)
        have hP : va_P G vwCl ([(a0, .inr (1, [.ref a1, .ref a3, .ref a6, .ref a8, .int rd, .int (-1 : Int32), .int x2.2.2, .int (bI true), .int sh, .int (tb + (1 : Int32))])), (a1, .inr (4, [.int x4.1.1, .ref a2, .int x4.1.2.2.2])), (a2, .inl (cI, x4.1.2.1, .inl x4.1.2.2.1)), (a3, .inr (0, [.ref a4, .int eb])), (a4, .inr (4, [.int x4.2.1, .ref a5, .int x4.2.2.2.2])), (a5, .inl (cI, x4.2.2.1, .inl x4.2.2.2.1)), (a6, .inr (4, [.int x2.1.1, .ref a7, .int x2.1.2.2.2])), (a7, .inl (cI, x2.1.2.1, .inl x2.1.2.2.1)), (a8, .inr (4, [.int st.1, .ref a9, .int st.2.2.2])), (a9, .inl (cI, st.2.1, .inl st.2.2.1))]) H := hP
        have hD : va_D A ([(a0, .inr (1, [.ref a1, .ref a3, .ref a6, .ref a8, .int rd, .int (-1 : Int32), .int x2.2.2, .int (bI true), .int sh, .int (tb + (1 : Int32))])), (a1, .inr (4, [.int x4.1.1, .ref a2, .int x4.1.2.2.2])), (a2, .inl (cI, x4.1.2.1, .inl x4.1.2.2.1)), (a3, .inr (0, [.ref a4, .int eb])), (a4, .inr (4, [.int x4.2.1, .ref a5, .int x4.2.2.2.2])), (a5, .inl (cI, x4.2.2.1, .inl x4.2.2.2.1)), (a6, .inr (4, [.int x2.1.1, .ref a7, .int x2.1.2.2.2])), (a7, .inl (cI, x2.1.2.1, .inl x2.1.2.2.1)), (a8, .inr (4, [.int st.1, .ref a9, .int st.2.2.2])), (a9, .inl (cI, st.2.1, .inl st.2.2.1))]) := hD
        refine lv_goto (tgt := 94) hx hb dX1_beginTurn_74 (by decide) ?_
        refine lv_iload_n hx hb dX1_beginTurn_94 rfl (lv_at hl 1 rfl) ?_
        obtain rfl := o_s h
        rw [hQ]
        exact end_i hx hb hr rfl hP hD hS dX1_beginTurn_95 hlocks
    · have h := o_t h hc
      refine lv_iconst (v := (-1)) hx hb dX1_beginTurn_24 (by decide) ?_
      obtain rfl := o_s h
      rw [hQ]
      exact end_i hx hb hr rfl hP hD hS dX1_beginTurn_25 hlocks
  have h := hf
  rw [fX1_beginTurn] at h
  have hl := lv_entry ([.ref a0]) (n := 2) (Nat.le_of_ble_eq_true rfl)
  rw [lg_entry_eq]
  generalize (lg_sl ([.ref a0]) ++ List.replicate (2 - (lg_sl ([.ref a0])).length) Slot.unset).toArray = ls at hl ⊢
  have hl : lv_has ls 2 [(0, .ref a0)] := hl
  refine lv_aload_n hx hb dX1_beginTurn_0 rfl (lv_at hl 0 rfl) ?_
  obtain ⟨x1, ex1, h⟩ := o_b h
  refine call_iV (As := []) (rest := []) (ws2 := [(a0, .inr (1, [.ref a1, .ref a3, .ref a6, .ref a8, .int rd, .int tu, .int la, .int (bI dl), .int sh, .int tb])), (a1, .inr (4, [.int ft.1, .ref a2, .int ft.2.2.2])), (a2, .inl (cI, ft.2.1, .inl ft.2.2.1)), (a3, .inr (0, [.ref a4, .int eb])), (a4, .inr (4, [.int er.1, .ref a5, .int er.2.2.2])), (a5, .inl (cI, er.2.1, .inl er.2.2.1)), (a6, .inr (4, [.int li.1, .ref a7, .int li.2.2.2])), (a7, .inl (cI, li.2.1, .inl li.2.2.1)), (a8, .inr (4, [.int st.1, .ref a9, .int st.2.2.2])), (a9, .inl (cI, st.2.1, .inl st.2.2.1))]) ⟨hx, hb, hml, hown, hts⟩ (cX1_firstWaiting_ok l G cI cG a0 a1 a2 a3 a4 a5 a6 a7 a8 a9 fu ft er eb li st rd tu la dl sh tb x1 ex1) (cwV 0 hts gX1_beginTurn_X1_firstWaiting_123 rfl rfl rfl hdX1_firstWaiting ⟨Nat.le_of_ble_eq_true rfl, Nat.le_of_ble_eq_true rfl⟩) hP hD hS hA hK 1 rfl rfl rfl [0, 1, 2, 3, 4, 5, 6, 7, 8, 9] rfl rfl rfl rfl rfl rfl rfl rfl hl.1 (Nat.le_of_ble_eq_true rfl) dX1_beginTurn_1 ⟨Nat.zero_le _, Nat.zero_le _⟩ (fun H locs hP hD hS => ?_)
  refine lv_istore_n (lv' := [(1, .int x1), (0, .ref a0)]) hx hb dX1_beginTurn_4 rfl hl (by decide) rfl (fun ls hl => ?_)
  refine lv_iload_n hx hb dX1_beginTurn_5 rfl (lv_at hl 0 rfl) ?_
  refine lv_iconst (v := (-1)) hx hb dX1_beginTurn_6 (by decide) ?_
  refine lv_icmp_ne (tgt := 19) hx hb dX1_beginTurn_7 (by decide) (fun hc => ?_) (fun hc => ?_)
  · have h := o_f h hc
    exact J19 li rd x1 _ _ _ h hP hD hS (lv_sub hl [1, 0] rfl)
  · have h := o_t h hc
    refine lv_aload_n hx hb dX1_beginTurn_10 rfl (lv_at hl 1 rfl) ?_
    obtain ⟨x8, ex8, h⟩ := o_b h
    refine call_vV (As := []) (rest := []) (ws2 := [(a0, .inr (1, [.ref a1, .ref a3, .ref a6, .ref a8, .int x8.2, .int tu, .int la, .int (bI dl), .int sh, .int tb])), (a1, .inr (4, [.int ft.1, .ref a2, .int ft.2.2.2])), (a2, .inl (cI, ft.2.1, .inl ft.2.2.1)), (a3, .inr (0, [.ref a4, .int eb])), (a4, .inr (4, [.int er.1, .ref a5, .int er.2.2.2])), (a5, .inl (cI, er.2.1, .inl er.2.2.1)), (a6, .inr (4, [.int x8.1.1, .ref a7, .int x8.1.2.2.2])), (a7, .inl (cI, x8.1.2.1, .inl x8.1.2.2.1)), (a8, .inr (4, [.int st.1, .ref a9, .int st.2.2.2])), (a9, .inl (cI, st.2.1, .inl st.2.2.1))]) ⟨hx, hb, hml, hown, hts⟩ (cX1_beginRound_ok l G cI cG a0 a1 a2 a3 a4 a5 a6 a7 a8 a9 fu ft er eb li st rd tu la dl sh tb x8 ex8) (cwV 0 hts gX1_beginTurn_X1_beginRound_126 rfl rfl rfl hdX1_beginRound ⟨Nat.le_of_ble_eq_true rfl, Nat.le_of_ble_eq_true rfl⟩) hP hD hS hA hK 1 rfl rfl rfl [0, 1, 2, 3, 4, 5, 6, 7, 8, 9] rfl rfl rfl rfl rfl rfl rfl rfl hl.1 (Nat.le_of_ble_eq_true rfl) dX1_beginTurn_11 ⟨Nat.zero_le _, Nat.zero_le _⟩ (fun H locs hP hD hS => ?_)
    refine lv_aload_n hx hb dX1_beginTurn_14 rfl (lv_at hl 1 rfl) ?_
    obtain ⟨x9, ex9, h⟩ := o_b h
    refine call_iV (As := []) (rest := []) (ws2 := [(a0, .inr (1, [.ref a1, .ref a3, .ref a6, .ref a8, .int x8.2, .int tu, .int la, .int (bI dl), .int sh, .int tb])), (a1, .inr (4, [.int ft.1, .ref a2, .int ft.2.2.2])), (a2, .inl (cI, ft.2.1, .inl ft.2.2.1)), (a3, .inr (0, [.ref a4, .int eb])), (a4, .inr (4, [.int er.1, .ref a5, .int er.2.2.2])), (a5, .inl (cI, er.2.1, .inl er.2.2.1)), (a6, .inr (4, [.int x8.1.1, .ref a7, .int x8.1.2.2.2])), (a7, .inl (cI, x8.1.2.1, .inl x8.1.2.2.1)), (a8, .inr (4, [.int st.1, .ref a9, .int st.2.2.2])), (a9, .inl (cI, st.2.1, .inl st.2.2.1))]) ⟨hx, hb, hml, hown, hts⟩ (cX1_firstWaiting_ok l G cI cG a0 a1 a2 a3 a4 a5 a6 a7 a8 a9 fu ft er eb x8.1 st x8.2 tu la dl sh tb x9 ex9) (cwV 0 hts gX1_beginTurn_X1_firstWaiting_123 rfl rfl rfl hdX1_firstWaiting ⟨Nat.le_of_ble_eq_true rfl, Nat.le_of_ble_eq_true rfl⟩) hP hD hS hA hK 1 rfl rfl rfl [0, 1, 2, 3, 4, 5, 6, 7, 8, 9] rfl rfl rfl rfl rfl rfl rfl rfl hl.1 (Nat.le_of_ble_eq_true rfl) dX1_beginTurn_15 ⟨Nat.zero_le _, Nat.zero_le _⟩ (fun H locs hP hD hS => ?_)
    refine lv_istore_n (lv' := [(1, .int x9), (0, .ref a0)]) hx hb dX1_beginTurn_18 rfl hl (by decide) rfl (fun ls hl => ?_)
    exact J19 x8.1 x8.2 x9 _ _ _ h hP hD hS (lv_sub hl [1, 0] rfl)
theorem hdX1_mayEndTurn : yX1_mayEndTurn.cls = RX1 ∧ yX1_mayEndTurn.cls ≠ "java/lang/invoke/MethodHandle" ∧ yX1_mayEndTurn.cls ≠ "java/lang/invoke/VarHandle" ∧ (parseMethodDescriptor yX1_mayEndTurn.desc).map (fun d => d.parameters.length) = some 0 := by decide +kernel
set_option maxHeartbeats 4000000 in
set_option maxRecDepth 100000 in
theorem cX1_mayEndTurn_ok (l : Launch) (G : va_G) (cI cG : ClassId) (a0 a1 a2 a3 a4 a5 a6 a7 a8 a9 : Nat) (ft : Tab) (er : Tab) (eb : Int32) (li : Tab) (st : Tab) (rd : Int32) (tu : Int32) (la : Int32) (dl : Bool) (sh : Int32) (tb : Int32) (out : Bool) (hf : fX1_mayEndTurn st tu = some out) : CI l G (tyz cI cG) yX1_mayEndTurn wsX1_mayEndTurn ({ frames := 1, cells := 0, slots := 0, locals := 20 } : Room) [.ref a0] [(a0, .inr (1, [.ref a1, .ref a3, .ref a6, .ref a8, .int rd, .int tu, .int la, .int (bI dl), .int sh, .int tb])), (a1, .inr (4, [.int ft.1, .ref a2, .int ft.2.2.2])), (a2, .inl (cI, ft.2.1, .inl ft.2.2.1)), (a3, .inr (0, [.ref a4, .int eb])), (a4, .inr (4, [.int er.1, .ref a5, .int er.2.2.2])), (a5, .inl (cI, er.2.1, .inl er.2.2.1)), (a6, .inr (4, [.int li.1, .ref a7, .int li.2.2.2])), (a7, .inl (cI, li.2.1, .inl li.2.2.1)), (a8, .inr (4, [.int st.1, .ref a9, .int st.2.2.2])), (a9, .inl (cI, st.2.1, .inl st.2.2.1))] (bI out) [(a0, .inr (1, [.ref a1, .ref a3, .ref a6, .ref a8, .int rd, .int tu, .int la, .int (bI dl), .int sh, .int tb])), (a1, .inr (4, [.int ft.1, .ref a2, .int ft.2.2.2])), (a2, .inl (cI, ft.2.1, .inl ft.2.2.1)), (a3, .inr (0, [.ref a4, .int eb])), (a4, .inr (4, [.int er.1, .ref a5, .int er.2.2.2])), (a5, .inl (cI, er.2.1, .inl er.2.2.1)), (a6, .inr (4, [.int li.1, .ref a7, .int li.2.2.2])), (a7, .inl (cI, li.2.1, .inl li.2.2.1)), (a8, .inr (4, [.int st.1, .ref a9, .int st.2.2.2])), (a9, .inl (cI, st.2.1, .inl st.2.2.1))] := by
  intro sz
  refine Met.ofW (cc := cX1_mayEndTurn) (maxL := 1) (ret := (some .boolean)) (by decide) rfl ?_
  intro p e s m args below meth c s₁ B hml hv
  obtain ⟨rfl, hsz, hP, hK, hD0⟩ := hv
  have hx := B.exec
  have hb := B.bytes
  have hr := B.returns
  have hts := atoms_spec (ws := wsX1_mayEndTurn) B.pre
  have hown : s.vm.findClass RX1 = some m.cls := findClass_of_methodNamed B.named
  have hlocks := B.notSynchronized
  subst hsz
  have hD := hD0.self (sz := s.heap.size)
  generalize hAe : va_A ([(a0, .inr (1, [.ref a1, .ref a3, .ref a6, .ref a8, .int rd, .int tu, .int la, .int (bI dl), .int sh, .int tb])), (a1, .inr (4, [.int ft.1, .ref a2, .int ft.2.2.2])), (a2, .inl (cI, ft.2.1, .inl ft.2.2.1)), (a3, .inr (0, [.ref a4, .int eb])), (a4, .inr (4, [.int er.1, .ref a5, .int er.2.2.2])), (a5, .inl (cI, er.2.1, .inl er.2.2.1)), (a6, .inr (4, [.int li.1, .ref a7, .int li.2.2.2])), (a7, .inl (cI, li.2.1, .inl li.2.2.1)), (a8, .inr (4, [.int st.1, .ref a9, .int st.2.2.2])), (a9, .inl (cI, st.2.1, .inl st.2.2.1))]) s.heap.size = A at hD ⊢
  have hA : ∀ q : Nat, s.heap.size ≤ q → A q := fun q h => by rw [← hAe]; exact Or.inr h
  have hS : va_S A s.heap s.heap [] := va_S.rf
  have hw0 := hts (.fieldLink RX1 37 "SpeedTurns$Game" "turn" "I") (List.mem_of_getElem? (i := 1) rfl)
  have hw1 := hts (.fieldLink RX1 30 "SpeedTurns$Game" "stack" "LSpeedTurns$Table;") (List.mem_of_getElem? (i := 2) rfl)
  show W p l e ({ frames := 1, cells := 0, slots := 0, locals := 20 } : Room) s m _ below meth c s.heap [] 0 0 _ _
  refine W_genQ (fun Q hQ => ?_)
  have h := hf
  rw [fX1_mayEndTurn] at h
  have hl := lv_entry ([.ref a0]) (n := 1) (Nat.le_of_ble_eq_true rfl)
  rw [lg_entry_eq]
  generalize (lg_sl ([.ref a0]) ++ List.replicate (1 - (lg_sl ([.ref a0])).length) Slot.unset).toArray = ls at hl ⊢
  have hl : lv_has ls 1 [(0, .ref a0)] := hl
  refine lv_aload_n hx hb dX1_mayEndTurn_0 rfl (lv_at hl 0 rfl) ?_
  refine va_get (D := G) (ci := 1) (v := .int tu) (C := RX1) (T := TX1) (N := 10) hx hb hts huX1_mayEndTurn_X1 hown hK.1 hP 0 rfl rfl 5 (by decide) hw0 (fun _ h9 => h9) rfl dX1_mayEndTurn_1 ?_
  refine lv_iconst (v := (-1)) hx hb dX1_mayEndTurn_4 (by decide) ?_
  refine lv_icmp_eq (tgt := 22) hx hb dX1_mayEndTurn_5 (by decide) (fun hc => ?_) (fun hc => ?_)
  · have h := o_t h hc
    refine lv_iconst (v := 0) hx hb dX1_mayEndTurn_22 (by decide) ?_
    obtain rfl := o_s h
    rw [hQ]
    exact end_z hx hb hr rfl rfl hP hD hS dX1_mayEndTurn_23 hlocks
  · have h := o_f h hc
    refine lv_aload_n hx hb dX1_mayEndTurn_8 rfl (lv_at hl 0 rfl) ?_
    refine va_get (D := G) (ci := 1) (v := .ref a8) (C := RX1) (T := TX1) (N := 10) hx hb hts huX1_mayEndTurn_X1 hown hK.1 hP 0 rfl rfl 3 (by decide) hw1 (fun _ h9 => h9) rfl dX1_mayEndTurn_9 ?_
    obtain ⟨x1, ex1, h⟩ := o_b h
    refine call_iV (As := []) (rest := []) (ws2 := [(a0, .inr (1, [.ref a1, .ref a3, .ref a6, .ref a8, .int rd, .int tu, .int la, .int (bI dl), .int sh, .int tb])), (a1, .inr (4, [.int ft.1, .ref a2, .int ft.2.2.2])), (a2, .inl (cI, ft.2.1, .inl ft.2.2.1)), (a3, .inr (0, [.ref a4, .int eb])), (a4, .inr (4, [.int er.1, .ref a5, .int er.2.2.2])), (a5, .inl (cI, er.2.1, .inl er.2.2.1)), (a6, .inr (4, [.int li.1, .ref a7, .int li.2.2.2])), (a7, .inl (cI, li.2.1, .inl li.2.2.1)), (a8, .inr (4, [.int st.1, .ref a9, .int st.2.2.2])), (a9, .inl (cI, st.2.1, .inl st.2.2.1))]) ⟨hx, hb, hml, hown, hts⟩ (cX4_count_ok l G cI cG a8 a9 st x1 ex1) (cwV 0 hts gX1_mayEndTurn_X4_count_60 rfl rfl rfl hdX4_count ⟨Nat.le_of_ble_eq_true rfl, Nat.le_of_ble_eq_true rfl⟩) hP hD hS hA hK 4 rfl rfl rfl [8, 9] rfl rfl rfl rfl rfl rfl rfl rfl hl.1 (Nat.le_of_ble_eq_true rfl) dX1_mayEndTurn_12 ⟨Nat.zero_le _, Nat.zero_le _⟩ (fun H locs hP hD hS => ?_)
    refine lv_if_ne (tgt := 22) hx hb dX1_mayEndTurn_15 (by decide) (fun hc => ?_) (fun hc => ?_)
    · have h := o_f h hc
      refine lv_iconst (v := 0) hx hb dX1_mayEndTurn_22 (by decide) ?_
      obtain rfl := o_s h
      rw [hQ]
      exact end_z hx hb hr rfl rfl hP hD hS dX1_mayEndTurn_23 hlocks
    · have h := o_t h hc
      refine lv_iconst (v := 1) hx hb dX1_mayEndTurn_18 (by decide) ?_
      refine lv_goto (tgt := 23) hx hb dX1_mayEndTurn_19 (by decide) ?_
      obtain rfl := o_s h
      rw [hQ]
      exact end_z hx hb hr rfl rfl hP hD hS dX1_mayEndTurn_23 hlocks
theorem hdX1_mayDelayTurn : yX1_mayDelayTurn.cls = RX1 ∧ yX1_mayDelayTurn.cls ≠ "java/lang/invoke/MethodHandle" ∧ yX1_mayDelayTurn.cls ≠ "java/lang/invoke/VarHandle" ∧ (parseMethodDescriptor yX1_mayDelayTurn.desc).map (fun d => d.parameters.length) = some 0 := by decide +kernel
set_option maxHeartbeats 4000000 in
set_option maxRecDepth 100000 in
theorem cX1_mayDelayTurn_ok (l : Launch) (G : va_G) (cI cG : ClassId) (a0 a1 a2 a3 a4 a5 a6 a7 a8 a9 : Nat) (ft : Tab) (er : Tab) (eb : Int32) (li : Tab) (st : Tab) (rd : Int32) (tu : Int32) (la : Int32) (dl : Bool) (sh : Int32) (tb : Int32) (out : Bool) (hf : fX1_mayDelayTurn tu dl = some out) : CI l G (tyz cI cG) yX1_mayDelayTurn wsX1_mayDelayTurn ({ frames := 0, cells := 0, slots := 0, locals := 0 } : Room) [.ref a0] [(a0, .inr (1, [.ref a1, .ref a3, .ref a6, .ref a8, .int rd, .int tu, .int la, .int (bI dl), .int sh, .int tb])), (a1, .inr (4, [.int ft.1, .ref a2, .int ft.2.2.2])), (a2, .inl (cI, ft.2.1, .inl ft.2.2.1)), (a3, .inr (0, [.ref a4, .int eb])), (a4, .inr (4, [.int er.1, .ref a5, .int er.2.2.2])), (a5, .inl (cI, er.2.1, .inl er.2.2.1)), (a6, .inr (4, [.int li.1, .ref a7, .int li.2.2.2])), (a7, .inl (cI, li.2.1, .inl li.2.2.1)), (a8, .inr (4, [.int st.1, .ref a9, .int st.2.2.2])), (a9, .inl (cI, st.2.1, .inl st.2.2.1))] (bI out) [(a0, .inr (1, [.ref a1, .ref a3, .ref a6, .ref a8, .int rd, .int tu, .int la, .int (bI dl), .int sh, .int tb])), (a1, .inr (4, [.int ft.1, .ref a2, .int ft.2.2.2])), (a2, .inl (cI, ft.2.1, .inl ft.2.2.1)), (a3, .inr (0, [.ref a4, .int eb])), (a4, .inr (4, [.int er.1, .ref a5, .int er.2.2.2])), (a5, .inl (cI, er.2.1, .inl er.2.2.1)), (a6, .inr (4, [.int li.1, .ref a7, .int li.2.2.2])), (a7, .inl (cI, li.2.1, .inl li.2.2.1)), (a8, .inr (4, [.int st.1, .ref a9, .int st.2.2.2])), (a9, .inl (cI, st.2.1, .inl st.2.2.1))] := by
  intro sz
  refine Met.ofW (cc := cX1_mayDelayTurn) (maxL := 1) (ret := (some .boolean)) (by decide) rfl ?_
  intro p e s m args below meth c s₁ B hml hv
  obtain ⟨rfl, hsz, hP, hK, hD0⟩ := hv
  have hx := B.exec
  have hb := B.bytes
  have hr := B.returns
  have hts := atoms_spec (ws := wsX1_mayDelayTurn) B.pre
  have hown : s.vm.findClass RX1 = some m.cls := findClass_of_methodNamed B.named
  have hlocks := B.notSynchronized
  subst hsz
  have hD := hD0.self (sz := s.heap.size)
  generalize hAe : va_A ([(a0, .inr (1, [.ref a1, .ref a3, .ref a6, .ref a8, .int rd, .int tu, .int la, .int (bI dl), .int sh, .int tb])), (a1, .inr (4, [.int ft.1, .ref a2, .int ft.2.2.2])), (a2, .inl (cI, ft.2.1, .inl ft.2.2.1)), (a3, .inr (0, [.ref a4, .int eb])), (a4, .inr (4, [.int er.1, .ref a5, .int er.2.2.2])), (a5, .inl (cI, er.2.1, .inl er.2.2.1)), (a6, .inr (4, [.int li.1, .ref a7, .int li.2.2.2])), (a7, .inl (cI, li.2.1, .inl li.2.2.1)), (a8, .inr (4, [.int st.1, .ref a9, .int st.2.2.2])), (a9, .inl (cI, st.2.1, .inl st.2.2.1))]) s.heap.size = A at hD ⊢
  have hA : ∀ q : Nat, s.heap.size ≤ q → A q := fun q h => by rw [← hAe]; exact Or.inr h
  have hS : va_S A s.heap s.heap [] := va_S.rf
  have hw0 := hts (.fieldLink RX1 37 "SpeedTurns$Game" "turn" "I") (List.mem_of_getElem? (i := 1) rfl)
  have hw1 := hts (.fieldLink RX1 43 "SpeedTurns$Game" "delayable" "Z") (List.mem_of_getElem? (i := 2) rfl)
  show W p l e ({ frames := 0, cells := 0, slots := 0, locals := 0 } : Room) s m _ below meth c s.heap [] 0 0 _ _
  refine W_genQ (fun Q hQ => ?_)
  have h := hf
  rw [fX1_mayDelayTurn] at h
  have hl := lv_entry ([.ref a0]) (n := 1) (Nat.le_of_ble_eq_true rfl)
  rw [lg_entry_eq]
  generalize (lg_sl ([.ref a0]) ++ List.replicate (1 - (lg_sl ([.ref a0])).length) Slot.unset).toArray = ls at hl ⊢
  have hl : lv_has ls 1 [(0, .ref a0)] := hl
  refine lv_aload_n hx hb dX1_mayDelayTurn_0 rfl (lv_at hl 0 rfl) ?_
  refine va_get (D := G) (ci := 1) (v := .int tu) (C := RX1) (T := TX1) (N := 10) hx hb hts huX1_mayDelayTurn_X1 hown hK.1 hP 0 rfl rfl 5 (by decide) hw0 (fun _ h9 => h9) rfl dX1_mayDelayTurn_1 ?_
  refine lv_iconst (v := (-1)) hx hb dX1_mayDelayTurn_4 (by decide) ?_
  refine lv_icmp_eq (tgt := 19) hx hb dX1_mayDelayTurn_5 (by decide) (fun hc => ?_) (fun hc => ?_)
  · have h := o_t h hc
    refine lv_iconst (v := 0) hx hb dX1_mayDelayTurn_19 (by decide) ?_
    obtain rfl := o_s h
    rw [hQ]
    exact end_z hx hb hr rfl rfl hP hD hS dX1_mayDelayTurn_20 hlocks
  · have h := o_f h hc
    refine lv_aload_n hx hb dX1_mayDelayTurn_8 rfl (lv_at hl 0 rfl) ?_
    refine va_get (D := G) (ci := 1) (v := .int (bI dl)) (C := RX1) (T := TX1) (N := 10) hx hb hts huX1_mayDelayTurn_X1 hown hK.1 hP 0 rfl rfl 7 (by decide) hw1 (fun _ h9 => h9) rfl dX1_mayDelayTurn_9 ?_
    refine lv_if_eq (tgt := 19) hx hb dX1_mayDelayTurn_12 (by decide) (fun hc => ?_) (fun hc => ?_)
    · have h := o_t h hc
      refine lv_iconst (v := 0) hx hb dX1_mayDelayTurn_19 (by decide) ?_
      obtain rfl := o_s h
      rw [hQ]
      exact end_z hx hb hr rfl rfl hP hD hS dX1_mayDelayTurn_20 hlocks
    · have h := o_f h hc
      refine lv_iconst (v := 1) hx hb dX1_mayDelayTurn_15 (by decide) ?_
      refine lv_goto (tgt := 20) hx hb dX1_mayDelayTurn_16 (by decide) ?_
      obtain rfl := o_s h
      rw [hQ]
      exact end_z hx hb hr rfl rfl hP hD hS dX1_mayDelayTurn_20 hlocks
theorem hdX1_delayTurn : yX1_delayTurn.cls = RX1 ∧ yX1_delayTurn.cls ≠ "java/lang/invoke/MethodHandle" ∧ yX1_delayTurn.cls ≠ "java/lang/invoke/VarHandle" ∧ (parseMethodDescriptor yX1_delayTurn.desc).map (fun d => d.parameters.length) = some 0 := by decide +kernel
set_option maxHeartbeats 4000000 in
set_option maxRecDepth 100000 in
theorem cX1_delayTurn_ok (l : Launch) (G : va_G) (cI cG : ClassId) (a0 a1 a2 a3 a4 a5 a6 a7 a8 a9 : Nat) (fu : Nat) (ft : Tab) (er : Tab) (eb : Int32) (li : Tab) (st : Tab) (rd : Int32) (tu : Int32) (la : Int32) (dl : Bool) (sh : Int32) (tb : Int32) (out : Int32 × Tab × Int32) (hf : fX1_delayTurn fu li tu = some out) : CI l G (tyz cI cG) yX1_delayTurn wsX1_delayTurn ({ frames := 2, cells := 0, slots := 0, locals := 45 } : Room) [.ref a0] [(a0, .inr (1, [.ref a1, .ref a3, .ref a6, .ref a8, .int rd, .int tu, .int la, .int (bI dl), .int sh, .int tb])), (a1, .inr (4, [.int ft.1, .ref a2, .int ft.2.2.2])), (a2, .inl (cI, ft.2.1, .inl ft.2.2.1)), (a3, .inr (0, [.ref a4, .int eb])), (a4, .inr (4, [.int er.1, .ref a5, .int er.2.2.2])), (a5, .inl (cI, er.2.1, .inl er.2.2.1)), (a6, .inr (4, [.int li.1, .ref a7, .int li.2.2.2])), (a7, .inl (cI, li.2.1, .inl li.2.2.1)), (a8, .inr (4, [.int st.1, .ref a9, .int st.2.2.2])), (a9, .inl (cI, st.2.1, .inl st.2.2.1))] out.1 [(a0, .inr (1, [.ref a1, .ref a3, .ref a6, .ref a8, .int rd, .int out.2.2, .int la, .int (bI dl), .int sh, .int tb])), (a1, .inr (4, [.int ft.1, .ref a2, .int ft.2.2.2])), (a2, .inl (cI, ft.2.1, .inl ft.2.2.1)), (a3, .inr (0, [.ref a4, .int eb])), (a4, .inr (4, [.int er.1, .ref a5, .int er.2.2.2])), (a5, .inl (cI, er.2.1, .inl er.2.2.1)), (a6, .inr (4, [.int out.2.1.1, .ref a7, .int out.2.1.2.2.2])), (a7, .inl (cI, out.2.1.2.1, .inl out.2.1.2.2.1)), (a8, .inr (4, [.int st.1, .ref a9, .int st.2.2.2])), (a9, .inl (cI, st.2.1, .inl st.2.2.1))] := by
  intro sz
  refine Met.ofW (cc := cX1_delayTurn) (maxL := 2) (ret := (some .int)) (by decide) rfl ?_
  intro p e s m args below meth c s₁ B hml hv
  obtain ⟨rfl, hsz, hP, hK, hD0⟩ := hv
  have hx := B.exec
  have hb := B.bytes
  have hr := B.returns
  have hts := atoms_spec (ws := wsX1_delayTurn) B.pre
  have hown : s.vm.findClass RX1 = some m.cls := findClass_of_methodNamed B.named
  have hlocks := B.notSynchronized
  subst hsz
  have hD := hD0.self (sz := s.heap.size)
  generalize hAe : va_A ([(a0, .inr (1, [.ref a1, .ref a3, .ref a6, .ref a8, .int rd, .int tu, .int la, .int (bI dl), .int sh, .int tb])), (a1, .inr (4, [.int ft.1, .ref a2, .int ft.2.2.2])), (a2, .inl (cI, ft.2.1, .inl ft.2.2.1)), (a3, .inr (0, [.ref a4, .int eb])), (a4, .inr (4, [.int er.1, .ref a5, .int er.2.2.2])), (a5, .inl (cI, er.2.1, .inl er.2.2.1)), (a6, .inr (4, [.int li.1, .ref a7, .int li.2.2.2])), (a7, .inl (cI, li.2.1, .inl li.2.2.1)), (a8, .inr (4, [.int st.1, .ref a9, .int st.2.2.2])), (a9, .inl (cI, st.2.1, .inl st.2.2.1))]) s.heap.size = A at hD ⊢
  have hA : ∀ q : Nat, s.heap.size ≤ q → A q := fun q h => by rw [← hAe]; exact Or.inr h
  have hS : va_S A s.heap s.heap [] := va_S.rf
  have hw0 := hts (.fieldLink RX1 37 "SpeedTurns$Game" "turn" "I") (List.mem_of_getElem? (i := 1) rfl)
  have hw1 := hts (.fieldLink RX1 27 "SpeedTurns$Game" "list" "LSpeedTurns$Table;") (List.mem_of_getElem? (i := 2) rfl)
  show W p l e ({ frames := 2, cells := 0, slots := 0, locals := 45 } : Room) s m _ below meth c s.heap [] 0 0 _ _
  refine W_genQ (fun Q hQ => ?_)
  have h := hf
  rw [fX1_delayTurn] at h
  have hl := lv_entry ([.ref a0]) (n := 2) (Nat.le_of_ble_eq_true rfl)
  rw [lg_entry_eq]
  generalize (lg_sl ([.ref a0]) ++ List.replicate (2 - (lg_sl ([.ref a0])).length) Slot.unset).toArray = ls at hl ⊢
  have hl : lv_has ls 2 [(0, .ref a0)] := hl
  refine lv_aload_n hx hb dX1_delayTurn_0 rfl (lv_at hl 0 rfl) ?_
  refine va_get (D := G) (ci := 1) (v := .int tu) (C := RX1) (T := TX1) (N := 10) hx hb hts huX1_delayTurn_X1 hown hK.1 hP 0 rfl rfl 5 (by decide) hw0 (fun _ h9 => h9) rfl dX1_delayTurn_1 ?_
  refine lv_istore_n (lv' := [(1, .int tu), (0, .ref a0)]) hx hb dX1_delayTurn_4 rfl hl (by decide) rfl (fun ls hl => ?_)
  refine lv_aload_n hx hb dX1_delayTurn_5 rfl (lv_at hl 1 rfl) ?_
  refine va_get (D := G) (ci := 1) (v := .ref a6) (C := RX1) (T := TX1) (N := 10) hx hb hts huX1_delayTurn_X1 hown hK.1 hP 0 rfl rfl 2 (by decide) hw1 (fun _ h9 => h9) rfl dX1_delayTurn_6 ?_
  refine lv_aload_n hx hb dX1_delayTurn_9 rfl (lv_at hl 1 rfl) ?_
  refine lv_iload_n hx hb dX1_delayTurn_10 rfl (lv_at hl 0 rfl) ?_
  obtain ⟨x1, ex1, h⟩ := o_b h
  refine call_iV (As := [.int tu]) (rest := [.ref a6]) (ws2 := [(a0, .inr (1, [.ref a1, .ref a3, .ref a6, .ref a8, .int rd, .int tu, .int la, .int (bI dl), .int sh, .int tb])), (a1, .inr (4, [.int ft.1, .ref a2, .int ft.2.2.2])), (a2, .inl (cI, ft.2.1, .inl ft.2.2.1)), (a3, .inr (0, [.ref a4, .int eb])), (a4, .inr (4, [.int er.1, .ref a5, .int er.2.2.2])), (a5, .inl (cI, er.2.1, .inl er.2.2.1)), (a6, .inr (4, [.int li.1, .ref a7, .int li.2.2.2])), (a7, .inl (cI, li.2.1, .inl li.2.2.1)), (a8, .inr (4, [.int st.1, .ref a9, .int st.2.2.2])), (a9, .inl (cI, st.2.1, .inl st.2.2.1))]) ⟨hx, hb, hml, hown, hts⟩ (cX1_placeOf_ok l G cI cG a0 a1 a2 a3 a4 a5 a6 a7 a8 a9 fu ft er eb li st rd tu la dl sh tb tu x1 ex1) (cwV 1 hts gX1_delayTurn_X1_placeOf_75 rfl rfl rfl hdX1_placeOf ⟨Nat.le_of_ble_eq_true rfl, Nat.le_of_ble_eq_true rfl⟩) hP hD hS hA hK 1 rfl rfl rfl [0, 1, 2, 3, 4, 5, 6, 7, 8, 9] rfl rfl rfl rfl rfl rfl rfl rfl hl.1 (Nat.le_of_ble_eq_true rfl) dX1_delayTurn_11 ⟨Nat.zero_le _, Nat.zero_le _⟩ (fun H locs hP hD hS => ?_)
  refine lv_iconst (v := 1) hx hb dX1_delayTurn_14 (by decide) ?_
  refine lv_iconst (v := 2) hx hb dX1_delayTurn_15 (by decide) ?_
  obtain ⟨x2, ex2, h⟩ := o_b h
  refine call_vV (As := [.int x1, .int (1 : Int32), .int (2 : Int32)]) (rest := []) (ws2 := [(a0, .inr (1, [.ref a1, .ref a3, .ref a6, .ref a8, .int rd, .int tu, .int la, .int (bI dl), .int sh, .int tb])), (a1, .inr (4, [.int ft.1, .ref a2, .int ft.2.2.2])), (a2, .inl (cI, ft.2.1, .inl ft.2.2.1)), (a3, .inr (0, [.ref a4, .int eb])), (a4, .inr (4, [.int er.1, .ref a5, .int er.2.2.2])), (a5, .inl (cI, er.2.1, .inl er.2.2.1)), (a6, .inr (4, [.int x2.1, .ref a7, .int x2.2.2.2])), (a7, .inl (cI, x2.2.1, .inl x2.2.2.1)), (a8, .inr (4, [.int st.1, .ref a9, .int st.2.2.2])), (a9, .inl (cI, st.2.1, .inl st.2.2.1))]) ⟨hx, hb, hml, hown, hts⟩ (cX4_put_ok l G cI cG a6 a7 li x1 (1 : Int32) (2 : Int32) x2 ex2) (cwV 3 hts gX1_delayTurn_X4_put_119 rfl rfl rfl hdX4_put ⟨Nat.le_of_ble_eq_true rfl, Nat.le_of_ble_eq_true rfl⟩) hP hD hS hA hK 4 rfl rfl rfl [6, 7] rfl rfl rfl rfl rfl rfl rfl rfl hl.1 (Nat.le_of_ble_eq_true rfl) dX1_delayTurn_16 ⟨Nat.zero_le _, Nat.zero_le _⟩ (fun H locs hP hD hS => ?_)
  refine lv_aload_n hx hb dX1_delayTurn_19 rfl (lv_at hl 1 rfl) ?_
  refine lv_iconst (v := (-1)) hx hb dX1_delayTurn_20 (by decide) ?_
  refine va_put (D := G) (ci := 1) (v := .int (-1 : Int32)) (ty := .int) (C := RX1) (T := TX1) (N := 10) hx hb hts huX1_delayTurn_X1 tyX1 tyX1_ok nmX1 hown hK.1 hP hD hS 0 rfl rfl 5 (by decide) hw0 (fun _ h9 => h9) rfl (by decide +kernel) rfl rfl (Nat.le_of_ble_eq_true rfl) dX1_delayTurn_21 (fun H locs hP hD hS => ?_)
  have hP : va_P G vwCl ([(a0, .inr (1, [.ref a1, .ref a3, .ref a6, .ref a8, .int rd, .int (-1 : Int32), .int la, .int (bI dl), .int sh, .int tb])), (a1, .inr (4, [.int ft.1, .ref a2, .int ft.2.2.2])), (a2, .inl (cI, ft.2.1, .inl ft.2.2.1)), (a3, .inr (0, [.ref a4, .int eb])), (a4, .inr (4, [.int er.1, .ref a5, .int er.2.2.2])), (a5, .inl (cI, er.2.1, .inl er.2.2.1)), (a6, .inr (4, [.int x2.1, .ref a7, .int x2.2.2.2])), (a7, .inl (cI, x2.2.1, .inl x2.2.2.1)), (a8, .inr (4, [.int st.1, .ref a9, .int st.2.2.2])), (a9, .inl (cI, st.2.1, .inl st.2.2.1))]) H := hP
  have hD : va_D A ([(a0, .inr (1, [.ref a1, .ref a3, .ref a6, .ref a8, .int rd, .int (-1 : Int32), .int la, .int (bI dl), .int sh, .int tb])), (a1, .inr (4, [.int ft.1, .ref a2, .int ft.2.2.2])), (a2, .inl (cI, ft.2.1, .inl ft.2.2.1)), (a3, .inr (0, [.ref a4, .int eb])), (a4, .inr (4, [.int er.1, .ref a5, .int er.2.2.2])), (a5, .inl (cI, er.2.1, .inl er.2.2.1)), (a6, .inr (4, [.int x2.1, .ref a7, .int x2.2.2.2])), (a7, .inl (cI, x2.2.1, .inl x2.2.2.1)), (a8, .inr (4, [.int st.1, .ref a9, .int st.2.2.2])), (a9, .inl (cI, st.2.1, .inl st.2.2.1))]) := hD
  refine lv_iload_n hx hb dX1_delayTurn_24 rfl (lv_at hl 0 rfl) ?_
  obtain rfl := o_s h
  rw [hQ]
  exact end_i hx hb hr rfl hP hD hS dX1_delayTurn_25 hlocks
theorem hdX1_mayResumeTurn : yX1_mayResumeTurn.cls = RX1 ∧ yX1_mayResumeTurn.cls ≠ "java/lang/invoke/MethodHandle" ∧ yX1_mayResumeTurn.cls ≠ "java/lang/invoke/VarHandle" ∧ (parseMethodDescriptor yX1_mayResumeTurn.desc).map (fun d => d.parameters.length) = some 1 := by decide +kernel
set_option maxHeartbeats 4000000 in
set_option maxRecDepth 100000 in
theorem cX1_mayResumeTurn_ok (l : Launch) (G : va_G) (cI cG : ClassId) (a0 a1 a2 a3 a4 a5 a6 a7 a8 a9 : Nat) (fu : Nat) (ft : Tab) (er : Tab) (eb : Int32) (li : Tab) (st : Tab) (rd : Int32) (tu : Int32) (la : Int32) (dl : Bool) (sh : Int32) (tb : Int32) (p1 : Int32) (out : Bool) (hf : fX1_mayResumeTurn fu ft li tu p1 = some out) : CI l G (tyz cI cG) yX1_mayResumeTurn wsX1_mayResumeTurn ({ frames := 3, cells := 0, slots := 0, locals := 66 } : Room) [.ref a0, .int p1] [(a0, .inr (1, [.ref a1, .ref a3, .ref a6, .ref a8, .int rd, .int tu, .int la, .int (bI dl), .int sh, .int tb])), (a1, .inr (4, [.int ft.1, .ref a2, .int ft.2.2.2])), (a2, .inl (cI, ft.2.1, .inl ft.2.2.1)), (a3, .inr (0, [.ref a4, .int eb])), (a4, .inr (4, [.int er.1, .ref a5, .int er.2.2.2])), (a5, .inl (cI, er.2.1, .inl er.2.2.1)), (a6, .inr (4, [.int li.1, .ref a7, .int li.2.2.2])), (a7, .inl (cI, li.2.1, .inl li.2.2.1)), (a8, .inr (4, [.int st.1, .ref a9, .int st.2.2.2])), (a9, .inl (cI, st.2.1, .inl st.2.2.1))] (bI out) [(a0, .inr (1, [.ref a1, .ref a3, .ref a6, .ref a8, .int rd, .int tu, .int la, .int (bI dl), .int sh, .int tb])), (a1, .inr (4, [.int ft.1, .ref a2, .int ft.2.2.2])), (a2, .inl (cI, ft.2.1, .inl ft.2.2.1)), (a3, .inr (0, [.ref a4, .int eb])), (a4, .inr (4, [.int er.1, .ref a5, .int er.2.2.2])), (a5, .inl (cI, er.2.1, .inl er.2.2.1)), (a6, .inr (4, [.int li.1, .ref a7, .int li.2.2.2])), (a7, .inl (cI, li.2.1, .inl li.2.2.1)), (a8, .inr (4, [.int st.1, .ref a9, .int st.2.2.2])), (a9, .inl (cI, st.2.1, .inl st.2.2.1))] := by
  intro sz
  refine Met.ofW (cc := cX1_mayResumeTurn) (maxL := 2) (ret := (some .boolean)) (by decide) rfl ?_
  intro p e s m args below meth c s₁ B hml hv
  obtain ⟨rfl, hsz, hP, hK, hD0⟩ := hv
  have hx := B.exec
  have hb := B.bytes
  have hr := B.returns
  have hts := atoms_spec (ws := wsX1_mayResumeTurn) B.pre
  have hown : s.vm.findClass RX1 = some m.cls := findClass_of_methodNamed B.named
  have hlocks := B.notSynchronized
  subst hsz
  have hD := hD0.self (sz := s.heap.size)
  generalize hAe : va_A ([(a0, .inr (1, [.ref a1, .ref a3, .ref a6, .ref a8, .int rd, .int tu, .int la, .int (bI dl), .int sh, .int tb])), (a1, .inr (4, [.int ft.1, .ref a2, .int ft.2.2.2])), (a2, .inl (cI, ft.2.1, .inl ft.2.2.1)), (a3, .inr (0, [.ref a4, .int eb])), (a4, .inr (4, [.int er.1, .ref a5, .int er.2.2.2])), (a5, .inl (cI, er.2.1, .inl er.2.2.1)), (a6, .inr (4, [.int li.1, .ref a7, .int li.2.2.2])), (a7, .inl (cI, li.2.1, .inl li.2.2.1)), (a8, .inr (4, [.int st.1, .ref a9, .int st.2.2.2])), (a9, .inl (cI, st.2.1, .inl st.2.2.1))]) s.heap.size = A at hD ⊢
  have hA : ∀ q : Nat, s.heap.size ≤ q → A q := fun q h => by rw [← hAe]; exact Or.inr h
  have hS : va_S A s.heap s.heap [] := va_S.rf
  have hw0 := hts (.fieldLink RX1 37 "SpeedTurns$Game" "turn" "I") (List.mem_of_getElem? (i := 1) rfl)
  show W p l e ({ frames := 3, cells := 0, slots := 0, locals := 66 } : Room) s m _ below meth c s.heap [] 0 0 _ _
  refine W_genQ (fun Q hQ => ?_)
  have h := hf
  rw [fX1_mayResumeTurn] at h
  have hl := lv_entry ([.ref a0, .int p1]) (n := 2) (Nat.le_of_ble_eq_true rfl)
  rw [lg_entry_eq]
  generalize (lg_sl ([.ref a0, .int p1]) ++ List.replicate (2 - (lg_sl ([.ref a0, .int p1])).length) Slot.unset).toArray = ls at hl ⊢
  have hl : lv_has ls 2 [(0, .ref a0), (1, .int p1)] := hl
  refine lv_aload_n hx hb dX1_mayResumeTurn_0 rfl (lv_at hl 0 rfl) ?_
  refine va_get (D := G) (ci := 1) (v := .int tu) (C := RX1) (T := TX1) (N := 10) hx hb hts huX1_mayResumeTurn_X1 hown hK.1 hP 0 rfl rfl 5 (by decide) hw0 (fun _ h9 => h9) rfl dX1_mayResumeTurn_1 ?_
  refine lv_iconst (v := (-1)) hx hb dX1_mayResumeTurn_4 (by decide) ?_
  refine lv_icmp_ne (tgt := 29) hx hb dX1_mayResumeTurn_5 (by decide) (fun hc => ?_) (fun hc => ?_)
  · have h := o_f h hc
    refine lv_iconst (v := 0) hx hb dX1_mayResumeTurn_29 (by decide) ?_
    obtain rfl := o_s h
    rw [hQ]
    exact end_z hx hb hr rfl rfl hP hD hS dX1_mayResumeTurn_30 hlocks
  · have h := o_t h hc
    refine lv_aload_n hx hb dX1_mayResumeTurn_8 rfl (lv_at hl 0 rfl) ?_
    refine lv_iload_n hx hb dX1_mayResumeTurn_9 rfl (lv_at hl 1 rfl) ?_
    obtain ⟨x1, ex1, h⟩ := o_b h
    refine call_iV (As := [.int p1]) (rest := []) (ws2 := [(a0, .inr (1, [.ref a1, .ref a3, .ref a6, .ref a8, .int rd, .int tu, .int la, .int (bI dl), .int sh, .int tb])), (a1, .inr (4, [.int ft.1, .ref a2, .int ft.2.2.2])), (a2, .inl (cI, ft.2.1, .inl ft.2.2.1)), (a3, .inr (0, [.ref a4, .int eb])), (a4, .inr (4, [.int er.1, .ref a5, .int er.2.2.2])), (a5, .inl (cI, er.2.1, .inl er.2.2.1)), (a6, .inr (4, [.int li.1, .ref a7, .int li.2.2.2])), (a7, .inl (cI, li.2.1, .inl li.2.2.1)), (a8, .inr (4, [.int st.1, .ref a9, .int st.2.2.2])), (a9, .inl (cI, st.2.1, .inl st.2.2.1))]) ⟨hx, hb, hml, hown, hts⟩ (cX1_stateOf_ok l G cI cG a0 a1 a2 a3 a4 a5 a6 a7 a8 a9 fu ft er eb li st rd tu la dl sh tb p1 x1 ex1) (cwV 1 hts gX1_mayResumeTurn_X1_stateOf_72 rfl rfl rfl hdX1_stateOf ⟨Nat.le_of_ble_eq_true rfl, Nat.le_of_ble_eq_true rfl⟩) hP hD hS hA hK 1 rfl rfl rfl [0, 1, 2, 3, 4, 5, 6, 7, 8, 9] rfl rfl rfl rfl rfl rfl rfl rfl hl.1 (Nat.le_of_ble_eq_true rfl) dX1_mayResumeTurn_10 ⟨Nat.zero_le _, Nat.zero_le _⟩ (fun H locs hP hD hS => ?_)
    refine lv_iconst (v := 2) hx hb dX1_mayResumeTurn_13 (by decide) ?_
    refine lv_icmp_ne (tgt := 29) hx hb dX1_mayResumeTurn_14 (by decide) (fun hc => ?_) (fun hc => ?_)
    · have h := o_f h hc
      refine lv_iconst (v := 0) hx hb dX1_mayResumeTurn_29 (by decide) ?_
      obtain rfl := o_s h
      rw [hQ]
      exact end_z hx hb hr rfl rfl hP hD hS dX1_mayResumeTurn_30 hlocks
    · have h := o_t h hc
      refine lv_aload_n hx hb dX1_mayResumeTurn_17 rfl (lv_at hl 0 rfl) ?_
      refine lv_iload_n hx hb dX1_mayResumeTurn_18 rfl (lv_at hl 1 rfl) ?_
      obtain ⟨x2, ex2, h⟩ := o_b h
      refine call_iV (As := [.int p1]) (rest := []) (ws2 := [(a0, .inr (1, [.ref a1, .ref a3, .ref a6, .ref a8, .int rd, .int tu, .int la, .int (bI dl), .int sh, .int tb])), (a1, .inr (4, [.int ft.1, .ref a2, .int ft.2.2.2])), (a2, .inl (cI, ft.2.1, .inl ft.2.2.1)), (a3, .inr (0, [.ref a4, .int eb])), (a4, .inr (4, [.int er.1, .ref a5, .int er.2.2.2])), (a5, .inl (cI, er.2.1, .inl er.2.2.1)), (a6, .inr (4, [.int li.1, .ref a7, .int li.2.2.2])), (a7, .inl (cI, li.2.1, .inl li.2.2.1)), (a8, .inr (4, [.int st.1, .ref a9, .int st.2.2.2])), (a9, .inl (cI, st.2.1, .inl st.2.2.1))]) ⟨hx, hb, hml, hown, hts⟩ (cX1_stands_ok l G cI cG a0 a1 a2 a3 a4 a5 a6 a7 a8 a9 ft er eb li st rd tu la dl sh tb p1 x2 ex2) (cwV 1 hts gX1_mayResumeTurn_X1_stands_104 rfl rfl rfl hdX1_stands ⟨Nat.le_of_ble_eq_true rfl, Nat.le_of_ble_eq_true rfl⟩) hP hD hS hA hK 1 rfl rfl rfl [0, 1, 2, 3, 4, 5, 6, 7, 8, 9] rfl rfl rfl rfl rfl rfl rfl rfl hl.1 (Nat.le_of_ble_eq_true rfl) dX1_mayResumeTurn_19 ⟨Nat.zero_le _, Nat.zero_le _⟩ (fun H locs hP hD hS => ?_)
      refine lv_if_eq (tgt := 29) hx hb dX1_mayResumeTurn_22 (by decide) (fun hc => ?_) (fun hc => ?_)
      · have h := o_t h hc
        refine lv_iconst (v := 0) hx hb dX1_mayResumeTurn_29 (by decide) ?_
        obtain rfl := o_s h
        rw [hQ]
        exact end_z hx hb hr rfl rfl hP hD hS dX1_mayResumeTurn_30 hlocks
      · have h := o_f h hc
        refine lv_iconst (v := 1) hx hb dX1_mayResumeTurn_25 (by decide) ?_
        refine lv_goto (tgt := 30) hx hb dX1_mayResumeTurn_26 (by decide) ?_
        obtain rfl := o_s h
        rw [hQ]
        exact end_z hx hb hr rfl rfl hP hD hS dX1_mayResumeTurn_30 hlocks
theorem hdX1_resumeTurn : yX1_resumeTurn.cls = RX1 ∧ yX1_resumeTurn.cls ≠ "java/lang/invoke/MethodHandle" ∧ yX1_resumeTurn.cls ≠ "java/lang/invoke/VarHandle" ∧ (parseMethodDescriptor yX1_resumeTurn.desc).map (fun d => d.parameters.length) = some 1 := by decide +kernel
set_option maxHeartbeats 4000000 in
set_option maxRecDepth 100000 in
theorem cX1_resumeTurn_ok (l : Launch) (G : va_G) (cI cG : ClassId) (a0 a1 a2 a3 a4 a5 a6 a7 a8 a9 : Nat) (fu : Nat) (ft : Tab) (er : Tab) (eb : Int32) (li : Tab) (st : Tab) (rd : Int32) (tu : Int32) (la : Int32) (dl : Bool) (sh : Int32) (tb : Int32) (p1 : Int32) (out : Int32 × Tab × Int32 × Int32 × Bool) (hf : fX1_resumeTurn fu li tu la dl p1 = some out) : CI l G (tyz cI cG) yX1_resumeTurn wsX1_resumeTurn ({ frames := 3, cells := 0, slots := 0, locals := 83 } : Room) [.ref a0, .int p1] [(a0, .inr (1, [.ref a1, .ref a3, .ref a6, .ref a8, .int rd, .int tu, .int la, .int (bI dl), .int sh, .int tb])), (a1, .inr (4, [.int ft.1, .ref a2, .int ft.2.2.2])), (a2, .inl (cI, ft.2.1, .inl ft.2.2.1)), (a3, .inr (0, [.ref a4, .int eb])), (a4, .inr (4, [.int er.1, .ref a5, .int er.2.2.2])), (a5, .inl (cI, er.2.1, .inl er.2.2.1)), (a6, .inr (4, [.int li.1, .ref a7, .int li.2.2.2])), (a7, .inl (cI, li.2.1, .inl li.2.2.1)), (a8, .inr (4, [.int st.1, .ref a9, .int st.2.2.2])), (a9, .inl (cI, st.2.1, .inl st.2.2.1))] out.1 [(a0, .inr (1, [.ref a1, .ref a3, .ref a6, .ref a8, .int rd, .int out.2.2.1, .int out.2.2.2.1, .int (bI out.2.2.2.2), .int sh, .int tb])), (a1, .inr (4, [.int ft.1, .ref a2, .int ft.2.2.2])), (a2, .inl (cI, ft.2.1, .inl ft.2.2.1)), (a3, .inr (0, [.ref a4, .int eb])), (a4, .inr (4, [.int er.1, .ref a5, .int er.2.2.2])), (a5, .inl (cI, er.2.1, .inl er.2.2.1)), (a6, .inr (4, [.int out.2.1.1, .ref a7, .int out.2.1.2.2.2])), (a7, .inl (cI, out.2.1.2.1, .inl out.2.1.2.2.1)), (a8, .inr (4, [.int st.1, .ref a9, .int st.2.2.2])), (a9, .inl (cI, st.2.1, .inl st.2.2.1))] := by
  intro sz
  refine Met.ofW (cc := cX1_resumeTurn) (maxL := 3) (ret := (some .int)) (by decide) rfl ?_
  intro p e s m args below meth c s₁ B hml hv
  obtain ⟨rfl, hsz, hP, hK, hD0⟩ := hv
  have hx := B.exec
  have hb := B.bytes
  have hr := B.returns
  have hts := atoms_spec (ws := wsX1_resumeTurn) B.pre
  have hown : s.vm.findClass RX1 = some m.cls := findClass_of_methodNamed B.named
  have hlocks := B.notSynchronized
  subst hsz
  have hD := hD0.self (sz := s.heap.size)
  generalize hAe : va_A ([(a0, .inr (1, [.ref a1, .ref a3, .ref a6, .ref a8, .int rd, .int tu, .int la, .int (bI dl), .int sh, .int tb])), (a1, .inr (4, [.int ft.1, .ref a2, .int ft.2.2.2])), (a2, .inl (cI, ft.2.1, .inl ft.2.2.1)), (a3, .inr (0, [.ref a4, .int eb])), (a4, .inr (4, [.int er.1, .ref a5, .int er.2.2.2])), (a5, .inl (cI, er.2.1, .inl er.2.2.1)), (a6, .inr (4, [.int li.1, .ref a7, .int li.2.2.2])), (a7, .inl (cI, li.2.1, .inl li.2.2.1)), (a8, .inr (4, [.int st.1, .ref a9, .int st.2.2.2])), (a9, .inl (cI, st.2.1, .inl st.2.2.1))]) s.heap.size = A at hD ⊢
  have hA : ∀ q : Nat, s.heap.size ≤ q → A q := fun q h => by rw [← hAe]; exact Or.inr h
  have hS : va_S A s.heap s.heap [] := va_S.rf
  have hw0 := hts (.fieldLink RX1 40 "SpeedTurns$Game" "latest" "I") (List.mem_of_getElem? (i := 1) rfl)
  have hw1 := hts (.fieldLink RX1 43 "SpeedTurns$Game" "delayable" "Z") (List.mem_of_getElem? (i := 6) rfl)
  have hw2 := hts (.fieldLink RX1 27 "SpeedTurns$Game" "list" "LSpeedTurns$Table;") (List.mem_of_getElem? (i := 10) rfl)
  show W p l e ({ frames := 3, cells := 0, slots := 0, locals := 83 } : Room) s m _ below meth c s.heap [] 0 0 _ _
  refine W_genQ (fun Q hQ => ?_)
  have J49 : ∀ (li : Tab) (H : Heap) (locs : List Loc) (ls : Array Slot), fX1_resumeTurn_J49 fu tu la dl p1 li = some out → va_P G vwCl ([(a0, .inr (1, [.ref a1, .ref a3, .ref a6, .ref a8, .int rd, .int tu, .int la, .int (bI dl), .int sh, .int tb])), (a1, .inr (4, [.int ft.1, .ref a2, .int ft.2.2.2])), (a2, .inl (cI, ft.2.1, .inl ft.2.2.1)), (a3, .inr (0, [.ref a4, .int eb])), (a4, .inr (4, [.int er.1, .ref a5, .int er.2.2.2])), (a5, .inl (cI, er.2.1, .inl er.2.2.1)), (a6, .inr (4, [.int li.1, .ref a7, .int li.2.2.2])), (a7, .inl (cI, li.2.1, .inl li.2.2.1)), (a8, .inr (4, [.int st.1, .ref a9, .int st.2.2.2])), (a9, .inl (cI, st.2.1, .inl st.2.2.1))]) H → va_D A ([(a0, .inr (1, [.ref a1, .ref a3, .ref a6, .ref a8, .int rd, .int tu, .int la, .int (bI dl), .int sh, .int tb])), (a1, .inr (4, [.int ft.1, .ref a2, .int ft.2.2.2])), (a2, .inl (cI, ft.2.1, .inl ft.2.2.1)), (a3, .inr (0, [.ref a4, .int eb])), (a4, .inr (4, [.int er.1, .ref a5, .int er.2.2.2])), (a5, .inl (cI, er.2.1, .inl er.2.2.1)), (a6, .inr (4, [.int li.1, .ref a7, .int li.2.2.2])), (a7, .inl (cI, li.2.1, .inl li.2.2.1)), (a8, .inr (4, [.int st.1, .ref a9, .int st.2.2.2])), (a9, .inl (cI, st.2.1, .inl st.2.2.1))]) → va_S A s.heap H locs → lv_has ls 3 [(0, .ref a0), (1, .int p1)] → W p l e ({ frames := 3, cells := 0, slots := 0, locals := 83 } : Room) s m ([.ref a0, .int p1] : List Value).toArray below meth c H locs 0 0 Q (F0 m 49 ls []) := by
    intro li H locs ls h hP hD hS hl
    rw [fX1_resumeTurn_J49] at h
    refine lv_aload_n hx hb dX1_resumeTurn_49 rfl (lv_at hl 0 rfl) ?_
    refine lv_iload_n hx hb dX1_resumeTurn_50 rfl (lv_at hl 1 rfl) ?_
    obtain ⟨x1, ex1, h⟩ := o_b h
    refine call_vV (As := [.int p1]) (rest := []) (ws2 := [(a0, .inr (1, [.ref a1, .ref a3, .ref a6, .ref a8, .int rd, .int x1.2.1, .int x1.2.2, .int (bI dl), .int sh, .int tb])), (a1, .inr (4, [.int ft.1, .ref a2, .int ft.2.2.2])), (a2, .inl (cI, ft.2.1, .inl ft.2.2.1)), (a3, .inr (0, [.ref a4, .int eb])), (a4, .inr (4, [.int er.1, .ref a5, .int er.2.2.2])), (a5, .inl (cI, er.2.1, .inl er.2.2.1)), (a6, .inr (4, [.int x1.1.1, .ref a7, .int x1.1.2.2.2])), (a7, .inl (cI, x1.1.2.1, .inl x1.1.2.2.1)), (a8, .inr (4, [.int st.1, .ref a9, .int st.2.2.2])), (a9, .inl (cI, st.2.1, .inl st.2.2.1))]) ⟨hx, hb, hml, hown, hts⟩ (cX1_takeTurn_ok l G cI cG a0 a1 a2 a3 a4 a5 a6 a7 a8 a9 fu ft er eb li st rd tu la dl sh tb p1 x1 ex1) (cwV 1 hts gX1_resumeTurn_X1_takeTurn_129 rfl rfl rfl hdX1_takeTurn ⟨Nat.le_of_ble_eq_true rfl, Nat.le_of_ble_eq_true rfl⟩) hP hD hS hA hK 1 rfl rfl rfl [0, 1, 2, 3, 4, 5, 6, 7, 8, 9] rfl rfl rfl rfl rfl rfl rfl rfl hl.1 (Nat.le_of_ble_eq_true rfl) dX1_resumeTurn_51 ⟨Nat.zero_le _, Nat.zero_le _⟩ (fun H locs hP hD hS => ?_)
    refine lv_aload_n hx hb dX1_resumeTurn_54 rfl (lv_at hl 0 rfl) ?_
    refine lv_iconst (v := 0) hx hb dX1_resumeTurn_55 (by decide) ?_
    refine va_put (D := G) (ci := 1) (v := .int (0 : Int32)) (ty := .boolean) (C := RX1) (T := TX1) (N := 10) hx hb hts huX1_resumeTurn_X1 tyX1 tyX1_ok nmX1 hown hK.1 hP hD hS 0 rfl rfl 7 (by decide) hw1 (fun _ h9 => h9) rfl (by decide +kernel) rfl rfl (Nat.le_of_ble_eq_true rfl) dX1_resumeTurn_56 (fun H locs hP hD hS => ?_)
    have hP : va_P G vwCl ([(a0, .inr (1, [.ref a1, .ref a3, .ref a6, .ref a8, .int rd, .int x1.2.1, .int x1.2.2, .int (bI false), .int sh, .int tb])), (a1, .inr (4, [.int ft.1, .ref a2, .int ft.2.2.2])), (a2, .inl (cI, ft.2.1, .inl ft.2.2.1)), (a3, .inr (0, [.ref a4, .int eb])), (a4, .inr (4, [.int er.1, .ref a5, .int er.2.2.2])), (a5, .inl (cI, er.2.1, .inl er.2.2.1)), (a6, .inr (4, [.int x1.1.1, .ref a7, .int x1.1.2.2.2])), (a7, .inl (cI, x1.1.2.1, .inl x1.1.2.2.1)), (a8, .inr (4, [.int st.1, .ref a9, .int st.2.2.2])), (a9, .inl (cI, st.2.1, .inl st.2.2.1))]) H := hP
    have hD : va_D A ([(a0, .inr (1, [.ref a1, .ref a3, .ref a6, .ref a8, .int rd, .int x1.2.1, .int x1.2.2, .int (bI false), .int sh, .int tb])), (a1, .inr (4, [.int ft.1, .ref a2, .int ft.2.2.2])), (a2, .inl (cI, ft.2.1, .inl ft.2.2.1)), (a3, .inr (0, [.ref a4, .int eb])), (a4, .inr (4, [.int er.1, .ref a5, .int er.2.2.2])), (a5, .inl (cI, er.2.1, .inl er.2.2.1)), (a6, .inr (4, [.int x1.1.1, .ref a7, .int x1.1.2.2.2])), (a7, .inl (cI, x1.1.2.1, .inl x1.1.2.2.1)), (a8, .inr (4, [.int st.1, .ref a9, .int st.2.2.2])), (a9, .inl (cI, st.2.1, .inl st.2.2.1))]) := hD
    refine lv_aload_n hx hb dX1_resumeTurn_59 rfl (lv_at hl 0 rfl) ?_
    refine lv_iload_n hx hb dX1_resumeTurn_60 rfl (lv_at hl 1 rfl) ?_
    obtain ⟨x2, ex2, h⟩ := o_b h
    refine call_iV (As := [.int p1]) (rest := []) (ws2 := [(a0, .inr (1, [.ref a1, .ref a3, .ref a6, .ref a8, .int rd, .int x1.2.1, .int x1.2.2, .int (bI false), .int sh, .int tb])), (a1, .inr (4, [.int ft.1, .ref a2, .int ft.2.2.2])), (a2, .inl (cI, ft.2.1, .inl ft.2.2.1)), (a3, .inr (0, [.ref a4, .int eb])), (a4, .inr (4, [.int er.1, .ref a5, .int er.2.2.2])), (a5, .inl (cI, er.2.1, .inl er.2.2.1)), (a6, .inr (4, [.int x1.1.1, .ref a7, .int x1.1.2.2.2])), (a7, .inl (cI, x1.1.2.1, .inl x1.1.2.2.1)), (a8, .inr (4, [.int st.1, .ref a9, .int st.2.2.2])), (a9, .inl (cI, st.2.1, .inl st.2.2.1))]) ⟨hx, hb, hml, hown, hts⟩ (cX1_placeOf_ok l G cI cG a0 a1 a2 a3 a4 a5 a6 a7 a8 a9 fu ft er eb x1.1 st rd x1.2.1 x1.2.2 false sh tb p1 x2 ex2) (cwV 1 hts gX1_resumeTurn_X1_placeOf_75 rfl rfl rfl hdX1_placeOf ⟨Nat.le_of_ble_eq_true rfl, Nat.le_of_ble_eq_true rfl⟩) hP hD hS hA hK 1 rfl rfl rfl [0, 1, 2, 3, 4, 5, 6, 7, 8, 9] rfl rfl rfl rfl rfl rfl rfl rfl hl.1 (Nat.le_of_ble_eq_true rfl) dX1_resumeTurn_61 ⟨Nat.zero_le _, Nat.zero_le _⟩ (fun H locs hP hD hS => ?_)
    obtain rfl := o_s h
    rw [hQ]
    exact end_i hx hb hr rfl hP hD hS dX1_resumeTurn_64 hlocks
  have h := hf
  rw [fX1_resumeTurn] at h
  have hl := lv_entry ([.ref a0, .int p1]) (n := 3) (Nat.le_of_ble_eq_true rfl)
  rw [lg_entry_eq]
  generalize (lg_sl ([.ref a0, .int p1]) ++ List.replicate (3 - (lg_sl ([.ref a0, .int p1])).length) Slot.unset).toArray = ls at hl ⊢
  have hl : lv_has ls 3 [(0, .ref a0), (1, .int p1)] := hl
  refine lv_iload_n hx hb dX1_resumeTurn_0 rfl (lv_at hl 1 rfl) ?_
  refine lv_aload_n hx hb dX1_resumeTurn_1 rfl (lv_at hl 0 rfl) ?_
  refine va_get (D := G) (ci := 1) (v := .int la) (C := RX1) (T := TX1) (N := 10) hx hb hts huX1_resumeTurn_X1 hown hK.1 hP 0 rfl rfl 6 (by decide) hw0 (fun _ h9 => h9) rfl dX1_resumeTurn_2 ?_
  refine lv_icmp_eq (tgt := 49) hx hb dX1_resumeTurn_5 (by decide) (fun hc => ?_) (fun hc => ?_)
  · have h := o_t h hc
    exact J49 li _ _ _ h hP hD hS (lv_sub hl [0, 1] rfl)
  · have h := o_f h hc
    refine lv_aload_n hx hb dX1_resumeTurn_8 rfl (lv_at hl 0 rfl) ?_
    refine va_get (D := G) (ci := 1) (v := .ref a6) (C := RX1) (T := TX1) (N := 10) hx hb hts huX1_resumeTurn_X1 hown hK.1 hP 0 rfl rfl 2 (by decide) hw2 (fun _ h9 => h9) rfl dX1_resumeTurn_9 ?_
    refine lv_aload_n hx hb dX1_resumeTurn_12 rfl (lv_at hl 0 rfl) ?_
    refine lv_iload_n hx hb dX1_resumeTurn_13 rfl (lv_at hl 1 rfl) ?_
    obtain ⟨x3, ex3, h⟩ := o_b h
    refine call_iV (As := [.int p1]) (rest := [.ref a6]) (ws2 := [(a0, .inr (1, [.ref a1, .ref a3, .ref a6, .ref a8, .int rd, .int tu, .int la, .int (bI dl), .int sh, .int tb])), (a1, .inr (4, [.int ft.1, .ref a2, .int ft.2.2.2])), (a2, .inl (cI, ft.2.1, .inl ft.2.2.1)), (a3, .inr (0, [.ref a4, .int eb])), (a4, .inr (4, [.int er.1, .ref a5, .int er.2.2.2])), (a5, .inl (cI, er.2.1, .inl er.2.2.1)), (a6, .inr (4, [.int li.1, .ref a7, .int li.2.2.2])), (a7, .inl (cI, li.2.1, .inl li.2.2.1)), (a8, .inr (4, [.int st.1, .ref a9, .int st.2.2.2])), (a9, .inl (cI, st.2.1, .inl st.2.2.1))]) ⟨hx, hb, hml, hown, hts⟩ (cX1_placeOf_ok l G cI cG a0 a1 a2 a3 a4 a5 a6 a7 a8 a9 fu ft er eb li st rd tu la dl sh tb p1 x3 ex3) (cwV 1 hts gX1_resumeTurn_X1_placeOf_75 rfl rfl rfl hdX1_placeOf ⟨Nat.le_of_ble_eq_true rfl, Nat.le_of_ble_eq_true rfl⟩) hP hD hS hA hK 1 rfl rfl rfl [0, 1, 2, 3, 4, 5, 6, 7, 8, 9] rfl rfl rfl rfl rfl rfl rfl rfl hl.1 (Nat.le_of_ble_eq_true rfl) dX1_resumeTurn_14 ⟨Nat.zero_le _, Nat.zero_le _⟩ (fun H locs hP hD hS => ?_)
    obtain ⟨x4, ex4, h⟩ := o_b h
    refine call_vV (As := [.int x3]) (rest := []) (ws2 := [(a0, .inr (1, [.ref a1, .ref a3, .ref a6, .ref a8, .int rd, .int tu, .int la, .int (bI dl), .int sh, .int tb])), (a1, .inr (4, [.int ft.1, .ref a2, .int ft.2.2.2])), (a2, .inl (cI, ft.2.1, .inl ft.2.2.1)), (a3, .inr (0, [.ref a4, .int eb])), (a4, .inr (4, [.int er.1, .ref a5, .int er.2.2.2])), (a5, .inl (cI, er.2.1, .inl er.2.2.1)), (a6, .inr (4, [.int x4.1, .ref a7, .int x4.2.2.2])), (a7, .inl (cI, x4.2.1, .inl x4.2.2.1)), (a8, .inr (4, [.int st.1, .ref a9, .int st.2.2.2])), (a9, .inl (cI, st.2.1, .inl st.2.2.1))]) ⟨hx, hb, hml, hown, hts⟩ (cX4_remove_ok l G cI cG a6 a7 li x3 x4 ex4) (cwV 1 hts gX1_resumeTurn_X4_remove_162 rfl rfl rfl hdX4_remove ⟨Nat.le_of_ble_eq_true rfl, Nat.le_of_ble_eq_true rfl⟩) hP hD hS hA hK 4 rfl rfl rfl [6, 7] rfl rfl rfl rfl rfl rfl rfl rfl hl.1 (Nat.le_of_ble_eq_true rfl) dX1_resumeTurn_17 ⟨Nat.zero_le _, Nat.zero_le _⟩ (fun H locs hP hD hS => ?_)
    refine lv_aload_n hx hb dX1_resumeTurn_20 rfl (lv_at hl 0 rfl) ?_
    refine lv_aload_n hx hb dX1_resumeTurn_21 rfl (lv_at hl 0 rfl) ?_
    refine va_get (D := G) (ci := 1) (v := .int la) (C := RX1) (T := TX1) (N := 10) hx hb hts huX1_resumeTurn_X1 hown hK.1 hP 0 rfl rfl 6 (by decide) hw0 (fun _ h9 => h9) rfl dX1_resumeTurn_22 ?_
    obtain ⟨x5, ex5, h⟩ := o_b h
    refine call_iV (As := [.int la]) (rest := []) (ws2 := [(a0, .inr (1, [.ref a1, .ref a3, .ref a6, .ref a8, .int rd, .int tu, .int la, .int (bI dl), .int sh, .int tb])), (a1, .inr (4, [.int ft.1, .ref a2, .int ft.2.2.2])), (a2, .inl (cI, ft.2.1, .inl ft.2.2.1)), (a3, .inr (0, [.ref a4, .int eb])), (a4, .inr (4, [.int er.1, .ref a5, .int er.2.2.2])), (a5, .inl (cI, er.2.1, .inl er.2.2.1)), (a6, .inr (4, [.int x4.1, .ref a7, .int x4.2.2.2])), (a7, .inl (cI, x4.2.1, .inl x4.2.2.1)), (a8, .inr (4, [.int st.1, .ref a9, .int st.2.2.2])), (a9, .inl (cI, st.2.1, .inl st.2.2.1))]) ⟨hx, hb, hml, hown, hts⟩ (cX1_placeOf_ok l G cI cG a0 a1 a2 a3 a4 a5 a6 a7 a8 a9 fu ft er eb x4 st rd tu la dl sh tb la x5 ex5) (cwV 1 hts gX1_resumeTurn_X1_placeOf_75 rfl rfl rfl hdX1_placeOf ⟨Nat.le_of_ble_eq_true rfl, Nat.le_of_ble_eq_true rfl⟩) hP hD hS hA hK 1 rfl rfl rfl [0, 1, 2, 3, 4, 5, 6, 7, 8, 9] rfl rfl rfl rfl rfl rfl rfl rfl hl.1 (Nat.le_of_ble_eq_true rfl) dX1_resumeTurn_25 ⟨Nat.zero_le _, Nat.zero_le _⟩ (fun H locs hP hD hS => ?_)
    refine lv_iconst (v := 1) hx hb dX1_resumeTurn_28 (by decide) ?_
    refine lv_iadd hx hb dX1_resumeTurn_29 ?_
    refine lv_istore_n (lv' := [(2, .int (x5 + (1 : Int32))), (0, .ref a0), (1, .int p1)]) hx hb dX1_resumeTurn_30 rfl hl (by decide) rfl (fun ls hl => ?_)
    refine lv_aload_n hx hb dX1_resumeTurn_31 rfl (lv_at hl 1 rfl) ?_
    refine va_get (D := G) (ci := 1) (v := .ref a6) (C := RX1) (T := TX1) (N := 10) hx hb hts huX1_resumeTurn_X1 hown hK.1 hP 0 rfl rfl 2 (by decide) hw2 (fun _ h9 => h9) rfl dX1_resumeTurn_32 ?_
    refine lv_iload_n hx hb dX1_resumeTurn_35 rfl (lv_at hl 0 rfl) ?_
    obtain ⟨x6, ex6, h⟩ := o_b h
    refine call_vV (As := [.int (x5 + (1 : Int32))]) (rest := []) (ws2 := [(a0, .inr (1, [.ref a1, .ref a3, .ref a6, .ref a8, .int rd, .int tu, .int la, .int (bI dl), .int sh, .int tb])), (a1, .inr (4, [.int ft.1, .ref a2, .int ft.2.2.2])), (a2, .inl (cI, ft.2.1, .inl ft.2.2.1)), (a3, .inr (0, [.ref a4, .int eb])), (a4, .inr (4, [.int er.1, .ref a5, .int er.2.2.2])), (a5, .inl (cI, er.2.1, .inl er.2.2.1)), (a6, .inr (4, [.int x6.1, .ref a7, .int x6.2.2.2])), (a7, .inl (cI, x6.2.1, .inl x6.2.2.1)), (a8, .inr (4, [.int st.1, .ref a9, .int st.2.2.2])), (a9, .inl (cI, st.2.1, .inl st.2.2.1))]) ⟨hx, hb, hml, hown, hts⟩ (cX4_insert_ok l G cI cG a6 a7 fu x4 (x5 + (1 : Int32)) x6 ex6) (cwV 1 hts gX1_resumeTurn_X4_insert_115 rfl rfl rfl hdX4_insert ⟨Nat.le_of_ble_eq_true rfl, Nat.le_of_ble_eq_true rfl⟩) hP hD hS hA hK 4 rfl rfl rfl [6, 7] rfl rfl rfl rfl rfl rfl rfl rfl hl.1 (Nat.le_of_ble_eq_true rfl) dX1_resumeTurn_36 ⟨Nat.zero_le _, Nat.zero_le _⟩ (fun H locs hP hD hS => ?_)
    refine lv_aload_n hx hb dX1_resumeTurn_39 rfl (lv_at hl 1 rfl) ?_
    refine va_get (D := G) (ci := 1) (v := .ref a6) (C := RX1) (T := TX1) (N := 10) hx hb hts huX1_resumeTurn_X1 hown hK.1 hP 0 rfl rfl 2 (by decide) hw2 (fun _ h9 => h9) rfl dX1_resumeTurn_40 ?_
    refine lv_iload_n hx hb dX1_resumeTurn_43 rfl (lv_at hl 0 rfl) ?_
    refine lv_iconst (v := 0) hx hb dX1_resumeTurn_44 (by decide) ?_
    refine lv_iload_n hx hb dX1_resumeTurn_45 rfl (lv_at hl 2 rfl) ?_
    obtain ⟨x7, ex7, h⟩ := o_b h
    refine call_vV (As := [.int (x5 + (1 : Int32)), .int (0 : Int32), .int p1]) (rest := []) (ws2 := [(a0, .inr (1, [.ref a1, .ref a3, .ref a6, .ref a8, .int rd, .int tu, .int la, .int (bI dl), .int sh, .int tb])), (a1, .inr (4, [.int ft.1, .ref a2, .int ft.2.2.2])), (a2, .inl (cI, ft.2.1, .inl ft.2.2.1)), (a3, .inr (0, [.ref a4, .int eb])), (a4, .inr (4, [.int er.1, .ref a5, .int er.2.2.2])), (a5, .inl (cI, er.2.1, .inl er.2.2.1)), (a6, .inr (4, [.int x7.1, .ref a7, .int x7.2.2.2])), (a7, .inl (cI, x7.2.1, .inl x7.2.2.1)), (a8, .inr (4, [.int st.1, .ref a9, .int st.2.2.2])), (a9, .inl (cI, st.2.1, .inl st.2.2.1))]) ⟨hx, hb, hml, hown, hts⟩ (cX4_put_ok l G cI cG a6 a7 x6 (x5 + (1 : Int32)) (0 : Int32) p1 x7 ex7) (cwV 3 hts gX1_resumeTurn_X4_put_119 rfl rfl rfl hdX4_put ⟨Nat.le_of_ble_eq_true rfl, Nat.le_of_ble_eq_true rfl⟩) hP hD hS hA hK 4 rfl rfl rfl [6, 7] rfl rfl rfl rfl rfl rfl rfl rfl hl.1 (Nat.le_of_ble_eq_true rfl) dX1_resumeTurn_46 ⟨Nat.zero_le _, Nat.zero_le _⟩ (fun H locs hP hD hS => ?_)
    exact J49 x7 _ _ _ h hP hD hS (lv_sub hl [1, 2] rfl)
theorem hdX1_canAnswer : yX1_canAnswer.cls = RX1 ∧ yX1_canAnswer.cls ≠ "java/lang/invoke/MethodHandle" ∧ yX1_canAnswer.cls ≠ "java/lang/invoke/VarHandle" ∧ (parseMethodDescriptor yX1_canAnswer.desc).map (fun d => d.parameters.length) = some 1 := by decide +kernel
set_option maxHeartbeats 4000000 in
set_option maxRecDepth 100000 in
theorem cX1_canAnswer_ok (l : Launch) (G : va_G) (cI cG : ClassId) (a0 a1 a2 a3 a4 a5 a6 a7 a8 a9 : Nat) (ft : Tab) (er : Tab) (eb : Int32) (li : Tab) (st : Tab) (rd : Int32) (tu : Int32) (la : Int32) (dl : Bool) (sh : Int32) (tb : Int32) (p1 : Int32) (out : Bool) (hf : fX1_canAnswer ft st p1 = some out) : CI l G (tyz cI cG) yX1_canAnswer wsX1_canAnswer ({ frames := 2, cells := 0, slots := 0, locals := 45 } : Room) [.ref a0, .int p1] [(a0, .inr (1, [.ref a1, .ref a3, .ref a6, .ref a8, .int rd, .int tu, .int la, .int (bI dl), .int sh, .int tb])), (a1, .inr (4, [.int ft.1, .ref a2, .int ft.2.2.2])), (a2, .inl (cI, ft.2.1, .inl ft.2.2.1)), (a3, .inr (0, [.ref a4, .int eb])), (a4, .inr (4, [.int er.1, .ref a5, .int er.2.2.2])), (a5, .inl (cI, er.2.1, .inl er.2.2.1)), (a6, .inr (4, [.int li.1, .ref a7, .int li.2.2.2])), (a7, .inl (cI, li.2.1, .inl li.2.2.1)), (a8, .inr (4, [.int st.1, .ref a9, .int st.2.2.2])), (a9, .inl (cI, st.2.1, .inl st.2.2.1))] (bI out) [(a0, .inr (1, [.ref a1, .ref a3, .ref a6, .ref a8, .int rd, .int tu, .int la, .int (bI dl), .int sh, .int tb])), (a1, .inr (4, [.int ft.1, .ref a2, .int ft.2.2.2])), (a2, .inl (cI, ft.2.1, .inl ft.2.2.1)), (a3, .inr (0, [.ref a4, .int eb])), (a4, .inr (4, [.int er.1, .ref a5, .int er.2.2.2])), (a5, .inl (cI, er.2.1, .inl er.2.2.1)), (a6, .inr (4, [.int li.1, .ref a7, .int li.2.2.2])), (a7, .inl (cI, li.2.1, .inl li.2.2.1)), (a8, .inr (4, [.int st.1, .ref a9, .int st.2.2.2])), (a9, .inl (cI, st.2.1, .inl st.2.2.1))] := by
  intro sz
  refine Met.ofW (cc := cX1_canAnswer) (maxL := 4) (ret := (some .boolean)) (by decide) rfl ?_
  intro p e s m args below meth c s₁ B hml hv
  obtain ⟨rfl, hsz, hP, hK, hD0⟩ := hv
  have hx := B.exec
  have hb := B.bytes
  have hr := B.returns
  have hts := atoms_spec (ws := wsX1_canAnswer) B.pre
  have hown : s.vm.findClass RX1 = some m.cls := findClass_of_methodNamed B.named
  have hlocks := B.notSynchronized
  subst hsz
  have hD := hD0.self (sz := s.heap.size)
  generalize hAe : va_A ([(a0, .inr (1, [.ref a1, .ref a3, .ref a6, .ref a8, .int rd, .int tu, .int la, .int (bI dl), .int sh, .int tb])), (a1, .inr (4, [.int ft.1, .ref a2, .int ft.2.2.2])), (a2, .inl (cI, ft.2.1, .inl ft.2.2.1)), (a3, .inr (0, [.ref a4, .int eb])), (a4, .inr (4, [.int er.1, .ref a5, .int er.2.2.2])), (a5, .inl (cI, er.2.1, .inl er.2.2.1)), (a6, .inr (4, [.int li.1, .ref a7, .int li.2.2.2])), (a7, .inl (cI, li.2.1, .inl li.2.2.1)), (a8, .inr (4, [.int st.1, .ref a9, .int st.2.2.2])), (a9, .inl (cI, st.2.1, .inl st.2.2.1))]) s.heap.size = A at hD ⊢
  have hA : ∀ q : Nat, s.heap.size ≤ q → A q := fun q h => by rw [← hAe]; exact Or.inr h
  have hS : va_S A s.heap s.heap [] := va_S.rf
  have hw0 := hts (.fieldLink RX1 30 "SpeedTurns$Game" "stack" "LSpeedTurns$Table;") (List.mem_of_getElem? (i := 1) rfl)
  have hw1 := hts (.fieldLink RX1 16 "SpeedTurns$Game" "fighters" "LSpeedTurns$Table;") (List.mem_of_getElem? (i := 13) rfl)
  show W p l e ({ frames := 2, cells := 0, slots := 0, locals := 45 } : Room) s m _ below meth c s.heap [] 0 0 _ _
  refine W_genQ (fun Q hQ => ?_)
  have J52 : ∀ (v2 : Bool) (t0 : Bool) (H : Heap) (locs : List Loc) (ls : Array Slot), fX1_canAnswer_J52 ft st p1 v2 t0 = some out → va_P G vwCl ([(a0, .inr (1, [.ref a1, .ref a3, .ref a6, .ref a8, .int rd, .int tu, .int la, .int (bI dl), .int sh, .int tb])), (a1, .inr (4, [.int ft.1, .ref a2, .int ft.2.2.2])), (a2, .inl (cI, ft.2.1, .inl ft.2.2.1)), (a3, .inr (0, [.ref a4, .int eb])), (a4, .inr (4, [.int er.1, .ref a5, .int er.2.2.2])), (a5, .inl (cI, er.2.1, .inl er.2.2.1)), (a6, .inr (4, [.int li.1, .ref a7, .int li.2.2.2])), (a7, .inl (cI, li.2.1, .inl li.2.2.1)), (a8, .inr (4, [.int st.1, .ref a9, .int st.2.2.2])), (a9, .inl (cI, st.2.1, .inl st.2.2.1))]) H → va_D A ([(a0, .inr (1, [.ref a1, .ref a3, .ref a6, .ref a8, .int rd, .int tu, .int la, .int (bI dl), .int sh, .int tb])), (a1, .inr (4, [.int ft.1, .ref a2, .int ft.2.2.2])), (a2, .inl (cI, ft.2.1, .inl ft.2.2.1)), (a3, .inr (0, [.ref a4, .int eb])), (a4, .inr (4, [.int er.1, .ref a5, .int er.2.2.2])), (a5, .inl (cI, er.2.1, .inl er.2.2.1)), (a6, .inr (4, [.int li.1, .ref a7, .int li.2.2.2])), (a7, .inl (cI, li.2.1, .inl li.2.2.1)), (a8, .inr (4, [.int st.1, .ref a9, .int st.2.2.2])), (a9, .inl (cI, st.2.1, .inl st.2.2.1))]) → va_S A s.heap H locs → lv_has ls 4 [(0, .ref a0), (1, .int p1), (2, .int (bI v2))] → W p l e ({ frames := 2, cells := 0, slots := 0, locals := 45 } : Room) s m ([.ref a0, .int p1] : List Value).toArray below meth c H locs 0 0 Q (F0 m 52 ls [.int (bI t0)]) := by
    intro v2 t0 H locs ls h hP hD hS hl
    rw [fX1_canAnswer_J52] at h
    refine lv_istore_n (lv' := [(3, .int (bI t0)), (0, .ref a0), (1, .int p1), (2, .int (bI v2))]) hx hb dX1_canAnswer_52 rfl hl (by decide) rfl (fun ls hl => ?_)
    refine lv_iload_n hx hb dX1_canAnswer_53 rfl (lv_at hl 3 rfl) ?_
    refine lv_if_eq (tgt := 75) hx hb dX1_canAnswer_54 (by decide) (fun hc => ?_) (fun hc => ?_)
    · have h := o_t h hc
      refine lv_iconst (v := 0) hx hb dX1_canAnswer_75 (by decide) ?_
      obtain rfl := o_s h
      rw [hQ]
      exact end_z hx hb hr rfl rfl hP hD hS dX1_canAnswer_76 hlocks
    · have h := o_f h hc
      refine lv_iload_n hx hb dX1_canAnswer_57 rfl (lv_at hl 0 rfl) ?_
      refine lv_if_eq (tgt := 75) hx hb dX1_canAnswer_58 (by decide) (fun hc => ?_) (fun hc => ?_)
      · have h := o_t h hc
        refine lv_iconst (v := 0) hx hb dX1_canAnswer_75 (by decide) ?_
        obtain rfl := o_s h
        rw [hQ]
        exact end_z hx hb hr rfl rfl hP hD hS dX1_canAnswer_76 hlocks
      · have h := o_f h hc
        refine lv_aload_n hx hb dX1_canAnswer_61 rfl (lv_at hl 1 rfl) ?_
        refine lv_iconst (v := 0) hx hb dX1_canAnswer_62 (by decide) ?_
        refine lv_iconst (v := 1) hx hb dX1_canAnswer_63 (by decide) ?_
        obtain ⟨x3, ex3, h⟩ := o_b h
        refine call_iV (As := [.int (0 : Int32), .int (1 : Int32)]) (rest := []) (ws2 := [(a0, .inr (1, [.ref a1, .ref a3, .ref a6, .ref a8, .int rd, .int tu, .int la, .int (bI dl), .int sh, .int tb])), (a1, .inr (4, [.int ft.1, .ref a2, .int ft.2.2.2])), (a2, .inl (cI, ft.2.1, .inl ft.2.2.1)), (a3, .inr (0, [.ref a4, .int eb])), (a4, .inr (4, [.int er.1, .ref a5, .int er.2.2.2])), (a5, .inl (cI, er.2.1, .inl er.2.2.1)), (a6, .inr (4, [.int li.1, .ref a7, .int li.2.2.2])), (a7, .inl (cI, li.2.1, .inl li.2.2.1)), (a8, .inr (4, [.int st.1, .ref a9, .int st.2.2.2])), (a9, .inl (cI, st.2.1, .inl st.2.2.1))]) ⟨hx, hb, hml, hown, hts⟩ (cX1_aboutAct_ok l G cI cG a0 a1 a2 a3 a4 a5 a6 a7 a8 a9 ft er eb li st rd tu la dl sh tb (0 : Int32) (1 : Int32) x3 ex3) (cwV 2 hts gX1_canAnswer_X1_aboutAct_169 rfl rfl rfl hdX1_aboutAct ⟨Nat.le_of_ble_eq_true rfl, Nat.le_of_ble_eq_true rfl⟩) hP hD hS hA hK 1 rfl rfl rfl [0, 1, 2, 3, 4, 5, 6, 7, 8, 9] rfl rfl rfl rfl rfl rfl rfl rfl hl.1 (Nat.le_of_ble_eq_true rfl) dX1_canAnswer_64 ⟨Nat.zero_le _, Nat.zero_le _⟩ (fun H locs hP hD hS => ?_)
        refine lv_iload_n hx hb dX1_canAnswer_67 rfl (lv_at hl 2 rfl) ?_
        refine lv_icmp_eq (tgt := 75) hx hb dX1_canAnswer_68 (by decide) (fun hc => ?_) (fun hc => ?_)
        · have h := o_t h hc
          refine lv_iconst (v := 0) hx hb dX1_canAnswer_75 (by decide) ?_
          obtain rfl := o_s h
          rw [hQ]
          exact end_z hx hb hr rfl rfl hP hD hS dX1_canAnswer_76 hlocks
        · have h := o_f h hc
          refine lv_iconst (v := 1) hx hb dX1_canAnswer_71 (by decide) ?_
          refine lv_goto (tgt := 76) hx hb dX1_canAnswer_72 (by decide) ?_
          obtain rfl := o_s h
          rw [hQ]
          exact end_z hx hb hr rfl rfl hP hD hS dX1_canAnswer_76 hlocks
  have J51 : ∀ (v2 : Bool) (H : Heap) (locs : List Loc) (ls : Array Slot), fX1_canAnswer_J51 ft st p1 v2 = some out → va_P G vwCl ([(a0, .inr (1, [.ref a1, .ref a3, .ref a6, .ref a8, .int rd, .int tu, .int la, .int (bI dl), .int sh, .int tb])), (a1, .inr (4, [.int ft.1, .ref a2, .int ft.2.2.2])), (a2, .inl (cI, ft.2.1, .inl ft.2.2.1)), (a3, .inr (0, [.ref a4, .int eb])), (a4, .inr (4, [.int er.1, .ref a5, .int er.2.2.2])), (a5, .inl (cI, er.2.1, .inl er.2.2.1)), (a6, .inr (4, [.int li.1, .ref a7, .int li.2.2.2])), (a7, .inl (cI, li.2.1, .inl li.2.2.1)), (a8, .inr (4, [.int st.1, .ref a9, .int st.2.2.2])), (a9, .inl (cI, st.2.1, .inl st.2.2.1))]) H → va_D A ([(a0, .inr (1, [.ref a1, .ref a3, .ref a6, .ref a8, .int rd, .int tu, .int la, .int (bI dl), .int sh, .int tb])), (a1, .inr (4, [.int ft.1, .ref a2, .int ft.2.2.2])), (a2, .inl (cI, ft.2.1, .inl ft.2.2.1)), (a3, .inr (0, [.ref a4, .int eb])), (a4, .inr (4, [.int er.1, .ref a5, .int er.2.2.2])), (a5, .inl (cI, er.2.1, .inl er.2.2.1)), (a6, .inr (4, [.int li.1, .ref a7, .int li.2.2.2])), (a7, .inl (cI, li.2.1, .inl li.2.2.1)), (a8, .inr (4, [.int st.1, .ref a9, .int st.2.2.2])), (a9, .inl (cI, st.2.1, .inl st.2.2.1))]) → va_S A s.heap H locs → lv_has ls 4 [(0, .ref a0), (1, .int p1), (2, .int (bI v2))] → W p l e ({ frames := 2, cells := 0, slots := 0, locals := 45 } : Room) s m ([.ref a0, .int p1] : List Value).toArray below meth c H locs 0 0 Q (F0 m 51 ls []) := by
    intro v2 H locs ls h hP hD hS hl
    rw [fX1_canAnswer_J51] at h
    refine lv_iconst (v := 0) hx hb dX1_canAnswer_51 (by decide) ?_
    exact J52 v2 false _ _ _ h hP hD hS (lv_sub hl [0, 1, 2] rfl)
  have J25 : ∀ (t0 : Bool) (H : Heap) (locs : List Loc) (ls : Array Slot), fX1_canAnswer_J25 ft st p1 t0 = some out → va_P G vwCl ([(a0, .inr (1, [.ref a1, .ref a3, .ref a6, .ref a8, .int rd, .int tu, .int la, .int (bI dl), .int sh, .int tb])), (a1, .inr (4, [.int ft.1, .ref a2, .int ft.2.2.2])), (a2, .inl (cI, ft.2.1, .inl ft.2.2.1)), (a3, .inr (0, [.ref a4, .int eb])), (a4, .inr (4, [.int er.1, .ref a5, .int er.2.2.2])), (a5, .inl (cI, er.2.1, .inl er.2.2.1)), (a6, .inr (4, [.int li.1, .ref a7, .int li.2.2.2])), (a7, .inl (cI, li.2.1, .inl li.2.2.1)), (a8, .inr (4, [.int st.1, .ref a9, .int st.2.2.2])), (a9, .inl (cI, st.2.1, .inl st.2.2.1))]) H → va_D A ([(a0, .inr (1, [.ref a1, .ref a3, .ref a6, .ref a8, .int rd, .int tu, .int la, .int (bI dl), .int sh, .int tb])), (a1, .inr (4, [.int ft.1, .ref a2, .int ft.2.2.2])), (a2, .inl (cI, ft.2.1, .inl ft.2.2.1)), (a3, .inr (0, [.ref a4, .int eb])), (a4, .inr (4, [.int er.1, .ref a5, .int er.2.2.2])), (a5, .inl (cI, er.2.1, .inl er.2.2.1)), (a6, .inr (4, [.int li.1, .ref a7, .int li.2.2.2])), (a7, .inl (cI, li.2.1, .inl li.2.2.1)), (a8, .inr (4, [.int st.1, .ref a9, .int st.2.2.2])), (a9, .inl (cI, st.2.1, .inl st.2.2.1))]) → va_S A s.heap H locs → lv_has ls 4 [(0, .ref a0), (1, .int p1)] → W p l e ({ frames := 2, cells := 0, slots := 0, locals := 45 } : Room) s m ([.ref a0, .int p1] : List Value).toArray below meth c H locs 0 0 Q (F0 m 25 ls [.int (bI t0)]) := by
    intro t0 H locs ls h hP hD hS hl
    rw [fX1_canAnswer_J25] at h
    refine lv_istore_n (lv' := [(2, .int (bI t0)), (0, .ref a0), (1, .int p1)]) hx hb dX1_canAnswer_25 rfl hl (by decide) rfl (fun ls hl => ?_)
    refine lv_aload_n hx hb dX1_canAnswer_26 rfl (lv_at hl 1 rfl) ?_
    refine lv_iload_n hx hb dX1_canAnswer_27 rfl (lv_at hl 2 rfl) ?_
    obtain ⟨x2, ex2, h⟩ := o_b h
    refine call_iV (As := [.int p1]) (rest := []) (ws2 := [(a0, .inr (1, [.ref a1, .ref a3, .ref a6, .ref a8, .int rd, .int tu, .int la, .int (bI dl), .int sh, .int tb])), (a1, .inr (4, [.int ft.1, .ref a2, .int ft.2.2.2])), (a2, .inl (cI, ft.2.1, .inl ft.2.2.1)), (a3, .inr (0, [.ref a4, .int eb])), (a4, .inr (4, [.int er.1, .ref a5, .int er.2.2.2])), (a5, .inl (cI, er.2.1, .inl er.2.2.1)), (a6, .inr (4, [.int li.1, .ref a7, .int li.2.2.2])), (a7, .inl (cI, li.2.1, .inl li.2.2.1)), (a8, .inr (4, [.int st.1, .ref a9, .int st.2.2.2])), (a9, .inl (cI, st.2.1, .inl st.2.2.1))]) ⟨hx, hb, hml, hown, hts⟩ (cX1_stands_ok l G cI cG a0 a1 a2 a3 a4 a5 a6 a7 a8 a9 ft er eb li st rd tu la dl sh tb p1 x2 ex2) (cwV 1 hts gX1_canAnswer_X1_stands_104 rfl rfl rfl hdX1_stands ⟨Nat.le_of_ble_eq_true rfl, Nat.le_of_ble_eq_true rfl⟩) hP hD hS hA hK 1 rfl rfl rfl [0, 1, 2, 3, 4, 5, 6, 7, 8, 9] rfl rfl rfl rfl rfl rfl rfl rfl hl.1 (Nat.le_of_ble_eq_true rfl) dX1_canAnswer_28 ⟨Nat.zero_le _, Nat.zero_le _⟩ (fun H locs hP hD hS => ?_)
    refine lv_if_eq (tgt := 51) hx hb dX1_canAnswer_31 (by decide) (fun hc => ?_) (fun hc => ?_)
    · have h := o_t h hc
      exact J51 t0 _ _ _ h hP hD hS (lv_sub hl [1, 2, 0] rfl)
    · have h := o_f h hc
      refine lv_aload_n hx hb dX1_canAnswer_34 rfl (lv_at hl 1 rfl) ?_
      refine va_get (D := G) (ci := 1) (v := .ref a1) (C := RX1) (T := TX1) (N := 10) hx hb hts huX1_canAnswer_X1 hown hK.1 hP 0 rfl rfl 0 (by decide) hw1 (fun _ h9 => h9) rfl dX1_canAnswer_35 ?_
      refine lv_iload_n hx hb dX1_canAnswer_38 rfl (lv_at hl 2 rfl) ?_
      refine lv_iconst (v := 3) hx hb dX1_canAnswer_39 (by decide) ?_
      obtain ⟨x4, ex4, h⟩ := o_b h
      refine call_iV (As := [.int p1, .int (3 : Int32)]) (rest := []) (ws2 := [(a0, .inr (1, [.ref a1, .ref a3, .ref a6, .ref a8, .int rd, .int tu, .int la, .int (bI dl), .int sh, .int tb])), (a1, .inr (4, [.int ft.1, .ref a2, .int ft.2.2.2])), (a2, .inl (cI, ft.2.1, .inl ft.2.2.1)), (a3, .inr (0, [.ref a4, .int eb])), (a4, .inr (4, [.int er.1, .ref a5, .int er.2.2.2])), (a5, .inl (cI, er.2.1, .inl er.2.2.1)), (a6, .inr (4, [.int li.1, .ref a7, .int li.2.2.2])), (a7, .inl (cI, li.2.1, .inl li.2.2.1)), (a8, .inr (4, [.int st.1, .ref a9, .int st.2.2.2])), (a9, .inl (cI, st.2.1, .inl st.2.2.1))]) ⟨hx, hb, hml, hown, hts⟩ (cX4_at_ok l G cI cG a1 a2 ft p1 (3 : Int32) x4 ex4) (cwV 2 hts gX1_canAnswer_X4_at_64 rfl rfl rfl hdX4_at ⟨Nat.le_of_ble_eq_true rfl, Nat.le_of_ble_eq_true rfl⟩) hP hD hS hA hK 4 rfl rfl rfl [1, 2] rfl rfl rfl rfl rfl rfl rfl rfl hl.1 (Nat.le_of_ble_eq_true rfl) dX1_canAnswer_40 ⟨Nat.zero_le _, Nat.zero_le _⟩ (fun H locs hP hD hS => ?_)
      refine lv_iconst (v := 1) hx hb dX1_canAnswer_43 (by decide) ?_
      refine lv_icmp_ne (tgt := 51) hx hb dX1_canAnswer_44 (by decide) (fun hc => ?_) (fun hc => ?_)
      · have h := o_f h hc
        exact J51 t0 _ _ _ h hP hD hS (lv_sub hl [1, 2, 0] rfl)
      · have h := o_t h hc
        refine lv_iconst (v := 1) hx hb dX1_canAnswer_47 (by decide) ?_
        refine lv_goto (tgt := 52) hx hb dX1_canAnswer_48 (by decide) ?_
        exact J52 t0 true _ _ _ h hP hD hS (lv_sub hl [1, 2, 0] rfl)
  have J24 : ∀  (H : Heap) (locs : List Loc) (ls : Array Slot), fX1_canAnswer_J24 ft st p1 = some out → va_P G vwCl ([(a0, .inr (1, [.ref a1, .ref a3, .ref a6, .ref a8, .int rd, .int tu, .int la, .int (bI dl), .int sh, .int tb])), (a1, .inr (4, [.int ft.1, .ref a2, .int ft.2.2.2])), (a2, .inl (cI, ft.2.1, .inl ft.2.2.1)), (a3, .inr (0, [.ref a4, .int eb])), (a4, .inr (4, [.int er.1, .ref a5, .int er.2.2.2])), (a5, .inl (cI, er.2.1, .inl er.2.2.1)), (a6, .inr (4, [.int li.1, .ref a7, .int li.2.2.2])), (a7, .inl (cI, li.2.1, .inl li.2.2.1)), (a8, .inr (4, [.int st.1, .ref a9, .int st.2.2.2])), (a9, .inl (cI, st.2.1, .inl st.2.2.1))]) H → va_D A ([(a0, .inr (1, [.ref a1, .ref a3, .ref a6, .ref a8, .int rd, .int tu, .int la, .int (bI dl), .int sh, .int tb])), (a1, .inr (4, [.int ft.1, .ref a2, .int ft.2.2.2])), (a2, .inl (cI, ft.2.1, .inl ft.2.2.1)), (a3, .inr (0, [.ref a4, .int eb])), (a4, .inr (4, [.int er.1, .ref a5, .int er.2.2.2])), (a5, .inl (cI, er.2.1, .inl er.2.2.1)), (a6, .inr (4, [.int li.1, .ref a7, .int li.2.2.2])), (a7, .inl (cI, li.2.1, .inl li.2.2.1)), (a8, .inr (4, [.int st.1, .ref a9, .int st.2.2.2])), (a9, .inl (cI, st.2.1, .inl st.2.2.1))]) → va_S A s.heap H locs → lv_has ls 4 [(0, .ref a0), (1, .int p1)] → W p l e ({ frames := 2, cells := 0, slots := 0, locals := 45 } : Room) s m ([.ref a0, .int p1] : List Value).toArray below meth c H locs 0 0 Q (F0 m 24 ls []) := by
    intro  H locs ls h hP hD hS hl
    rw [fX1_canAnswer_J24] at h
    refine lv_iconst (v := 0) hx hb dX1_canAnswer_24 (by decide) ?_
    exact J25 false _ _ _ h hP hD hS (lv_sub hl [0, 1] rfl)
  have h := hf
  rw [fX1_canAnswer] at h
  have hl := lv_entry ([.ref a0, .int p1]) (n := 4) (Nat.le_of_ble_eq_true rfl)
  rw [lg_entry_eq]
  generalize (lg_sl ([.ref a0, .int p1]) ++ List.replicate (4 - (lg_sl ([.ref a0, .int p1])).length) Slot.unset).toArray = ls at hl ⊢
  have hl : lv_has ls 4 [(0, .ref a0), (1, .int p1)] := hl
  refine lv_aload_n hx hb dX1_canAnswer_0 rfl (lv_at hl 0 rfl) ?_
  refine va_get (D := G) (ci := 1) (v := .ref a8) (C := RX1) (T := TX1) (N := 10) hx hb hts huX1_canAnswer_X1 hown hK.1 hP 0 rfl rfl 3 (by decide) hw0 (fun _ h9 => h9) rfl dX1_canAnswer_1 ?_
  obtain ⟨x1, ex1, h⟩ := o_b h
  refine call_iV (As := []) (rest := []) (ws2 := [(a0, .inr (1, [.ref a1, .ref a3, .ref a6, .ref a8, .int rd, .int tu, .int la, .int (bI dl), .int sh, .int tb])), (a1, .inr (4, [.int ft.1, .ref a2, .int ft.2.2.2])), (a2, .inl (cI, ft.2.1, .inl ft.2.2.1)), (a3, .inr (0, [.ref a4, .int eb])), (a4, .inr (4, [.int er.1, .ref a5, .int er.2.2.2])), (a5, .inl (cI, er.2.1, .inl er.2.2.1)), (a6, .inr (4, [.int li.1, .ref a7, .int li.2.2.2])), (a7, .inl (cI, li.2.1, .inl li.2.2.1)), (a8, .inr (4, [.int st.1, .ref a9, .int st.2.2.2])), (a9, .inl (cI, st.2.1, .inl st.2.2.1))]) ⟨hx, hb, hml, hown, hts⟩ (cX4_count_ok l G cI cG a8 a9 st x1 ex1) (cwV 0 hts gX1_canAnswer_X4_count_60 rfl rfl rfl hdX4_count ⟨Nat.le_of_ble_eq_true rfl, Nat.le_of_ble_eq_true rfl⟩) hP hD hS hA hK 4 rfl rfl rfl [8, 9] rfl rfl rfl rfl rfl rfl rfl rfl hl.1 (Nat.le_of_ble_eq_true rfl) dX1_canAnswer_4 ⟨Nat.zero_le _, Nat.zero_le _⟩ (fun H locs hP hD hS => ?_)
  refine lv_if_le (tgt := 24) hx hb dX1_canAnswer_7 (by decide) (fun hc => ?_) (fun hc => ?_)
  · have h := o_t h hc
    exact J24  _ _ _ h hP hD hS (lv_sub hl [0, 1] rfl)
  · have h := o_f h hc
    refine lv_aload_n hx hb dX1_canAnswer_10 rfl (lv_at hl 0 rfl) ?_
    refine va_get (D := G) (ci := 1) (v := .ref a8) (C := RX1) (T := TX1) (N := 10) hx hb hts huX1_canAnswer_X1 hown hK.1 hP 0 rfl rfl 3 (by decide) hw0 (fun _ h9 => h9) rfl dX1_canAnswer_11 ?_
    obtain ⟨x5, ex5, h⟩ := o_b h
    refine call_iV (As := []) (rest := []) (ws2 := [(a0, .inr (1, [.ref a1, .ref a3, .ref a6, .ref a8, .int rd, .int tu, .int la, .int (bI dl), .int sh, .int tb])), (a1, .inr (4, [.int ft.1, .ref a2, .int ft.2.2.2])), (a2, .inl (cI, ft.2.1, .inl ft.2.2.1)), (a3, .inr (0, [.ref a4, .int eb])), (a4, .inr (4, [.int er.1, .ref a5, .int er.2.2.2])), (a5, .inl (cI, er.2.1, .inl er.2.2.1)), (a6, .inr (4, [.int li.1, .ref a7, .int li.2.2.2])), (a7, .inl (cI, li.2.1, .inl li.2.2.1)), (a8, .inr (4, [.int st.1, .ref a9, .int st.2.2.2])), (a9, .inl (cI, st.2.1, .inl st.2.2.1))]) ⟨hx, hb, hml, hown, hts⟩ (cX4_isFull_ok l G cI cG a8 a9 st x5 ex5) (cwV 0 hts gX1_canAnswer_X4_isFull_165 rfl rfl rfl hdX4_isFull ⟨Nat.le_of_ble_eq_true rfl, Nat.le_of_ble_eq_true rfl⟩) hP hD hS hA hK 4 rfl rfl rfl [8, 9] rfl rfl rfl rfl rfl rfl rfl rfl hl.1 (Nat.le_of_ble_eq_true rfl) dX1_canAnswer_14 ⟨Nat.zero_le _, Nat.zero_le _⟩ (fun H locs hP hD hS => ?_)
    refine lv_if_ne (tgt := 24) hx hb dX1_canAnswer_17 (by decide) (fun hc => ?_) (fun hc => ?_)
    · have h := o_f h hc
      exact J24  _ _ _ h hP hD hS (lv_sub hl [0, 1] rfl)
    · have h := o_t h hc
      refine lv_iconst (v := 1) hx hb dX1_canAnswer_20 (by decide) ?_
      refine lv_goto (tgt := 25) hx hb dX1_canAnswer_21 (by decide) ?_
      exact J25 true _ _ _ h hP hD hS (lv_sub hl [0, 1] rfl)
theorem hdX1_mayAct : yX1_mayAct.cls = RX1 ∧ yX1_mayAct.cls ≠ "java/lang/invoke/MethodHandle" ∧ yX1_mayAct.cls ≠ "java/lang/invoke/VarHandle" ∧ (parseMethodDescriptor yX1_mayAct.desc).map (fun d => d.parameters.length) = some 2 := by decide +kernel
set_option maxHeartbeats 4000000 in
set_option maxRecDepth 100000 in
theorem cX1_mayAct_ok (l : Launch) (G : va_G) (cI cG : ClassId) (a0 a1 a2 a3 a4 a5 a6 a7 a8 a9 : Nat) (ft : Tab) (er : Tab) (eb : Int32) (li : Tab) (st : Tab) (rd : Int32) (tu : Int32) (la : Int32) (dl : Bool) (sh : Int32) (tb : Int32) (p1 : Int32) (p2 : Int32) (out : Bool) (hf : fX1_mayAct ft st tu p1 p2 = some out) : CI l G (tyz cI cG) yX1_mayAct wsX1_mayAct ({ frames := 3, cells := 0, slots := 0, locals := 68 } : Room) [.ref a0, .int p1, .int p2] [(a0, .inr (1, [.ref a1, .ref a3, .ref a6, .ref a8, .int rd, .int tu, .int la, .int (bI dl), .int sh, .int tb])), (a1, .inr (4, [.int ft.1, .ref a2, .int ft.2.2.2])), (a2, .inl (cI, ft.2.1, .inl ft.2.2.1)), (a3, .inr (0, [.ref a4, .int eb])), (a4, .inr (4, [.int er.1, .ref a5, .int er.2.2.2])), (a5, .inl (cI, er.2.1, .inl er.2.2.1)), (a6, .inr (4, [.int li.1, .ref a7, .int li.2.2.2])), (a7, .inl (cI, li.2.1, .inl li.2.2.1)), (a8, .inr (4, [.int st.1, .ref a9, .int st.2.2.2])), (a9, .inl (cI, st.2.1, .inl st.2.2.1))] (bI out) [(a0, .inr (1, [.ref a1, .ref a3, .ref a6, .ref a8, .int rd, .int tu, .int la, .int (bI dl), .int sh, .int tb])), (a1, .inr (4, [.int ft.1, .ref a2, .int ft.2.2.2])), (a2, .inl (cI, ft.2.1, .inl ft.2.2.1)), (a3, .inr (0, [.ref a4, .int eb])), (a4, .inr (4, [.int er.1, .ref a5, .int er.2.2.2])), (a5, .inl (cI, er.2.1, .inl er.2.2.1)), (a6, .inr (4, [.int li.1, .ref a7, .int li.2.2.2])), (a7, .inl (cI, li.2.1, .inl li.2.2.1)), (a8, .inr (4, [.int st.1, .ref a9, .int st.2.2.2])), (a9, .inl (cI, st.2.1, .inl st.2.2.1))] := by
  intro sz
  refine Met.ofW (cc := cX1_mayAct) (maxL := 3) (ret := (some .boolean)) (by decide) rfl ?_
  intro p e s m args below meth c s₁ B hml hv
  obtain ⟨rfl, hsz, hP, hK, hD0⟩ := hv
  have hx := B.exec
  have hb := B.bytes
  have hr := B.returns
  have hts := atoms_spec (ws := wsX1_mayAct) B.pre
  have hown : s.vm.findClass RX1 = some m.cls := findClass_of_methodNamed B.named
  have hlocks := B.notSynchronized
  subst hsz
  have hD := hD0.self (sz := s.heap.size)
  generalize hAe : va_A ([(a0, .inr (1, [.ref a1, .ref a3, .ref a6, .ref a8, .int rd, .int tu, .int la, .int (bI dl), .int sh, .int tb])), (a1, .inr (4, [.int ft.1, .ref a2, .int ft.2.2.2])), (a2, .inl (cI, ft.2.1, .inl ft.2.2.1)), (a3, .inr (0, [.ref a4, .int eb])), (a4, .inr (4, [.int er.1, .ref a5, .int er.2.2.2])), (a5, .inl (cI, er.2.1, .inl er.2.2.1)), (a6, .inr (4, [.int li.1, .ref a7, .int li.2.2.2])), (a7, .inl (cI, li.2.1, .inl li.2.2.1)), (a8, .inr (4, [.int st.1, .ref a9, .int st.2.2.2])), (a9, .inl (cI, st.2.1, .inl st.2.2.1))]) s.heap.size = A at hD ⊢
  have hA : ∀ q : Nat, s.heap.size ≤ q → A q := fun q h => by rw [← hAe]; exact Or.inr h
  have hS : va_S A s.heap s.heap [] := va_S.rf
  have hw0 := hts (.fieldLink RX1 30 "SpeedTurns$Game" "stack" "LSpeedTurns$Table;") (List.mem_of_getElem? (i := 1) rfl)
  have hw1 := hts (.fieldLink RX1 37 "SpeedTurns$Game" "turn" "I") (List.mem_of_getElem? (i := 6) rfl)
  show W p l e ({ frames := 3, cells := 0, slots := 0, locals := 68 } : Room) s m _ below meth c s.heap [] 0 0 _ _
  refine W_genQ (fun Q hQ => ?_)
  have h := hf
  rw [fX1_mayAct] at h
  have hl := lv_entry ([.ref a0, .int p1, .int p2]) (n := 3) (Nat.le_of_ble_eq_true rfl)
  rw [lg_entry_eq]
  generalize (lg_sl ([.ref a0, .int p1, .int p2]) ++ List.replicate (3 - (lg_sl ([.ref a0, .int p1, .int p2])).length) Slot.unset).toArray = ls at hl ⊢
  have hl : lv_has ls 3 [(0, .ref a0), (1, .int p1), (2, .int p2)] := hl
  refine lv_aload_n hx hb dX1_mayAct_0 rfl (lv_at hl 0 rfl) ?_
  refine va_get (D := G) (ci := 1) (v := .ref a8) (C := RX1) (T := TX1) (N := 10) hx hb hts huX1_mayAct_X1 hown hK.1 hP 0 rfl rfl 3 (by decide) hw0 (fun _ h9 => h9) rfl dX1_mayAct_1 ?_
  obtain ⟨x1, ex1, h⟩ := o_b h
  refine call_iV (As := []) (rest := []) (ws2 := [(a0, .inr (1, [.ref a1, .ref a3, .ref a6, .ref a8, .int rd, .int tu, .int la, .int (bI dl), .int sh, .int tb])), (a1, .inr (4, [.int ft.1, .ref a2, .int ft.2.2.2])), (a2, .inl (cI, ft.2.1, .inl ft.2.2.1)), (a3, .inr (0, [.ref a4, .int eb])), (a4, .inr (4, [.int er.1, .ref a5, .int er.2.2.2])), (a5, .inl (cI, er.2.1, .inl er.2.2.1)), (a6, .inr (4, [.int li.1, .ref a7, .int li.2.2.2])), (a7, .inl (cI, li.2.1, .inl li.2.2.1)), (a8, .inr (4, [.int st.1, .ref a9, .int st.2.2.2])), (a9, .inl (cI, st.2.1, .inl st.2.2.1))]) ⟨hx, hb, hml, hown, hts⟩ (cX4_count_ok l G cI cG a8 a9 st x1 ex1) (cwV 0 hts gX1_mayAct_X4_count_60 rfl rfl rfl hdX4_count ⟨Nat.le_of_ble_eq_true rfl, Nat.le_of_ble_eq_true rfl⟩) hP hD hS hA hK 4 rfl rfl rfl [8, 9] rfl rfl rfl rfl rfl rfl rfl rfl hl.1 (Nat.le_of_ble_eq_true rfl) dX1_mayAct_4 ⟨Nat.zero_le _, Nat.zero_le _⟩ (fun H locs hP hD hS => ?_)
  refine lv_if_le (tgt := 16) hx hb dX1_mayAct_7 (by decide) (fun hc => ?_) (fun hc => ?_)
  · have h := o_t h hc
    refine lv_aload_n hx hb dX1_mayAct_16 rfl (lv_at hl 0 rfl) ?_
    refine va_get (D := G) (ci := 1) (v := .int tu) (C := RX1) (T := TX1) (N := 10) hx hb hts huX1_mayAct_X1 hown hK.1 hP 0 rfl rfl 5 (by decide) hw1 (fun _ h9 => h9) rfl dX1_mayAct_17 ?_
    refine lv_iconst (v := (-1)) hx hb dX1_mayAct_20 (by decide) ?_
    refine lv_icmp_eq (tgt := 41) hx hb dX1_mayAct_21 (by decide) (fun hc => ?_) (fun hc => ?_)
    · have h := o_t h hc
      refine lv_iconst (v := 0) hx hb dX1_mayAct_41 (by decide) ?_
      obtain rfl := o_s h
      rw [hQ]
      exact end_z hx hb hr rfl rfl hP hD hS dX1_mayAct_42 hlocks
    · have h := o_f h hc
      refine lv_iload_n hx hb dX1_mayAct_24 rfl (lv_at hl 1 rfl) ?_
      refine lv_aload_n hx hb dX1_mayAct_25 rfl (lv_at hl 0 rfl) ?_
      refine va_get (D := G) (ci := 1) (v := .int tu) (C := RX1) (T := TX1) (N := 10) hx hb hts huX1_mayAct_X1 hown hK.1 hP 0 rfl rfl 5 (by decide) hw1 (fun _ h9 => h9) rfl dX1_mayAct_26 ?_
      refine lv_icmp_ne (tgt := 41) hx hb dX1_mayAct_29 (by decide) (fun hc => ?_) (fun hc => ?_)
      · have h := o_f h hc
        refine lv_iconst (v := 0) hx hb dX1_mayAct_41 (by decide) ?_
        obtain rfl := o_s h
        rw [hQ]
        exact end_z hx hb hr rfl rfl hP hD hS dX1_mayAct_42 hlocks
      · have h := o_t h hc
        refine lv_iload_n hx hb dX1_mayAct_32 rfl (lv_at hl 2 rfl) ?_
        refine lv_iconst (v := 3) hx hb dX1_mayAct_33 (by decide) ?_
        refine lv_icmp_eq (tgt := 41) hx hb dX1_mayAct_34 (by decide) (fun hc => ?_) (fun hc => ?_)
        · have h := o_t h hc
          refine lv_iconst (v := 0) hx hb dX1_mayAct_41 (by decide) ?_
          obtain rfl := o_s h
          rw [hQ]
          exact end_z hx hb hr rfl rfl hP hD hS dX1_mayAct_42 hlocks
        · have h := o_f h hc
          refine lv_iconst (v := 1) hx hb dX1_mayAct_37 (by decide) ?_
          refine lv_goto (tgt := 42) hx hb dX1_mayAct_38 (by decide) ?_
          obtain rfl := o_s h
          rw [hQ]
          exact end_z hx hb hr rfl rfl hP hD hS dX1_mayAct_42 hlocks
  · have h := o_f h hc
    refine lv_aload_n hx hb dX1_mayAct_10 rfl (lv_at hl 0 rfl) ?_
    refine lv_iload_n hx hb dX1_mayAct_11 rfl (lv_at hl 1 rfl) ?_
    obtain ⟨x2, ex2, h⟩ := o_b h
    refine call_iV (As := [.int p1]) (rest := []) (ws2 := [(a0, .inr (1, [.ref a1, .ref a3, .ref a6, .ref a8, .int rd, .int tu, .int la, .int (bI dl), .int sh, .int tb])), (a1, .inr (4, [.int ft.1, .ref a2, .int ft.2.2.2])), (a2, .inl (cI, ft.2.1, .inl ft.2.2.1)), (a3, .inr (0, [.ref a4, .int eb])), (a4, .inr (4, [.int er.1, .ref a5, .int er.2.2.2])), (a5, .inl (cI, er.2.1, .inl er.2.2.1)), (a6, .inr (4, [.int li.1, .ref a7, .int li.2.2.2])), (a7, .inl (cI, li.2.1, .inl li.2.2.1)), (a8, .inr (4, [.int st.1, .ref a9, .int st.2.2.2])), (a9, .inl (cI, st.2.1, .inl st.2.2.1))]) ⟨hx, hb, hml, hown, hts⟩ (cX1_canAnswer_ok l G cI cG a0 a1 a2 a3 a4 a5 a6 a7 a8 a9 ft er eb li st rd tu la dl sh tb p1 x2 ex2) (cwV 1 hts gX1_mayAct_X1_canAnswer_172 rfl rfl rfl hdX1_canAnswer ⟨Nat.le_of_ble_eq_true rfl, Nat.le_of_ble_eq_true rfl⟩) hP hD hS hA hK 1 rfl rfl rfl [0, 1, 2, 3, 4, 5, 6, 7, 8, 9] rfl rfl rfl rfl rfl rfl rfl rfl hl.1 (Nat.le_of_ble_eq_true rfl) dX1_mayAct_12 ⟨Nat.zero_le _, Nat.zero_le _⟩ (fun H locs hP hD hS => ?_)
    obtain rfl := o_s h
    rw [hQ]
    exact end_z hx hb hr rfl (bI_n _) hP hD hS dX1_mayAct_15 hlocks
theorem hdX1_beginAct : yX1_beginAct.cls = RX1 ∧ yX1_beginAct.cls ≠ "java/lang/invoke/MethodHandle" ∧ yX1_beginAct.cls ≠ "java/lang/invoke/VarHandle" ∧ (parseMethodDescriptor yX1_beginAct.desc).map (fun d => d.parameters.length) = some 7 := by decide +kernel
set_option maxHeartbeats 4000000 in
set_option maxRecDepth 100000 in
theorem cX1_beginAct_ok (l : Launch) (G : va_G) (cI cG : ClassId) (a0 a1 a2 a3 a4 a5 a6 a7 a8 a9 : Nat) (fu : Nat) (ft : Tab) (er : Tab) (eb : Int32) (li : Tab) (st : Tab) (rd : Int32) (tu : Int32) (la : Int32) (dl : Bool) (sh : Int32) (tb : Int32) (p1 : Int32) (p2 : Int32) (p3 : Int32) (p4 : Int32) (p5 : Int32) (p6 : Int32) (p7 : Int32) (out : Int32 × Tab × Tab × Bool) (hf : fX1_beginAct fu ft st dl p1 p2 p3 p4 p5 p6 p7 = some out) : CI l G (tyz cI cG) yX1_beginAct wsX1_beginAct ({ frames := 3, cells := 0, slots := 0, locals := 83 } : Room) [.ref a0, .int p1, .int p2, .int p3, .int p4, .int p5, .int p6, .int p7] [(a0, .inr (1, [.ref a1, .ref a3, .ref a6, .ref a8, .int rd, .int tu, .int la, .int (bI dl), .int sh, .int tb])), (a1, .inr (4, [.int ft.1, .ref a2, .int ft.2.2.2])), (a2, .inl (cI, ft.2.1, .inl ft.2.2.1)), (a3, .inr (0, [.ref a4, .int eb])), (a4, .inr (4, [.int er.1, .ref a5, .int er.2.2.2])), (a5, .inl (cI, er.2.1, .inl er.2.2.1)), (a6, .inr (4, [.int li.1, .ref a7, .int li.2.2.2])), (a7, .inl (cI, li.2.1, .inl li.2.2.1)), (a8, .inr (4, [.int st.1, .ref a9, .int st.2.2.2])), (a9, .inl (cI, st.2.1, .inl st.2.2.1))] out.1 [(a0, .inr (1, [.ref a1, .ref a3, .ref a6, .ref a8, .int rd, .int tu, .int la, .int (bI out.2.2.2), .int sh, .int tb])), (a1, .inr (4, [.int out.2.1.1, .ref a2, .int out.2.1.2.2.2])), (a2, .inl (cI, out.2.1.2.1, .inl out.2.1.2.2.1)), (a3, .inr (0, [.ref a4, .int eb])), (a4, .inr (4, [.int er.1, .ref a5, .int er.2.2.2])), (a5, .inl (cI, er.2.1, .inl er.2.2.1)), (a6, .inr (4, [.int li.1, .ref a7, .int li.2.2.2])), (a7, .inl (cI, li.2.1, .inl li.2.2.1)), (a8, .inr (4, [.int out.2.2.1.1, .ref a9, .int out.2.2.1.2.2.2])), (a9, .inl (cI, out.2.2.1.2.1, .inl out.2.2.1.2.2.1))] := by
  intro sz
  refine Met.ofW (cc := cX1_beginAct) (maxL := 9) (ret := (some .int)) (by decide) rfl ?_
  intro p e s m args below meth c s₁ B hml hv
  obtain ⟨rfl, hsz, hP, hK, hD0⟩ := hv
  have hx := B.exec
  have hb := B.bytes
  have hr := B.returns
  have hts := atoms_spec (ws := wsX1_beginAct) B.pre
  have hown : s.vm.findClass RX1 = some m.cls := findClass_of_methodNamed B.named
  have hlocks := B.notSynchronized
  subst hsz
  have hD := hD0.self (sz := s.heap.size)
  generalize hAe : va_A ([(a0, .inr (1, [.ref a1, .ref a3, .ref a6, .ref a8, .int rd, .int tu, .int la, .int (bI dl), .int sh, .int tb])), (a1, .inr (4, [.int ft.1, .ref a2, .int ft.2.2.2])), (a2, .inl (cI, ft.2.1, .inl ft.2.2.1)), (a3, .inr (0, [.ref a4, .int eb])), (a4, .inr (4, [.int er.1, .ref a5, .int er.2.2.2])), (a5, .inl (cI, er.2.1, .inl er.2.2.1)), (a6, .inr (4, [.int li.1, .ref a7, .int li.2.2.2])), (a7, .inl (cI, li.2.1, .inl li.2.2.1)), (a8, .inr (4, [.int st.1, .ref a9, .int st.2.2.2])), (a9, .inl (cI, st.2.1, .inl st.2.2.1))]) s.heap.size = A at hD ⊢
  have hA : ∀ q : Nat, s.heap.size ≤ q → A q := fun q h => by rw [← hAe]; exact Or.inr h
  have hS : va_S A s.heap s.heap [] := va_S.rf
  have hw0 := hts (.fieldLink RX1 30 "SpeedTurns$Game" "stack" "LSpeedTurns$Table;") (List.mem_of_getElem? (i := 1) rfl)
  have hw1 := hts (.fieldLink RX1 43 "SpeedTurns$Game" "delayable" "Z") (List.mem_of_getElem? (i := 6) rfl)
  have hw2 := hts (.fieldLink RX1 16 "SpeedTurns$Game" "fighters" "LSpeedTurns$Table;") (List.mem_of_getElem? (i := 13) rfl)
  show W p l e ({ frames := 3, cells := 0, slots := 0, locals := 83 } : Room) s m _ below meth c s.heap [] 0 0 _ _
  refine W_genQ (fun Q hQ => ?_)
  have J20 : ∀ (ft : Tab) (H : Heap) (locs : List Loc) (ls : Array Slot), fX1_beginAct_J20 fu st dl p1 p2 p3 p4 p5 p6 p7 ft = some out → va_P G vwCl ([(a0, .inr (1, [.ref a1, .ref a3, .ref a6, .ref a8, .int rd, .int tu, .int la, .int (bI dl), .int sh, .int tb])), (a1, .inr (4, [.int ft.1, .ref a2, .int ft.2.2.2])), (a2, .inl (cI, ft.2.1, .inl ft.2.2.1)), (a3, .inr (0, [.ref a4, .int eb])), (a4, .inr (4, [.int er.1, .ref a5, .int er.2.2.2])), (a5, .inl (cI, er.2.1, .inl er.2.2.1)), (a6, .inr (4, [.int li.1, .ref a7, .int li.2.2.2])), (a7, .inl (cI, li.2.1, .inl li.2.2.1)), (a8, .inr (4, [.int st.1, .ref a9, .int st.2.2.2])), (a9, .inl (cI, st.2.1, .inl st.2.2.1))]) H → va_D A ([(a0, .inr (1, [.ref a1, .ref a3, .ref a6, .ref a8, .int rd, .int tu, .int la, .int (bI dl), .int sh, .int tb])), (a1, .inr (4, [.int ft.1, .ref a2, .int ft.2.2.2])), (a2, .inl (cI, ft.2.1, .inl ft.2.2.1)), (a3, .inr (0, [.ref a4, .int eb])), (a4, .inr (4, [.int er.1, .ref a5, .int er.2.2.2])), (a5, .inl (cI, er.2.1, .inl er.2.2.1)), (a6, .inr (4, [.int li.1, .ref a7, .int li.2.2.2])), (a7, .inl (cI, li.2.1, .inl li.2.2.1)), (a8, .inr (4, [.int st.1, .ref a9, .int st.2.2.2])), (a9, .inl (cI, st.2.1, .inl st.2.2.1))]) → va_S A s.heap H locs → lv_has ls 9 [(0, .ref a0), (1, .int p1), (2, .int p2), (3, .int p3), (4, .int p4), (5, .int p5), (6, .int p6), (7, .int p7)] → W p l e ({ frames := 3, cells := 0, slots := 0, locals := 83 } : Room) s m ([.ref a0, .int p1, .int p2, .int p3, .int p4, .int p5, .int p6, .int p7] : List Value).toArray below meth c H locs 0 0 Q (F0 m 20 ls []) := by
    intro ft H locs ls h hP hD hS hl
    rw [fX1_beginAct_J20] at h
    refine lv_aload_n hx hb dX1_beginAct_20 rfl (lv_at hl 0 rfl) ?_
    refine lv_iconst (v := 0) hx hb dX1_beginAct_21 (by decide) ?_
    refine va_put (D := G) (ci := 1) (v := .int (0 : Int32)) (ty := .boolean) (C := RX1) (T := TX1) (N := 10) hx hb hts huX1_beginAct_X1 tyX1 tyX1_ok nmX1 hown hK.1 hP hD hS 0 rfl rfl 7 (by decide) hw1 (fun _ h9 => h9) rfl (by decide +kernel) rfl rfl (Nat.le_of_ble_eq_true rfl) dX1_beginAct_22 (fun H locs hP hD hS => ?_)
    have hP : va_P G vwCl ([(a0, .inr (1, [.ref a1, .ref a3, .ref a6, .ref a8, .int rd, .int tu, .int la, .int (bI false), .int sh, .int tb])), (a1, .inr (4, [.int ft.1, .ref a2, .int ft.2.2.2])), (a2, .inl (cI, ft.2.1, .inl ft.2.2.1)), (a3, .inr (0, [.ref a4, .int eb])), (a4, .inr (4, [.int er.1, .ref a5, .int er.2.2.2])), (a5, .inl (cI, er.2.1, .inl er.2.2.1)), (a6, .inr (4, [.int li.1, .ref a7, .int li.2.2.2])), (a7, .inl (cI, li.2.1, .inl li.2.2.1)), (a8, .inr (4, [.int st.1, .ref a9, .int st.2.2.2])), (a9, .inl (cI, st.2.1, .inl st.2.2.1))]) H := hP
    have hD : va_D A ([(a0, .inr (1, [.ref a1, .ref a3, .ref a6, .ref a8, .int rd, .int tu, .int la, .int (bI false), .int sh, .int tb])), (a1, .inr (4, [.int ft.1, .ref a2, .int ft.2.2.2])), (a2, .inl (cI, ft.2.1, .inl ft.2.2.1)), (a3, .inr (0, [.ref a4, .int eb])), (a4, .inr (4, [.int er.1, .ref a5, .int er.2.2.2])), (a5, .inl (cI, er.2.1, .inl er.2.2.1)), (a6, .inr (4, [.int li.1, .ref a7, .int li.2.2.2])), (a7, .inl (cI, li.2.1, .inl li.2.2.1)), (a8, .inr (4, [.int st.1, .ref a9, .int st.2.2.2])), (a9, .inl (cI, st.2.1, .inl st.2.2.1))]) := hD
    refine lv_aload_n hx hb dX1_beginAct_25 rfl (lv_at hl 0 rfl) ?_
    refine va_get (D := G) (ci := 1) (v := .ref a8) (C := RX1) (T := TX1) (N := 10) hx hb hts huX1_beginAct_X1 hown hK.1 hP 0 rfl rfl 3 (by decide) hw0 (fun _ h9 => h9) rfl dX1_beginAct_26 ?_
    obtain ⟨x2, ex2, h⟩ := o_b h
    refine call_iV (As := []) (rest := []) (ws2 := [(a0, .inr (1, [.ref a1, .ref a3, .ref a6, .ref a8, .int rd, .int tu, .int la, .int (bI false), .int sh, .int tb])), (a1, .inr (4, [.int ft.1, .ref a2, .int ft.2.2.2])), (a2, .inl (cI, ft.2.1, .inl ft.2.2.1)), (a3, .inr (0, [.ref a4, .int eb])), (a4, .inr (4, [.int er.1, .ref a5, .int er.2.2.2])), (a5, .inl (cI, er.2.1, .inl er.2.2.1)), (a6, .inr (4, [.int li.1, .ref a7, .int li.2.2.2])), (a7, .inl (cI, li.2.1, .inl li.2.2.1)), (a8, .inr (4, [.int st.1, .ref a9, .int st.2.2.2])), (a9, .inl (cI, st.2.1, .inl st.2.2.1))]) ⟨hx, hb, hml, hown, hts⟩ (cX4_count_ok l G cI cG a8 a9 st x2 ex2) (cwV 0 hts gX1_beginAct_X4_count_60 rfl rfl rfl hdX4_count ⟨Nat.le_of_ble_eq_true rfl, Nat.le_of_ble_eq_true rfl⟩) hP hD hS hA hK 4 rfl rfl rfl [8, 9] rfl rfl rfl rfl rfl rfl rfl rfl hl.1 (Nat.le_of_ble_eq_true rfl) dX1_beginAct_29 ⟨Nat.zero_le _, Nat.zero_le _⟩ (fun H locs hP hD hS => ?_)
    refine lv_istore (lv' := [(8, .int x2), (0, .ref a0), (1, .int p1), (2, .int p2), (3, .int p3), (4, .int p4), (5, .int p5), (6, .int p6), (7, .int p7)]) hx hb dX1_beginAct_32 hl (by decide) rfl (fun ls hl => ?_)
    refine lv_aload_n hx hb dX1_beginAct_34 rfl (lv_at hl 1 rfl) ?_
    refine va_get (D := G) (ci := 1) (v := .ref a8) (C := RX1) (T := TX1) (N := 10) hx hb hts huX1_beginAct_X1 hown hK.1 hP 0 rfl rfl 3 (by decide) hw0 (fun _ h9 => h9) rfl dX1_beginAct_35 ?_
    refine lv_iload hx hb dX1_beginAct_38 (lv_at hl 0 rfl) ?_
    obtain ⟨x3, ex3, h⟩ := o_b h
    refine call_vV (As := [.int x2]) (rest := []) (ws2 := [(a0, .inr (1, [.ref a1, .ref a3, .ref a6, .ref a8, .int rd, .int tu, .int la, .int (bI false), .int sh, .int tb])), (a1, .inr (4, [.int ft.1, .ref a2, .int ft.2.2.2])), (a2, .inl (cI, ft.2.1, .inl ft.2.2.1)), (a3, .inr (0, [.ref a4, .int eb])), (a4, .inr (4, [.int er.1, .ref a5, .int er.2.2.2])), (a5, .inl (cI, er.2.1, .inl er.2.2.1)), (a6, .inr (4, [.int li.1, .ref a7, .int li.2.2.2])), (a7, .inl (cI, li.2.1, .inl li.2.2.1)), (a8, .inr (4, [.int x3.1, .ref a9, .int x3.2.2.2])), (a9, .inl (cI, x3.2.1, .inl x3.2.2.1))]) ⟨hx, hb, hml, hown, hts⟩ (cX4_insert_ok l G cI cG a8 a9 fu st x2 x3 ex3) (cwV 1 hts gX1_beginAct_X4_insert_115 rfl rfl rfl hdX4_insert ⟨Nat.le_of_ble_eq_true rfl, Nat.le_of_ble_eq_true rfl⟩) hP hD hS hA hK 4 rfl rfl rfl [8, 9] rfl rfl rfl rfl rfl rfl rfl rfl hl.1 (Nat.le_of_ble_eq_true rfl) dX1_beginAct_40 ⟨Nat.zero_le _, Nat.zero_le _⟩ (fun H locs hP hD hS => ?_)
    refine lv_aload_n hx hb dX1_beginAct_43 rfl (lv_at hl 1 rfl) ?_
    refine va_get (D := G) (ci := 1) (v := .ref a8) (C := RX1) (T := TX1) (N := 10) hx hb hts huX1_beginAct_X1 hown hK.1 hP 0 rfl rfl 3 (by decide) hw0 (fun _ h9 => h9) rfl dX1_beginAct_44 ?_
    refine lv_iload hx hb dX1_beginAct_47 (lv_at hl 0 rfl) ?_
    refine lv_iconst (v := 0) hx hb dX1_beginAct_49 (by decide) ?_
    refine lv_iload_n hx hb dX1_beginAct_50 rfl (lv_at hl 2 rfl) ?_
    obtain ⟨x4, ex4, h⟩ := o_b h
    refine call_vV (As := [.int x2, .int (0 : Int32), .int p1]) (rest := []) (ws2 := [(a0, .inr (1, [.ref a1, .ref a3, .ref a6, .ref a8, .int rd, .int tu, .int la, .int (bI false), .int sh, .int tb])), (a1, .inr (4, [.int ft.1, .ref a2, .int ft.2.2.2])), (a2, .inl (cI, ft.2.1, .inl ft.2.2.1)), (a3, .inr (0, [.ref a4, .int eb])), (a4, .inr (4, [.int er.1, .ref a5, .int er.2.2.2])), (a5, .inl (cI, er.2.1, .inl er.2.2.1)), (a6, .inr (4, [.int li.1, .ref a7, .int li.2.2.2])), (a7, .inl (cI, li.2.1, .inl li.2.2.1)), (a8, .inr (4, [.int x4.1, .ref a9, .int x4.2.2.2])), (a9, .inl (cI, x4.2.1, .inl x4.2.2.1))]) ⟨hx, hb, hml, hown, hts⟩ (cX4_put_ok l G cI cG a8 a9 x3 x2 (0 : Int32) p1 x4 ex4) (cwV 3 hts gX1_beginAct_X4_put_119 rfl rfl rfl hdX4_put ⟨Nat.le_of_ble_eq_true rfl, Nat.le_of_ble_eq_true rfl⟩) hP hD hS hA hK 4 rfl rfl rfl [8, 9] rfl rfl rfl rfl rfl rfl rfl rfl hl.1 (Nat.le_of_ble_eq_true rfl) dX1_beginAct_51 ⟨Nat.zero_le _, Nat.zero_le _⟩ (fun H locs hP hD hS => ?_)
    refine lv_aload_n hx hb dX1_beginAct_54 rfl (lv_at hl 1 rfl) ?_
    refine va_get (D := G) (ci := 1) (v := .ref a8) (C := RX1) (T := TX1) (N := 10) hx hb hts huX1_beginAct_X1 hown hK.1 hP 0 rfl rfl 3 (by decide) hw0 (fun _ h9 => h9) rfl dX1_beginAct_55 ?_
    refine lv_iload hx hb dX1_beginAct_58 (lv_at hl 0 rfl) ?_
    refine lv_iconst (v := 1) hx hb dX1_beginAct_60 (by decide) ?_
    refine lv_iload_n hx hb dX1_beginAct_61 rfl (lv_at hl 3 rfl) ?_
    obtain ⟨x5, ex5, h⟩ := o_b h
    refine call_vV (As := [.int x2, .int (1 : Int32), .int p2]) (rest := []) (ws2 := [(a0, .inr (1, [.ref a1, .ref a3, .ref a6, .ref a8, .int rd, .int tu, .int la, .int (bI false), .int sh, .int tb])), (a1, .inr (4, [.int ft.1, .ref a2, .int ft.2.2.2])), (a2, .inl (cI, ft.2.1, .inl ft.2.2.1)), (a3, .inr (0, [.ref a4, .int eb])), (a4, .inr (4, [.int er.1, .ref a5, .int er.2.2.2])), (a5, .inl (cI, er.2.1, .inl er.2.2.1)), (a6, .inr (4, [.int li.1, .ref a7, .int li.2.2.2])), (a7, .inl (cI, li.2.1, .inl li.2.2.1)), (a8, .inr (4, [.int x5.1, .ref a9, .int x5.2.2.2])), (a9, .inl (cI, x5.2.1, .inl x5.2.2.1))]) ⟨hx, hb, hml, hown, hts⟩ (cX4_put_ok l G cI cG a8 a9 x4 x2 (1 : Int32) p2 x5 ex5) (cwV 3 hts gX1_beginAct_X4_put_119 rfl rfl rfl hdX4_put ⟨Nat.le_of_ble_eq_true rfl, Nat.le_of_ble_eq_true rfl⟩) hP hD hS hA hK 4 rfl rfl rfl [8, 9] rfl rfl rfl rfl rfl rfl rfl rfl hl.1 (Nat.le_of_ble_eq_true rfl) dX1_beginAct_62 ⟨Nat.zero_le _, Nat.zero_le _⟩ (fun H locs hP hD hS => ?_)
    refine lv_aload_n hx hb dX1_beginAct_65 rfl (lv_at hl 1 rfl) ?_
    refine va_get (D := G) (ci := 1) (v := .ref a8) (C := RX1) (T := TX1) (N := 10) hx hb hts huX1_beginAct_X1 hown hK.1 hP 0 rfl rfl 3 (by decide) hw0 (fun _ h9 => h9) rfl dX1_beginAct_66 ?_
    refine lv_iload hx hb dX1_beginAct_69 (lv_at hl 0 rfl) ?_
    refine lv_iconst (v := 2) hx hb dX1_beginAct_71 (by decide) ?_
    refine lv_iload_n hx hb dX1_beginAct_72 rfl (lv_at hl 4 rfl) ?_
    obtain ⟨x6, ex6, h⟩ := o_b h
    refine call_vV (As := [.int x2, .int (2 : Int32), .int p3]) (rest := []) (ws2 := [(a0, .inr (1, [.ref a1, .ref a3, .ref a6, .ref a8, .int rd, .int tu, .int la, .int (bI false), .int sh, .int tb])), (a1, .inr (4, [.int ft.1, .ref a2, .int ft.2.2.2])), (a2, .inl (cI, ft.2.1, .inl ft.2.2.1)), (a3, .inr (0, [.ref a4, .int eb])), (a4, .inr (4, [.int er.1, .ref a5, .int er.2.2.2])), (a5, .inl (cI, er.2.1, .inl er.2.2.1)), (a6, .inr (4, [.int li.1, .ref a7, .int li.2.2.2])), (a7, .inl (cI, li.2.1, .inl li.2.2.1)), (a8, .inr (4, [.int x6.1, .ref a9, .int x6.2.2.2])), (a9, .inl (cI, x6.2.1, .inl x6.2.2.1))]) ⟨hx, hb, hml, hown, hts⟩ (cX4_put_ok l G cI cG a8 a9 x5 x2 (2 : Int32) p3 x6 ex6) (cwV 3 hts gX1_beginAct_X4_put_119 rfl rfl rfl hdX4_put ⟨Nat.le_of_ble_eq_true rfl, Nat.le_of_ble_eq_true rfl⟩) hP hD hS hA hK 4 rfl rfl rfl [8, 9] rfl rfl rfl rfl rfl rfl rfl rfl hl.1 (Nat.le_of_ble_eq_true rfl) dX1_beginAct_73 ⟨Nat.zero_le _, Nat.zero_le _⟩ (fun H locs hP hD hS => ?_)
    refine lv_aload_n hx hb dX1_beginAct_76 rfl (lv_at hl 1 rfl) ?_
    refine va_get (D := G) (ci := 1) (v := .ref a8) (C := RX1) (T := TX1) (N := 10) hx hb hts huX1_beginAct_X1 hown hK.1 hP 0 rfl rfl 3 (by decide) hw0 (fun _ h9 => h9) rfl dX1_beginAct_77 ?_
    refine lv_iload hx hb dX1_beginAct_80 (lv_at hl 0 rfl) ?_
    refine lv_iconst (v := 3) hx hb dX1_beginAct_82 (by decide) ?_
    refine lv_iload hx hb dX1_beginAct_83 (lv_at hl 5 rfl) ?_
    obtain ⟨x7, ex7, h⟩ := o_b h
    refine call_vV (As := [.int x2, .int (3 : Int32), .int p4]) (rest := []) (ws2 := [(a0, .inr (1, [.ref a1, .ref a3, .ref a6, .ref a8, .int rd, .int tu, .int la, .int (bI false), .int sh, .int tb])), (a1, .inr (4, [.int ft.1, .ref a2, .int ft.2.2.2])), (a2, .inl (cI, ft.2.1, .inl ft.2.2.1)), (a3, .inr (0, [.ref a4, .int eb])), (a4, .inr (4, [.int er.1, .ref a5, .int er.2.2.2])), (a5, .inl (cI, er.2.1, .inl er.2.2.1)), (a6, .inr (4, [.int li.1, .ref a7, .int li.2.2.2])), (a7, .inl (cI, li.2.1, .inl li.2.2.1)), (a8, .inr (4, [.int x7.1, .ref a9, .int x7.2.2.2])), (a9, .inl (cI, x7.2.1, .inl x7.2.2.1))]) ⟨hx, hb, hml, hown, hts⟩ (cX4_put_ok l G cI cG a8 a9 x6 x2 (3 : Int32) p4 x7 ex7) (cwV 3 hts gX1_beginAct_X4_put_119 rfl rfl rfl hdX4_put ⟨Nat.le_of_ble_eq_true rfl, Nat.le_of_ble_eq_true rfl⟩) hP hD hS hA hK 4 rfl rfl rfl [8, 9] rfl rfl rfl rfl rfl rfl rfl rfl hl.1 (Nat.le_of_ble_eq_true rfl) dX1_beginAct_85 ⟨Nat.zero_le _, Nat.zero_le _⟩ (fun H locs hP hD hS => ?_)
    refine lv_aload_n hx hb dX1_beginAct_88 rfl (lv_at hl 1 rfl) ?_
    refine va_get (D := G) (ci := 1) (v := .ref a8) (C := RX1) (T := TX1) (N := 10) hx hb hts huX1_beginAct_X1 hown hK.1 hP 0 rfl rfl 3 (by decide) hw0 (fun _ h9 => h9) rfl dX1_beginAct_89 ?_
    refine lv_iload hx hb dX1_beginAct_92 (lv_at hl 0 rfl) ?_
    refine lv_iconst (v := 4) hx hb dX1_beginAct_94 (by decide) ?_
    refine lv_iload hx hb dX1_beginAct_95 (lv_at hl 6 rfl) ?_
    obtain ⟨x8, ex8, h⟩ := o_b h
    refine call_vV (As := [.int x2, .int (4 : Int32), .int p5]) (rest := []) (ws2 := [(a0, .inr (1, [.ref a1, .ref a3, .ref a6, .ref a8, .int rd, .int tu, .int la, .int (bI false), .int sh, .int tb])), (a1, .inr (4, [.int ft.1, .ref a2, .int ft.2.2.2])), (a2, .inl (cI, ft.2.1, .inl ft.2.2.1)), (a3, .inr (0, [.ref a4, .int eb])), (a4, .inr (4, [.int er.1, .ref a5, .int er.2.2.2])), (a5, .inl (cI, er.2.1, .inl er.2.2.1)), (a6, .inr (4, [.int li.1, .ref a7, .int li.2.2.2])), (a7, .inl (cI, li.2.1, .inl li.2.2.1)), (a8, .inr (4, [.int x8.1, .ref a9, .int x8.2.2.2])), (a9, .inl (cI, x8.2.1, .inl x8.2.2.1))]) ⟨hx, hb, hml, hown, hts⟩ (cX4_put_ok l G cI cG a8 a9 x7 x2 (4 : Int32) p5 x8 ex8) (cwV 3 hts gX1_beginAct_X4_put_119 rfl rfl rfl hdX4_put ⟨Nat.le_of_ble_eq_true rfl, Nat.le_of_ble_eq_true rfl⟩) hP hD hS hA hK 4 rfl rfl rfl [8, 9] rfl rfl rfl rfl rfl rfl rfl rfl hl.1 (Nat.le_of_ble_eq_true rfl) dX1_beginAct_97 ⟨Nat.zero_le _, Nat.zero_le _⟩ (fun H locs hP hD hS => ?_)
    refine lv_aload_n hx hb dX1_beginAct_100 rfl (lv_at hl 1 rfl) ?_
    refine va_get (D := G) (ci := 1) (v := .ref a8) (C := RX1) (T := TX1) (N := 10) hx hb hts huX1_beginAct_X1 hown hK.1 hP 0 rfl rfl 3 (by decide) hw0 (fun _ h9 => h9) rfl dX1_beginAct_101 ?_
    refine lv_iload hx hb dX1_beginAct_104 (lv_at hl 0 rfl) ?_
    refine lv_iconst (v := 5) hx hb dX1_beginAct_106 (by decide) ?_
    refine lv_iload hx hb dX1_beginAct_107 (lv_at hl 7 rfl) ?_
    obtain ⟨x9, ex9, h⟩ := o_b h
    refine call_vV (As := [.int x2, .int (5 : Int32), .int p6]) (rest := []) (ws2 := [(a0, .inr (1, [.ref a1, .ref a3, .ref a6, .ref a8, .int rd, .int tu, .int la, .int (bI false), .int sh, .int tb])), (a1, .inr (4, [.int ft.1, .ref a2, .int ft.2.2.2])), (a2, .inl (cI, ft.2.1, .inl ft.2.2.1)), (a3, .inr (0, [.ref a4, .int eb])), (a4, .inr (4, [.int er.1, .ref a5, .int er.2.2.2])), (a5, .inl (cI, er.2.1, .inl er.2.2.1)), (a6, .inr (4, [.int li.1, .ref a7, .int li.2.2.2])), (a7, .inl (cI, li.2.1, .inl li.2.2.1)), (a8, .inr (4, [.int x9.1, .ref a9, .int x9.2.2.2])), (a9, .inl (cI, x9.2.1, .inl x9.2.2.1))]) ⟨hx, hb, hml, hown, hts⟩ (cX4_put_ok l G cI cG a8 a9 x8 x2 (5 : Int32) p6 x9 ex9) (cwV 3 hts gX1_beginAct_X4_put_119 rfl rfl rfl hdX4_put ⟨Nat.le_of_ble_eq_true rfl, Nat.le_of_ble_eq_true rfl⟩) hP hD hS hA hK 4 rfl rfl rfl [8, 9] rfl rfl rfl rfl rfl rfl rfl rfl hl.1 (Nat.le_of_ble_eq_true rfl) dX1_beginAct_109 ⟨Nat.zero_le _, Nat.zero_le _⟩ (fun H locs hP hD hS => ?_)
    refine lv_aload_n hx hb dX1_beginAct_112 rfl (lv_at hl 1 rfl) ?_
    refine va_get (D := G) (ci := 1) (v := .ref a8) (C := RX1) (T := TX1) (N := 10) hx hb hts huX1_beginAct_X1 hown hK.1 hP 0 rfl rfl 3 (by decide) hw0 (fun _ h9 => h9) rfl dX1_beginAct_113 ?_
    refine lv_iload hx hb dX1_beginAct_116 (lv_at hl 0 rfl) ?_
    refine lv_bipush (v := 6) hx hb dX1_beginAct_118 (by decide) ?_
    refine lv_iload hx hb dX1_beginAct_120 (lv_at hl 8 rfl) ?_
    obtain ⟨x10, ex10, h⟩ := o_b h
    refine call_vV (As := [.int x2, .int (6 : Int32), .int p7]) (rest := []) (ws2 := [(a0, .inr (1, [.ref a1, .ref a3, .ref a6, .ref a8, .int rd, .int tu, .int la, .int (bI false), .int sh, .int tb])), (a1, .inr (4, [.int ft.1, .ref a2, .int ft.2.2.2])), (a2, .inl (cI, ft.2.1, .inl ft.2.2.1)), (a3, .inr (0, [.ref a4, .int eb])), (a4, .inr (4, [.int er.1, .ref a5, .int er.2.2.2])), (a5, .inl (cI, er.2.1, .inl er.2.2.1)), (a6, .inr (4, [.int li.1, .ref a7, .int li.2.2.2])), (a7, .inl (cI, li.2.1, .inl li.2.2.1)), (a8, .inr (4, [.int x10.1, .ref a9, .int x10.2.2.2])), (a9, .inl (cI, x10.2.1, .inl x10.2.2.1))]) ⟨hx, hb, hml, hown, hts⟩ (cX4_put_ok l G cI cG a8 a9 x9 x2 (6 : Int32) p7 x10 ex10) (cwV 3 hts gX1_beginAct_X4_put_119 rfl rfl rfl hdX4_put ⟨Nat.le_of_ble_eq_true rfl, Nat.le_of_ble_eq_true rfl⟩) hP hD hS hA hK 4 rfl rfl rfl [8, 9] rfl rfl rfl rfl rfl rfl rfl rfl hl.1 (Nat.le_of_ble_eq_true rfl) dX1_beginAct_122 ⟨Nat.zero_le _, Nat.zero_le _⟩ (fun H locs hP hD hS => ?_)
    refine lv_aload_n hx hb dX1_beginAct_125 rfl (lv_at hl 1 rfl) ?_
    refine va_get (D := G) (ci := 1) (v := .ref a8) (C := RX1) (T := TX1) (N := 10) hx hb hts huX1_beginAct_X1 hown hK.1 hP 0 rfl rfl 3 (by decide) hw0 (fun _ h9 => h9) rfl dX1_beginAct_126 ?_
    obtain ⟨x11, ex11, h⟩ := o_b h
    refine call_iV (As := []) (rest := []) (ws2 := [(a0, .inr (1, [.ref a1, .ref a3, .ref a6, .ref a8, .int rd, .int tu, .int la, .int (bI false), .int sh, .int tb])), (a1, .inr (4, [.int ft.1, .ref a2, .int ft.2.2.2])), (a2, .inl (cI, ft.2.1, .inl ft.2.2.1)), (a3, .inr (0, [.ref a4, .int eb])), (a4, .inr (4, [.int er.1, .ref a5, .int er.2.2.2])), (a5, .inl (cI, er.2.1, .inl er.2.2.1)), (a6, .inr (4, [.int li.1, .ref a7, .int li.2.2.2])), (a7, .inl (cI, li.2.1, .inl li.2.2.1)), (a8, .inr (4, [.int x10.1, .ref a9, .int x10.2.2.2])), (a9, .inl (cI, x10.2.1, .inl x10.2.2.1))]) ⟨hx, hb, hml, hown, hts⟩ (cX4_count_ok l G cI cG a8 a9 x10 x11 ex11) (cwV 0 hts gX1_beginAct_X4_count_60 rfl rfl rfl hdX4_count ⟨Nat.le_of_ble_eq_true rfl, Nat.le_of_ble_eq_true rfl⟩) hP hD hS hA hK 4 rfl rfl rfl [8, 9] rfl rfl rfl rfl rfl rfl rfl rfl hl.1 (Nat.le_of_ble_eq_true rfl) dX1_beginAct_129 ⟨Nat.zero_le _, Nat.zero_le _⟩ (fun H locs hP hD hS => ?_)
    obtain rfl := o_s h
    rw [hQ]
    exact end_i hx hb hr rfl hP hD hS dX1_beginAct_132 hlocks
  have h := hf
  rw [fX1_beginAct] at h
  have hl := lv_entry ([.ref a0, .int p1, .int p2, .int p3, .int p4, .int p5, .int p6, .int p7]) (n := 9) (Nat.le_of_ble_eq_true rfl)
  rw [lg_entry_eq]
  generalize (lg_sl ([.ref a0, .int p1, .int p2, .int p3, .int p4, .int p5, .int p6, .int p7]) ++ List.replicate (9 - (lg_sl ([.ref a0, .int p1, .int p2, .int p3, .int p4, .int p5, .int p6, .int p7])).length) Slot.unset).toArray = ls at hl ⊢
  have hl : lv_has ls 9 [(0, .ref a0), (1, .int p1), (2, .int p2), (3, .int p3), (4, .int p4), (5, .int p5), (6, .int p6), (7, .int p7)] := hl
  refine lv_aload_n hx hb dX1_beginAct_0 rfl (lv_at hl 0 rfl) ?_
  refine va_get (D := G) (ci := 1) (v := .ref a8) (C := RX1) (T := TX1) (N := 10) hx hb hts huX1_beginAct_X1 hown hK.1 hP 0 rfl rfl 3 (by decide) hw0 (fun _ h9 => h9) rfl dX1_beginAct_1 ?_
  obtain ⟨x1, ex1, h⟩ := o_b h
  refine call_iV (As := []) (rest := []) (ws2 := [(a0, .inr (1, [.ref a1, .ref a3, .ref a6, .ref a8, .int rd, .int tu, .int la, .int (bI dl), .int sh, .int tb])), (a1, .inr (4, [.int ft.1, .ref a2, .int ft.2.2.2])), (a2, .inl (cI, ft.2.1, .inl ft.2.2.1)), (a3, .inr (0, [.ref a4, .int eb])), (a4, .inr (4, [.int er.1, .ref a5, .int er.2.2.2])), (a5, .inl (cI, er.2.1, .inl er.2.2.1)), (a6, .inr (4, [.int li.1, .ref a7, .int li.2.2.2])), (a7, .inl (cI, li.2.1, .inl li.2.2.1)), (a8, .inr (4, [.int st.1, .ref a9, .int st.2.2.2])), (a9, .inl (cI, st.2.1, .inl st.2.2.1))]) ⟨hx, hb, hml, hown, hts⟩ (cX4_count_ok l G cI cG a8 a9 st x1 ex1) (cwV 0 hts gX1_beginAct_X4_count_60 rfl rfl rfl hdX4_count ⟨Nat.le_of_ble_eq_true rfl, Nat.le_of_ble_eq_true rfl⟩) hP hD hS hA hK 4 rfl rfl rfl [8, 9] rfl rfl rfl rfl rfl rfl rfl rfl hl.1 (Nat.le_of_ble_eq_true rfl) dX1_beginAct_4 ⟨Nat.zero_le _, Nat.zero_le _⟩ (fun H locs hP hD hS => ?_)
  refine lv_if_le (tgt := 20) hx hb dX1_beginAct_7 (by decide) (fun hc => ?_) (fun hc => ?_)
  · have h := o_t h hc
    exact J20 ft _ _ _ h hP hD hS (lv_sub hl [0, 1, 2, 3, 4, 5, 6, 7] rfl)
  · have h := o_f h hc
    refine lv_aload_n hx hb dX1_beginAct_10 rfl (lv_at hl 0 rfl) ?_
    refine va_get (D := G) (ci := 1) (v := .ref a1) (C := RX1) (T := TX1) (N := 10) hx hb hts huX1_beginAct_X1 hown hK.1 hP 0 rfl rfl 0 (by decide) hw2 (fun _ h9 => h9) rfl dX1_beginAct_11 ?_
    refine lv_iload_n hx hb dX1_beginAct_14 rfl (lv_at hl 2 rfl) ?_
    refine lv_iconst (v := 3) hx hb dX1_beginAct_15 (by decide) ?_
    refine lv_iconst (v := 0) hx hb dX1_beginAct_16 (by decide) ?_
    obtain ⟨x12, ex12, h⟩ := o_b h
    refine call_vV (As := [.int p2, .int (3 : Int32), .int (0 : Int32)]) (rest := []) (ws2 := [(a0, .inr (1, [.ref a1, .ref a3, .ref a6, .ref a8, .int rd, .int tu, .int la, .int (bI dl), .int sh, .int tb])), (a1, .inr (4, [.int x12.1, .ref a2, .int x12.2.2.2])), (a2, .inl (cI, x12.2.1, .inl x12.2.2.1)), (a3, .inr (0, [.ref a4, .int eb])), (a4, .inr (4, [.int er.1, .ref a5, .int er.2.2.2])), (a5, .inl (cI, er.2.1, .inl er.2.2.1)), (a6, .inr (4, [.int li.1, .ref a7, .int li.2.2.2])), (a7, .inl (cI, li.2.1, .inl li.2.2.1)), (a8, .inr (4, [.int st.1, .ref a9, .int st.2.2.2])), (a9, .inl (cI, st.2.1, .inl st.2.2.1))]) ⟨hx, hb, hml, hown, hts⟩ (cX4_put_ok l G cI cG a1 a2 ft p2 (3 : Int32) (0 : Int32) x12 ex12) (cwV 3 hts gX1_beginAct_X4_put_119 rfl rfl rfl hdX4_put ⟨Nat.le_of_ble_eq_true rfl, Nat.le_of_ble_eq_true rfl⟩) hP hD hS hA hK 4 rfl rfl rfl [1, 2] rfl rfl rfl rfl rfl rfl rfl rfl hl.1 (Nat.le_of_ble_eq_true rfl) dX1_beginAct_17 ⟨Nat.zero_le _, Nat.zero_le _⟩ (fun H locs hP hD hS => ?_)
    exact J20 x12 _ _ _ h hP hD hS (lv_sub hl [0, 1, 2, 3, 4, 5, 6, 7] rfl)
theorem hdX1_maySettle : yX1_maySettle.cls = RX1 ∧ yX1_maySettle.cls ≠ "java/lang/invoke/MethodHandle" ∧ yX1_maySettle.cls ≠ "java/lang/invoke/VarHandle" ∧ (parseMethodDescriptor yX1_maySettle.desc).map (fun d => d.parameters.length) = some 0 := by decide +kernel
set_option maxHeartbeats 4000000 in
set_option maxRecDepth 100000 in
theorem cX1_maySettle_ok (l : Launch) (G : va_G) (cI cG : ClassId) (a0 a1 a2 a3 a4 a5 a6 a7 a8 a9 : Nat) (ft : Tab) (er : Tab) (eb : Int32) (li : Tab) (st : Tab) (rd : Int32) (tu : Int32) (la : Int32) (dl : Bool) (sh : Int32) (tb : Int32) (out : Bool) (hf : fX1_maySettle st = some out) : CI l G (tyz cI cG) yX1_maySettle wsX1_maySettle ({ frames := 1, cells := 0, slots := 0, locals := 20 } : Room) [.ref a0] [(a0, .inr (1, [.ref a1, .ref a3, .ref a6, .ref a8, .int rd, .int tu, .int la, .int (bI dl), .int sh, .int tb])), (a1, .inr (4, [.int ft.1, .ref a2, .int ft.2.2.2])), (a2, .inl (cI, ft.2.1, .inl ft.2.2.1)), (a3, .inr (0, [.ref a4, .int eb])), (a4, .inr (4, [.int er.1, .ref a5, .int er.2.2.2])), (a5, .inl (cI, er.2.1, .inl er.2.2.1)), (a6, .inr (4, [.int li.1, .ref a7, .int li.2.2.2])), (a7, .inl (cI, li.2.1, .inl li.2.2.1)), (a8, .inr (4, [.int st.1, .ref a9, .int st.2.2.2])), (a9, .inl (cI, st.2.1, .inl st.2.2.1))] (bI out) [(a0, .inr (1, [.ref a1, .ref a3, .ref a6, .ref a8, .int rd, .int tu, .int la, .int (bI dl), .int sh, .int tb])), (a1, .inr (4, [.int ft.1, .ref a2, .int ft.2.2.2])), (a2, .inl (cI, ft.2.1, .inl ft.2.2.1)), (a3, .inr (0, [.ref a4, .int eb])), (a4, .inr (4, [.int er.1, .ref a5, .int er.2.2.2])), (a5, .inl (cI, er.2.1, .inl er.2.2.1)), (a6, .inr (4, [.int li.1, .ref a7, .int li.2.2.2])), (a7, .inl (cI, li.2.1, .inl li.2.2.1)), (a8, .inr (4, [.int st.1, .ref a9, .int st.2.2.2])), (a9, .inl (cI, st.2.1, .inl st.2.2.1))] := by
  intro sz
  refine Met.ofW (cc := cX1_maySettle) (maxL := 1) (ret := (some .boolean)) (by decide) rfl ?_
  intro p e s m args below meth c s₁ B hml hv
  obtain ⟨rfl, hsz, hP, hK, hD0⟩ := hv
  have hx := B.exec
  have hb := B.bytes
  have hr := B.returns
  have hts := atoms_spec (ws := wsX1_maySettle) B.pre
  have hown : s.vm.findClass RX1 = some m.cls := findClass_of_methodNamed B.named
  have hlocks := B.notSynchronized
  subst hsz
  have hD := hD0.self (sz := s.heap.size)
  generalize hAe : va_A ([(a0, .inr (1, [.ref a1, .ref a3, .ref a6, .ref a8, .int rd, .int tu, .int la, .int (bI dl), .int sh, .int tb])), (a1, .inr (4, [.int ft.1, .ref a2, .int ft.2.2.2])), (a2, .inl (cI, ft.2.1, .inl ft.2.2.1)), (a3, .inr (0, [.ref a4, .int eb])), (a4, .inr (4, [.int er.1, .ref a5, .int er.2.2.2])), (a5, .inl (cI, er.2.1, .inl er.2.2.1)), (a6, .inr (4, [.int li.1, .ref a7, .int li.2.2.2])), (a7, .inl (cI, li.2.1, .inl li.2.2.1)), (a8, .inr (4, [.int st.1, .ref a9, .int st.2.2.2])), (a9, .inl (cI, st.2.1, .inl st.2.2.1))]) s.heap.size = A at hD ⊢
  have hA : ∀ q : Nat, s.heap.size ≤ q → A q := fun q h => by rw [← hAe]; exact Or.inr h
  have hS : va_S A s.heap s.heap [] := va_S.rf
  have hw0 := hts (.fieldLink RX1 30 "SpeedTurns$Game" "stack" "LSpeedTurns$Table;") (List.mem_of_getElem? (i := 1) rfl)
  show W p l e ({ frames := 1, cells := 0, slots := 0, locals := 20 } : Room) s m _ below meth c s.heap [] 0 0 _ _
  refine W_genQ (fun Q hQ => ?_)
  have h := hf
  rw [fX1_maySettle] at h
  have hl := lv_entry ([.ref a0]) (n := 1) (Nat.le_of_ble_eq_true rfl)
  rw [lg_entry_eq]
  generalize (lg_sl ([.ref a0]) ++ List.replicate (1 - (lg_sl ([.ref a0])).length) Slot.unset).toArray = ls at hl ⊢
  have hl : lv_has ls 1 [(0, .ref a0)] := hl
  refine lv_aload_n hx hb dX1_maySettle_0 rfl (lv_at hl 0 rfl) ?_
  refine va_get (D := G) (ci := 1) (v := .ref a8) (C := RX1) (T := TX1) (N := 10) hx hb hts huX1_maySettle_X1 hown hK.1 hP 0 rfl rfl 3 (by decide) hw0 (fun _ h9 => h9) rfl dX1_maySettle_1 ?_
  obtain ⟨x1, ex1, h⟩ := o_b h
  refine call_iV (As := []) (rest := []) (ws2 := [(a0, .inr (1, [.ref a1, .ref a3, .ref a6, .ref a8, .int rd, .int tu, .int la, .int (bI dl), .int sh, .int tb])), (a1, .inr (4, [.int ft.1, .ref a2, .int ft.2.2.2])), (a2, .inl (cI, ft.2.1, .inl ft.2.2.1)), (a3, .inr (0, [.ref a4, .int eb])), (a4, .inr (4, [.int er.1, .ref a5, .int er.2.2.2])), (a5, .inl (cI, er.2.1, .inl er.2.2.1)), (a6, .inr (4, [.int li.1, .ref a7, .int li.2.2.2])), (a7, .inl (cI, li.2.1, .inl li.2.2.1)), (a8, .inr (4, [.int st.1, .ref a9, .int st.2.2.2])), (a9, .inl (cI, st.2.1, .inl st.2.2.1))]) ⟨hx, hb, hml, hown, hts⟩ (cX4_count_ok l G cI cG a8 a9 st x1 ex1) (cwV 0 hts gX1_maySettle_X4_count_60 rfl rfl rfl hdX4_count ⟨Nat.le_of_ble_eq_true rfl, Nat.le_of_ble_eq_true rfl⟩) hP hD hS hA hK 4 rfl rfl rfl [8, 9] rfl rfl rfl rfl rfl rfl rfl rfl hl.1 (Nat.le_of_ble_eq_true rfl) dX1_maySettle_4 ⟨Nat.zero_le _, Nat.zero_le _⟩ (fun H locs hP hD hS => ?_)
  refine lv_if_le (tgt := 14) hx hb dX1_maySettle_7 (by decide) (fun hc => ?_) (fun hc => ?_)
  · have h := o_t h hc
    refine lv_iconst (v := 0) hx hb dX1_maySettle_14 (by decide) ?_
    obtain rfl := o_s h
    rw [hQ]
    exact end_z hx hb hr rfl rfl hP hD hS dX1_maySettle_15 hlocks
  · have h := o_f h hc
    refine lv_iconst (v := 1) hx hb dX1_maySettle_10 (by decide) ?_
    refine lv_goto (tgt := 15) hx hb dX1_maySettle_11 (by decide) ?_
    obtain rfl := o_s h
    rw [hQ]
    exact end_z hx hb hr rfl rfl hP hD hS dX1_maySettle_15 hlocks
theorem hdX1_dropTop : yX1_dropTop.cls = RX1 ∧ yX1_dropTop.cls ≠ "java/lang/invoke/MethodHandle" ∧ yX1_dropTop.cls ≠ "java/lang/invoke/VarHandle" ∧ (parseMethodDescriptor yX1_dropTop.desc).map (fun d => d.parameters.length) = some 0 := by decide +kernel
set_option maxHeartbeats 4000000 in
set_option maxRecDepth 100000 in
theorem cX1_dropTop_ok (l : Launch) (G : va_G) (cI cG : ClassId) (a0 a1 a2 a3 a4 a5 a6 a7 a8 a9 : Nat) (ft : Tab) (er : Tab) (eb : Int32) (li : Tab) (st : Tab) (rd : Int32) (tu : Int32) (la : Int32) (dl : Bool) (sh : Int32) (tb : Int32) (out : Tab) (hf : fX1_dropTop st = some out) : CV l G (tyz cI cG) yX1_dropTop wsX1_dropTop ({ frames := 2, cells := 0, slots := 0, locals := 83 } : Room) [.ref a0] [(a0, .inr (1, [.ref a1, .ref a3, .ref a6, .ref a8, .int rd, .int tu, .int la, .int (bI dl), .int sh, .int tb])), (a1, .inr (4, [.int ft.1, .ref a2, .int ft.2.2.2])), (a2, .inl (cI, ft.2.1, .inl ft.2.2.1)), (a3, .inr (0, [.ref a4, .int eb])), (a4, .inr (4, [.int er.1, .ref a5, .int er.2.2.2])), (a5, .inl (cI, er.2.1, .inl er.2.2.1)), (a6, .inr (4, [.int li.1, .ref a7, .int li.2.2.2])), (a7, .inl (cI, li.2.1, .inl li.2.2.1)), (a8, .inr (4, [.int st.1, .ref a9, .int st.2.2.2])), (a9, .inl (cI, st.2.1, .inl st.2.2.1))] [(a0, .inr (1, [.ref a1, .ref a3, .ref a6, .ref a8, .int rd, .int tu, .int la, .int (bI dl), .int sh, .int tb])), (a1, .inr (4, [.int ft.1, .ref a2, .int ft.2.2.2])), (a2, .inl (cI, ft.2.1, .inl ft.2.2.1)), (a3, .inr (0, [.ref a4, .int eb])), (a4, .inr (4, [.int er.1, .ref a5, .int er.2.2.2])), (a5, .inl (cI, er.2.1, .inl er.2.2.1)), (a6, .inr (4, [.int li.1, .ref a7, .int li.2.2.2])), (a7, .inl (cI, li.2.1, .inl li.2.2.1)), (a8, .inr (4, [.int out.1, .ref a9, .int out.2.2.2])), (a9, .inl (cI, out.2.1, .inl out.2.2.1))] := by
  intro sz
  refine Met.ofW (cc := cX1_dropTop) (maxL := 1) (ret := none) (by decide) rfl ?_
  intro p e s m args below meth c s₁ B hml hv
  obtain ⟨rfl, hsz, hP, hK, hD0⟩ := hv
  have hx := B.exec
  have hb := B.bytes
  have hr := B.returns
  have hts := atoms_spec (ws := wsX1_dropTop) B.pre
  have hown : s.vm.findClass RX1 = some m.cls := findClass_of_methodNamed B.named
  have hlocks := B.notSynchronized
  subst hsz
  have hD := hD0.self (sz := s.heap.size)
  generalize hAe : va_A ([(a0, .inr (1, [.ref a1, .ref a3, .ref a6, .ref a8, .int rd, .int tu, .int la, .int (bI dl), .int sh, .int tb])), (a1, .inr (4, [.int ft.1, .ref a2, .int ft.2.2.2])), (a2, .inl (cI, ft.2.1, .inl ft.2.2.1)), (a3, .inr (0, [.ref a4, .int eb])), (a4, .inr (4, [.int er.1, .ref a5, .int er.2.2.2])), (a5, .inl (cI, er.2.1, .inl er.2.2.1)), (a6, .inr (4, [.int li.1, .ref a7, .int li.2.2.2])), (a7, .inl (cI, li.2.1, .inl li.2.2.1)), (a8, .inr (4, [.int st.1, .ref a9, .int st.2.2.2])), (a9, .inl (cI, st.2.1, .inl st.2.2.1))]) s.heap.size = A at hD ⊢
  have hA : ∀ q : Nat, s.heap.size ≤ q → A q := fun q h => by rw [← hAe]; exact Or.inr h
  have hS : va_S A s.heap s.heap [] := va_S.rf
  have hw0 := hts (.fieldLink RX1 30 "SpeedTurns$Game" "stack" "LSpeedTurns$Table;") (List.mem_of_getElem? (i := 1) rfl)
  show W p l e ({ frames := 2, cells := 0, slots := 0, locals := 83 } : Room) s m _ below meth c s.heap [] 0 0 _ _
  refine W_genQ (fun Q hQ => ?_)
  have h := hf
  rw [fX1_dropTop] at h
  have hl := lv_entry ([.ref a0]) (n := 1) (Nat.le_of_ble_eq_true rfl)
  rw [lg_entry_eq]
  generalize (lg_sl ([.ref a0]) ++ List.replicate (1 - (lg_sl ([.ref a0])).length) Slot.unset).toArray = ls at hl ⊢
  have hl : lv_has ls 1 [(0, .ref a0)] := hl
  refine lv_aload_n hx hb dX1_dropTop_0 rfl (lv_at hl 0 rfl) ?_
  refine va_get (D := G) (ci := 1) (v := .ref a8) (C := RX1) (T := TX1) (N := 10) hx hb hts huX1_dropTop_X1 hown hK.1 hP 0 rfl rfl 3 (by decide) hw0 (fun _ h9 => h9) rfl dX1_dropTop_1 ?_
  refine lv_aload_n hx hb dX1_dropTop_4 rfl (lv_at hl 0 rfl) ?_
  refine va_get (D := G) (ci := 1) (v := .ref a8) (C := RX1) (T := TX1) (N := 10) hx hb hts huX1_dropTop_X1 hown hK.1 hP 0 rfl rfl 3 (by decide) hw0 (fun _ h9 => h9) rfl dX1_dropTop_5 ?_
  obtain ⟨x1, ex1, h⟩ := o_b h
  refine call_iV (As := []) (rest := [.ref a8]) (ws2 := [(a0, .inr (1, [.ref a1, .ref a3, .ref a6, .ref a8, .int rd, .int tu, .int la, .int (bI dl), .int sh, .int tb])), (a1, .inr (4, [.int ft.1, .ref a2, .int ft.2.2.2])), (a2, .inl (cI, ft.2.1, .inl ft.2.2.1)), (a3, .inr (0, [.ref a4, .int eb])), (a4, .inr (4, [.int er.1, .ref a5, .int er.2.2.2])), (a5, .inl (cI, er.2.1, .inl er.2.2.1)), (a6, .inr (4, [.int li.1, .ref a7, .int li.2.2.2])), (a7, .inl (cI, li.2.1, .inl li.2.2.1)), (a8, .inr (4, [.int st.1, .ref a9, .int st.2.2.2])), (a9, .inl (cI, st.2.1, .inl st.2.2.1))]) ⟨hx, hb, hml, hown, hts⟩ (cX4_count_ok l G cI cG a8 a9 st x1 ex1) (cwV 0 hts gX1_dropTop_X4_count_60 rfl rfl rfl hdX4_count ⟨Nat.le_of_ble_eq_true rfl, Nat.le_of_ble_eq_true rfl⟩) hP hD hS hA hK 4 rfl rfl rfl [8, 9] rfl rfl rfl rfl rfl rfl rfl rfl hl.1 (Nat.le_of_ble_eq_true rfl) dX1_dropTop_8 ⟨Nat.zero_le _, Nat.zero_le _⟩ (fun H locs hP hD hS => ?_)
  refine lv_iconst (v := 1) hx hb dX1_dropTop_11 (by decide) ?_
  refine lv_isub hx hb dX1_dropTop_12 ?_
  obtain ⟨x2, ex2, h⟩ := o_b h
  refine call_vV (As := [.int (x1 - (1 : Int32))]) (rest := []) (ws2 := [(a0, .inr (1, [.ref a1, .ref a3, .ref a6, .ref a8, .int rd, .int tu, .int la, .int (bI dl), .int sh, .int tb])), (a1, .inr (4, [.int ft.1, .ref a2, .int ft.2.2.2])), (a2, .inl (cI, ft.2.1, .inl ft.2.2.1)), (a3, .inr (0, [.ref a4, .int eb])), (a4, .inr (4, [.int er.1, .ref a5, .int er.2.2.2])), (a5, .inl (cI, er.2.1, .inl er.2.2.1)), (a6, .inr (4, [.int li.1, .ref a7, .int li.2.2.2])), (a7, .inl (cI, li.2.1, .inl li.2.2.1)), (a8, .inr (4, [.int x2.1, .ref a9, .int x2.2.2.2])), (a9, .inl (cI, x2.2.1, .inl x2.2.2.1))]) ⟨hx, hb, hml, hown, hts⟩ (cX4_remove_ok l G cI cG a8 a9 st (x1 - (1 : Int32)) x2 ex2) (cwV 1 hts gX1_dropTop_X4_remove_162 rfl rfl rfl hdX4_remove ⟨Nat.le_of_ble_eq_true rfl, Nat.le_of_ble_eq_true rfl⟩) hP hD hS hA hK 4 rfl rfl rfl [8, 9] rfl rfl rfl rfl rfl rfl rfl rfl hl.1 (Nat.le_of_ble_eq_true rfl) dX1_dropTop_13 ⟨Nat.zero_le _, Nat.zero_le _⟩ (fun H locs hP hD hS => ?_)
  obtain rfl := o_s h
  rw [hQ]
  exact end_v hx hb hr hP hD hS dX1_dropTop_16 hlocks
theorem hdX1_heal : yX1_heal.cls = RX1 ∧ yX1_heal.cls ≠ "java/lang/invoke/MethodHandle" ∧ yX1_heal.cls ≠ "java/lang/invoke/VarHandle" ∧ (parseMethodDescriptor yX1_heal.desc).map (fun d => d.parameters.length) = some 2 := by decide +kernel
set_option maxHeartbeats 4000000 in
set_option maxRecDepth 100000 in
theorem cX1_heal_ok (l : Launch) (G : va_G) (cI cG : ClassId) (a0 a1 a2 a3 a4 a5 a6 a7 a8 a9 : Nat) (ft : Tab) (er : Tab) (eb : Int32) (li : Tab) (st : Tab) (rd : Int32) (tu : Int32) (la : Int32) (dl : Bool) (sh : Int32) (tb : Int32) (p1 : Int32) (p2 : Int32) (out : Tab) (hf : fX1_heal ft p1 p2 = some out) : CV l G (tyz cI cG) yX1_heal wsX1_heal ({ frames := 1, cells := 0, slots := 0, locals := 24 } : Room) [.ref a0, .int p1, .int p2] [(a0, .inr (1, [.ref a1, .ref a3, .ref a6, .ref a8, .int rd, .int tu, .int la, .int (bI dl), .int sh, .int tb])), (a1, .inr (4, [.int ft.1, .ref a2, .int ft.2.2.2])), (a2, .inl (cI, ft.2.1, .inl ft.2.2.1)), (a3, .inr (0, [.ref a4, .int eb])), (a4, .inr (4, [.int er.1, .ref a5, .int er.2.2.2])), (a5, .inl (cI, er.2.1, .inl er.2.2.1)), (a6, .inr (4, [.int li.1, .ref a7, .int li.2.2.2])), (a7, .inl (cI, li.2.1, .inl li.2.2.1)), (a8, .inr (4, [.int st.1, .ref a9, .int st.2.2.2])), (a9, .inl (cI, st.2.1, .inl st.2.2.1))] [(a0, .inr (1, [.ref a1, .ref a3, .ref a6, .ref a8, .int rd, .int tu, .int la, .int (bI dl), .int sh, .int tb])), (a1, .inr (4, [.int out.1, .ref a2, .int out.2.2.2])), (a2, .inl (cI, out.2.1, .inl out.2.2.1)), (a3, .inr (0, [.ref a4, .int eb])), (a4, .inr (4, [.int er.1, .ref a5, .int er.2.2.2])), (a5, .inl (cI, er.2.1, .inl er.2.2.1)), (a6, .inr (4, [.int li.1, .ref a7, .int li.2.2.2])), (a7, .inl (cI, li.2.1, .inl li.2.2.1)), (a8, .inr (4, [.int st.1, .ref a9, .int st.2.2.2])), (a9, .inl (cI, st.2.1, .inl st.2.2.1))] := by
  intro sz
  refine Met.ofW (cc := cX1_heal) (maxL := 4) (ret := none) (by decide) rfl ?_
  intro p e s m args below meth c s₁ B hml hv
  obtain ⟨rfl, hsz, hP, hK, hD0⟩ := hv
  have hx := B.exec
  have hb := B.bytes
  have hr := B.returns
  have hts := atoms_spec (ws := wsX1_heal) B.pre
  have hown : s.vm.findClass RX1 = some m.cls := findClass_of_methodNamed B.named
  have hlocks := B.notSynchronized
  subst hsz
  have hD := hD0.self (sz := s.heap.size)
  generalize hAe : va_A ([(a0, .inr (1, [.ref a1, .ref a3, .ref a6, .ref a8, .int rd, .int tu, .int la, .int (bI dl), .int sh, .int tb])), (a1, .inr (4, [.int ft.1, .ref a2, .int ft.2.2.2])), (a2, .inl (cI, ft.2.1, .inl ft.2.2.1)), (a3, .inr (0, [.ref a4, .int eb])), (a4, .inr (4, [.int er.1, .ref a5, .int er.2.2.2])), (a5, .inl (cI, er.2.1, .inl er.2.2.1)), (a6, .inr (4, [.int li.1, .ref a7, .int li.2.2.2])), (a7, .inl (cI, li.2.1, .inl li.2.2.1)), (a8, .inr (4, [.int st.1, .ref a9, .int st.2.2.2])), (a9, .inl (cI, st.2.1, .inl st.2.2.1))]) s.heap.size = A at hD ⊢
  have hA : ∀ q : Nat, s.heap.size ≤ q → A q := fun q h => by rw [← hAe]; exact Or.inr h
  have hS : va_S A s.heap s.heap [] := va_S.rf
  have hw0 := hts (.fieldLink RX1 16 "SpeedTurns$Game" "fighters" "LSpeedTurns$Table;") (List.mem_of_getElem? (i := 1) rfl)
  have hw1 := hts (.methodLink RX1 150 Lib.Math.min.name) (List.mem_of_getElem? (i := 6) rfl)
  have hw2 := hts (.static Lib.Math.min.name) (List.mem_of_getElem? (i := 7) rfl)
  have hw3 := hts (.initialized "java/lang/Math") (List.mem_of_getElem? (i := 8) rfl)
  have hw4 := hts (.code Lib.Math.min.name Lib.Math.min.code 2 (some .int)) (List.mem_of_getElem? (i := 9) rfl)
  show W p l e ({ frames := 1, cells := 0, slots := 0, locals := 24 } : Room) s m _ below meth c s.heap [] 0 0 _ _
  refine W_genQ (fun Q hQ => ?_)
  have h := hf
  rw [fX1_heal] at h
  have hl := lv_entry ([.ref a0, .int p1, .int p2]) (n := 4) (Nat.le_of_ble_eq_true rfl)
  rw [lg_entry_eq]
  generalize (lg_sl ([.ref a0, .int p1, .int p2]) ++ List.replicate (4 - (lg_sl ([.ref a0, .int p1, .int p2])).length) Slot.unset).toArray = ls at hl ⊢
  have hl : lv_has ls 4 [(0, .ref a0), (1, .int p1), (2, .int p2)] := hl
  refine lv_aload_n hx hb dX1_heal_0 rfl (lv_at hl 0 rfl) ?_
  refine va_get (D := G) (ci := 1) (v := .ref a1) (C := RX1) (T := TX1) (N := 10) hx hb hts huX1_heal_X1 hown hK.1 hP 0 rfl rfl 0 (by decide) hw0 (fun _ h9 => h9) rfl dX1_heal_1 ?_
  refine lv_iload_n hx hb dX1_heal_4 rfl (lv_at hl 1 rfl) ?_
  refine lv_iconst (v := 2) hx hb dX1_heal_5 (by decide) ?_
  obtain ⟨x1, ex1, h⟩ := o_b h
  refine call_iV (As := [.int p1, .int (2 : Int32)]) (rest := []) (ws2 := [(a0, .inr (1, [.ref a1, .ref a3, .ref a6, .ref a8, .int rd, .int tu, .int la, .int (bI dl), .int sh, .int tb])), (a1, .inr (4, [.int ft.1, .ref a2, .int ft.2.2.2])), (a2, .inl (cI, ft.2.1, .inl ft.2.2.1)), (a3, .inr (0, [.ref a4, .int eb])), (a4, .inr (4, [.int er.1, .ref a5, .int er.2.2.2])), (a5, .inl (cI, er.2.1, .inl er.2.2.1)), (a6, .inr (4, [.int li.1, .ref a7, .int li.2.2.2])), (a7, .inl (cI, li.2.1, .inl li.2.2.1)), (a8, .inr (4, [.int st.1, .ref a9, .int st.2.2.2])), (a9, .inl (cI, st.2.1, .inl st.2.2.1))]) ⟨hx, hb, hml, hown, hts⟩ (cX4_at_ok l G cI cG a1 a2 ft p1 (2 : Int32) x1 ex1) (cwV 2 hts gX1_heal_X4_at_64 rfl rfl rfl hdX4_at ⟨Nat.le_of_ble_eq_true rfl, Nat.le_of_ble_eq_true rfl⟩) hP hD hS hA hK 4 rfl rfl rfl [1, 2] rfl rfl rfl rfl rfl rfl rfl rfl hl.1 (Nat.le_of_ble_eq_true rfl) dX1_heal_6 ⟨Nat.zero_le _, Nat.zero_le _⟩ (fun H locs hP hD hS => ?_)
  refine lv_iload_n hx hb dX1_heal_9 rfl (lv_at hl 2 rfl) ?_
  refine lv_iadd hx hb dX1_heal_10 ?_
  refine lv_istore_n (lv' := [(3, .int (x1 + p2)), (0, .ref a0), (1, .int p1), (2, .int p2)]) hx hb dX1_heal_11 rfl hl (by decide) rfl (fun ls hl => ?_)
  refine lv_aload_n hx hb dX1_heal_12 rfl (lv_at hl 1 rfl) ?_
  refine va_get (D := G) (ci := 1) (v := .ref a1) (C := RX1) (T := TX1) (N := 10) hx hb hts huX1_heal_X1 hown hK.1 hP 0 rfl rfl 0 (by decide) hw0 (fun _ h9 => h9) rfl dX1_heal_13 ?_
  refine lv_iload_n hx hb dX1_heal_16 rfl (lv_at hl 2 rfl) ?_
  refine lv_iconst (v := 2) hx hb dX1_heal_17 (by decide) ?_
  refine lv_iload_n hx hb dX1_heal_18 rfl (lv_at hl 0 rfl) ?_
  refine lv_aload_n hx hb dX1_heal_19 rfl (lv_at hl 1 rfl) ?_
  refine va_get (D := G) (ci := 1) (v := .ref a1) (C := RX1) (T := TX1) (N := 10) hx hb hts huX1_heal_X1 hown hK.1 hP 0 rfl rfl 0 (by decide) hw0 (fun _ h9 => h9) rfl dX1_heal_20 ?_
  refine lv_iload_n hx hb dX1_heal_23 rfl (lv_at hl 2 rfl) ?_
  refine lv_iconst (v := 1) hx hb dX1_heal_24 (by decide) ?_
  obtain ⟨x2, ex2, h⟩ := o_b h
  refine call_iV (As := [.int p1, .int (1 : Int32)]) (rest := [.int (x1 + p2), .int (2 : Int32), .int p1, .ref a1]) (ws2 := [(a0, .inr (1, [.ref a1, .ref a3, .ref a6, .ref a8, .int rd, .int tu, .int la, .int (bI dl), .int sh, .int tb])), (a1, .inr (4, [.int ft.1, .ref a2, .int ft.2.2.2])), (a2, .inl (cI, ft.2.1, .inl ft.2.2.1)), (a3, .inr (0, [.ref a4, .int eb])), (a4, .inr (4, [.int er.1, .ref a5, .int er.2.2.2])), (a5, .inl (cI, er.2.1, .inl er.2.2.1)), (a6, .inr (4, [.int li.1, .ref a7, .int li.2.2.2])), (a7, .inl (cI, li.2.1, .inl li.2.2.1)), (a8, .inr (4, [.int st.1, .ref a9, .int st.2.2.2])), (a9, .inl (cI, st.2.1, .inl st.2.2.1))]) ⟨hx, hb, hml, hown, hts⟩ (cX4_at_ok l G cI cG a1 a2 ft p1 (1 : Int32) x2 ex2) (cwV 2 hts gX1_heal_X4_at_64 rfl rfl rfl hdX4_at ⟨Nat.le_of_ble_eq_true rfl, Nat.le_of_ble_eq_true rfl⟩) hP hD hS hA hK 4 rfl rfl rfl [1, 2] rfl rfl rfl rfl rfl rfl rfl rfl hl.1 (Nat.le_of_ble_eq_true rfl) dX1_heal_25 ⟨Nat.zero_le _, Nat.zero_le _⟩ (fun H locs hP hD hS => ?_)
  refine va_mmin hx hb (by rw [hml]; exact hl.1.symm) hown hw1 hw2 hw3 hw4 (Nat.le_of_ble_eq_true rfl) (Nat.le_of_ble_eq_true rfl) (Nat.zero_le _) (Nat.zero_le _) dX1_heal_28 ?_
  obtain ⟨x3, ex3, h⟩ := o_b h
  refine call_vV (As := [.int p1, .int (2 : Int32), .int (if x2 < (x1 + p2) then x2 else (x1 + p2))]) (rest := []) (ws2 := [(a0, .inr (1, [.ref a1, .ref a3, .ref a6, .ref a8, .int rd, .int tu, .int la, .int (bI dl), .int sh, .int tb])), (a1, .inr (4, [.int x3.1, .ref a2, .int x3.2.2.2])), (a2, .inl (cI, x3.2.1, .inl x3.2.2.1)), (a3, .inr (0, [.ref a4, .int eb])), (a4, .inr (4, [.int er.1, .ref a5, .int er.2.2.2])), (a5, .inl (cI, er.2.1, .inl er.2.2.1)), (a6, .inr (4, [.int li.1, .ref a7, .int li.2.2.2])), (a7, .inl (cI, li.2.1, .inl li.2.2.1)), (a8, .inr (4, [.int st.1, .ref a9, .int st.2.2.2])), (a9, .inl (cI, st.2.1, .inl st.2.2.1))]) ⟨hx, hb, hml, hown, hts⟩ (cX4_put_ok l G cI cG a1 a2 ft p1 (2 : Int32) (if x2 < (x1 + p2) then x2 else (x1 + p2)) x3 ex3) (cwV 3 hts gX1_heal_X4_put_119 rfl rfl rfl hdX4_put ⟨Nat.le_of_ble_eq_true rfl, Nat.le_of_ble_eq_true rfl⟩) hP hD hS hA hK 4 rfl rfl rfl [1, 2] rfl rfl rfl rfl rfl rfl rfl rfl hl.1 (Nat.le_of_ble_eq_true rfl) dX1_heal_31 ⟨Nat.zero_le _, Nat.zero_le _⟩ (fun H locs hP hD hS => ?_)
  obtain rfl := o_s h
  rw [hQ]
  exact end_v hx hb hr hP hD hS dX1_heal_34 hlocks
theorem hdX1_settleTop : yX1_settleTop.cls = RX1 ∧ yX1_settleTop.cls ≠ "java/lang/invoke/MethodHandle" ∧ yX1_settleTop.cls ≠ "java/lang/invoke/VarHandle" ∧ (parseMethodDescriptor yX1_settleTop.desc).map (fun d => d.parameters.length) = some 0 := by decide +kernel
set_option maxHeartbeats 4000000 in
set_option maxRecDepth 100000 in
theorem cX1_settleTop_ok (l : Launch) (G : va_G) (cI cG : ClassId) (a0 a1 a2 a3 a4 a5 a6 a7 a8 a9 : Nat) (fu : Nat) (ft : Tab) (er : Tab) (eb : Int32) (li : Tab) (st : Tab) (rd : Int32) (tu : Int32) (la : Int32) (dl : Bool) (sh : Int32) (tb : Int32) (out : Bool × Tab × Tab × Int32 × Tab) (hf : fX1_settleTop fu ft er eb st sh = some out) : CI l G (tyz cI cG) yX1_settleTop wsX1_settleTop ({ frames := 4, cells := 0, slots := 0, locals := 132 } : Room) [.ref a0] [(a0, .inr (1, [.ref a1, .ref a3, .ref a6, .ref a8, .int rd, .int tu, .int la, .int (bI dl), .int sh, .int tb])), (a1, .inr (4, [.int ft.1, .ref a2, .int ft.2.2.2])), (a2, .inl (cI, ft.2.1, .inl ft.2.2.1)), (a3, .inr (0, [.ref a4, .int eb])), (a4, .inr (4, [.int er.1, .ref a5, .int er.2.2.2])), (a5, .inl (cI, er.2.1, .inl er.2.2.1)), (a6, .inr (4, [.int li.1, .ref a7, .int li.2.2.2])), (a7, .inl (cI, li.2.1, .inl li.2.2.1)), (a8, .inr (4, [.int st.1, .ref a9, .int st.2.2.2])), (a9, .inl (cI, st.2.1, .inl st.2.2.1))] (bI out.1) [(a0, .inr (1, [.ref a1, .ref a3, .ref a6, .ref a8, .int rd, .int tu, .int la, .int (bI dl), .int sh, .int tb])), (a1, .inr (4, [.int out.2.1.1, .ref a2, .int out.2.1.2.2.2])), (a2, .inl (cI, out.2.1.2.1, .inl out.2.1.2.2.1)), (a3, .inr (0, [.ref a4, .int out.2.2.2.1])), (a4, .inr (4, [.int out.2.2.1.1, .ref a5, .int out.2.2.1.2.2.2])), (a5, .inl (cI, out.2.2.1.2.1, .inl out.2.2.1.2.2.1)), (a6, .inr (4, [.int li.1, .ref a7, .int li.2.2.2])), (a7, .inl (cI, li.2.1, .inl li.2.2.1)), (a8, .inr (4, [.int out.2.2.2.2.1, .ref a9, .int out.2.2.2.2.2.2.2])), (a9, .inl (cI, out.2.2.2.2.2.1, .inl out.2.2.2.2.2.2.1))] := by
  intro sz
  refine Met.ofW (cc := cX1_settleTop) (maxL := 8) (ret := (some .boolean)) (by decide) rfl ?_
  intro p e s m args below meth c s₁ B hml hv
  obtain ⟨rfl, hsz, hP, hK, hD0⟩ := hv
  have hx := B.exec
  have hb := B.bytes
  have hr := B.returns
  have hts := atoms_spec (ws := wsX1_settleTop) B.pre
  have hown : s.vm.findClass RX1 = some m.cls := findClass_of_methodNamed B.named
  have hlocks := B.notSynchronized
  subst hsz
  have hD := hD0.self (sz := s.heap.size)
  generalize hAe : va_A ([(a0, .inr (1, [.ref a1, .ref a3, .ref a6, .ref a8, .int rd, .int tu, .int la, .int (bI dl), .int sh, .int tb])), (a1, .inr (4, [.int ft.1, .ref a2, .int ft.2.2.2])), (a2, .inl (cI, ft.2.1, .inl ft.2.2.1)), (a3, .inr (0, [.ref a4, .int eb])), (a4, .inr (4, [.int er.1, .ref a5, .int er.2.2.2])), (a5, .inl (cI, er.2.1, .inl er.2.2.1)), (a6, .inr (4, [.int li.1, .ref a7, .int li.2.2.2])), (a7, .inl (cI, li.2.1, .inl li.2.2.1)), (a8, .inr (4, [.int st.1, .ref a9, .int st.2.2.2])), (a9, .inl (cI, st.2.1, .inl st.2.2.1))]) s.heap.size = A at hD ⊢
  have hA : ∀ q : Nat, s.heap.size ≤ q → A q := fun q h => by rw [← hAe]; exact Or.inr h
  have hS : va_S A s.heap s.heap [] := va_S.rf
  have hw0 := hts (.fieldLink RX1 23 "SpeedTurns$Game" "effects" "LSpeedTurns$Effects;") (List.mem_of_getElem? (i := 11) rfl)
  have hw1 := hts (.methodLink RX1 110 Lib.Math.max.name) (List.mem_of_getElem? (i := 16) rfl)
  have hw2 := hts (.static Lib.Math.max.name) (List.mem_of_getElem? (i := 17) rfl)
  have hw3 := hts (.initialized "java/lang/Math") (List.mem_of_getElem? (i := 18) rfl)
  have hw4 := hts (.code Lib.Math.max.name Lib.Math.max.code 2 (some .int)) (List.mem_of_getElem? (i := 19) rfl)
  show W p l e ({ frames := 4, cells := 0, slots := 0, locals := 132 } : Room) s m _ below meth c s.heap [] 0 0 _ _
  refine W_genQ (fun Q hQ => ?_)
  have J81 : ∀ (st : Tab) (v1 : Int32) (v2 : Int32) (v3 : Int32) (v4 : Int32) (v5 : Int32) (v6 : Int32) (v7 : Int32) (H : Heap) (locs : List Loc) (ls : Array Slot), fX1_settleTop_J81 fu ft er eb sh st v1 v2 v3 v4 v5 v6 v7 = some out → va_P G vwCl ([(a0, .inr (1, [.ref a1, .ref a3, .ref a6, .ref a8, .int rd, .int tu, .int la, .int (bI dl), .int sh, .int tb])), (a1, .inr (4, [.int ft.1, .ref a2, .int ft.2.2.2])), (a2, .inl (cI, ft.2.1, .inl ft.2.2.1)), (a3, .inr (0, [.ref a4, .int eb])), (a4, .inr (4, [.int er.1, .ref a5, .int er.2.2.2])), (a5, .inl (cI, er.2.1, .inl er.2.2.1)), (a6, .inr (4, [.int li.1, .ref a7, .int li.2.2.2])), (a7, .inl (cI, li.2.1, .inl li.2.2.1)), (a8, .inr (4, [.int st.1, .ref a9, .int st.2.2.2])), (a9, .inl (cI, st.2.1, .inl st.2.2.1))]) H → va_D A ([(a0, .inr (1, [.ref a1, .ref a3, .ref a6, .ref a8, .int rd, .int tu, .int la, .int (bI dl), .int sh, .int tb])), (a1, .inr (4, [.int ft.1, .ref a2, .int ft.2.2.2])), (a2, .inl (cI, ft.2.1, .inl ft.2.2.1)), (a3, .inr (0, [.ref a4, .int eb])), (a4, .inr (4, [.int er.1, .ref a5, .int er.2.2.2])), (a5, .inl (cI, er.2.1, .inl er.2.2.1)), (a6, .inr (4, [.int li.1, .ref a7, .int li.2.2.2])), (a7, .inl (cI, li.2.1, .inl li.2.2.1)), (a8, .inr (4, [.int st.1, .ref a9, .int st.2.2.2])), (a9, .inl (cI, st.2.1, .inl st.2.2.1))]) → va_S A s.heap H locs → lv_has ls 8 [(0, .ref a0), (1, .int v1), (2, .int v2), (3, .int v3), (4, .int v4), (5, .int v5), (6, .int v6), (7, .int v7)] → W p l e ({ frames := 4, cells := 0, slots := 0, locals := 132 } : Room) s m ([.ref a0] : List Value).toArray below meth c H locs 0 0 Q (F0 m 81 ls []) := by
    intro st v1 v2 v3 v4 v5 v6 v7 H locs ls h hP hD hS hl
    rw [fX1_settleTop_J81] at h
    refine lv_iload_n hx hb dX1_settleTop_81 rfl (lv_at hl 1 rfl) ?_
    by_cases c10 : v1 = 0
    · have h := o_t h c10
      refine lv_tableIn (off := 26) (tgt := 108) hx hb dX1_settleTop_82 (by rw [c10]; decide) (by rw [c10]; decide) (by rw [c10]; rfl) (by decide) ?_
      refine lv_aload_n hx hb dX1_settleTop_108 rfl (lv_at hl 0 rfl) ?_
      refine lv_iload_n hx hb dX1_settleTop_109 rfl (lv_at hl 3 rfl) ?_
      refine lv_iconst (v := 0) hx hb dX1_settleTop_110 (by decide) ?_
      refine lv_iload hx hb dX1_settleTop_111 (lv_at hl 4 rfl) ?_
      refine lv_aload_n hx hb dX1_settleTop_113 rfl (lv_at hl 0 rfl) ?_
      refine va_get (D := G) (ci := 1) (v := .ref a3) (C := RX1) (T := TX1) (N := 10) hx hb hts huX1_settleTop_X1 hown hK.1 hP 0 rfl rfl 1 (by decide) hw0 (fun _ h9 => h9) rfl dX1_settleTop_114 ?_
      refine lv_iload_n hx hb dX1_settleTop_117 rfl (lv_at hl 3 rfl) ?_
      refine lv_iconst (v := 3) hx hb dX1_settleTop_118 (by decide) ?_
      obtain ⟨x11, ex11, h⟩ := o_b h
      refine call_iV (As := [.int v3, .int (3 : Int32)]) (rest := [.int v4, .int (0 : Int32), .int v3, .ref a0]) (ws2 := [(a0, .inr (1, [.ref a1, .ref a3, .ref a6, .ref a8, .int rd, .int tu, .int la, .int (bI dl), .int sh, .int tb])), (a1, .inr (4, [.int ft.1, .ref a2, .int ft.2.2.2])), (a2, .inl (cI, ft.2.1, .inl ft.2.2.1)), (a3, .inr (0, [.ref a4, .int eb])), (a4, .inr (4, [.int er.1, .ref a5, .int er.2.2.2])), (a5, .inl (cI, er.2.1, .inl er.2.2.1)), (a6, .inr (4, [.int li.1, .ref a7, .int li.2.2.2])), (a7, .inl (cI, li.2.1, .inl li.2.2.1)), (a8, .inr (4, [.int st.1, .ref a9, .int st.2.2.2])), (a9, .inl (cI, st.2.1, .inl st.2.2.1))]) ⟨hx, hb, hml, hown, hts⟩ (cX0_powerOn_ok l G cI cG a3 a4 a5 fu er eb v3 (3 : Int32) x11 ex11) (cwV 2 hts gX1_settleTop_X0_powerOn_107 rfl rfl rfl hdX0_powerOn ⟨Nat.le_of_ble_eq_true rfl, Nat.le_of_ble_eq_true rfl⟩) hP hD hS hA hK 0 rfl rfl rfl [3, 4, 5] rfl rfl rfl rfl rfl rfl rfl rfl hl.1 (Nat.le_of_ble_eq_true rfl) dX1_settleTop_119 ⟨Nat.zero_le _, Nat.zero_le _⟩ (fun H locs hP hD hS => ?_)
      refine lv_isub hx hb dX1_settleTop_122 ?_
      refine va_mmax hx hb (by rw [hml]; exact hl.1.symm) hown hw1 hw2 hw3 hw4 (Nat.le_of_ble_eq_true rfl) (Nat.le_of_ble_eq_true rfl) (Nat.zero_le _) (Nat.zero_le _) dX1_settleTop_123 ?_
      obtain ⟨x12, ex12, h⟩ := o_b h
      refine call_vV (As := [.int v3, .int (if (0 : Int32) < (v4 - x11) then (v4 - x11) else (0 : Int32))]) (rest := []) (ws2 := [(a0, .inr (1, [.ref a1, .ref a3, .ref a6, .ref a8, .int rd, .int tu, .int la, .int (bI dl), .int sh, .int tb])), (a1, .inr (4, [.int x12.1.1, .ref a2, .int x12.1.2.2.2])), (a2, .inl (cI, x12.1.2.1, .inl x12.1.2.2.1)), (a3, .inr (0, [.ref a4, .int eb])), (a4, .inr (4, [.int x12.2.1, .ref a5, .int x12.2.2.2.2])), (a5, .inl (cI, x12.2.2.1, .inl x12.2.2.2.1)), (a6, .inr (4, [.int li.1, .ref a7, .int li.2.2.2])), (a7, .inl (cI, li.2.1, .inl li.2.2.1)), (a8, .inr (4, [.int st.1, .ref a9, .int st.2.2.2])), (a9, .inl (cI, st.2.1, .inl st.2.2.1))]) ⟨hx, hb, hml, hown, hts⟩ (cX1_harm_ok l G cI cG a0 a1 a2 a3 a4 a5 a6 a7 a8 a9 fu ft er eb li st rd tu la dl sh tb v3 (if (0 : Int32) < (v4 - x11) then (v4 - x11) else (0 : Int32)) x12 ex12) (cwV 2 hts gX1_settleTop_X1_harm_147 rfl rfl rfl hdX1_harm ⟨Nat.le_of_ble_eq_true rfl, Nat.le_of_ble_eq_true rfl⟩) hP hD hS hA hK 1 rfl rfl rfl [0, 1, 2, 3, 4, 5, 6, 7, 8, 9] rfl rfl rfl rfl rfl rfl rfl rfl hl.1 (Nat.le_of_ble_eq_true rfl) dX1_settleTop_126 ⟨Nat.zero_le _, Nat.zero_le _⟩ (fun H locs hP hD hS => ?_)
      refine lv_goto (tgt := 166) hx hb dX1_settleTop_129 (by decide) ?_
      refine lv_iconst (v := 1) hx hb dX1_settleTop_166 (by decide) ?_
      obtain rfl := o_s h
      rw [hQ]
      exact end_z hx hb hr rfl rfl hP hD hS dX1_settleTop_167 hlocks
    have h := o_f h c10
    by_cases c13 : v1 = 1
    · have h := o_t h c13
      refine lv_tableIn (off := 50) (tgt := 132) hx hb dX1_settleTop_82 (by rw [c13]; decide) (by rw [c13]; decide) (by rw [c13]; rfl) (by decide) ?_
      refine lv_aload_n hx hb dX1_settleTop_132 rfl (lv_at hl 0 rfl) ?_
      refine lv_iload_n hx hb dX1_settleTop_133 rfl (lv_at hl 3 rfl) ?_
      refine lv_iload hx hb dX1_settleTop_134 (lv_at hl 4 rfl) ?_
      obtain ⟨x14, ex14, h⟩ := o_b h
      refine call_vV (As := [.int v3, .int v4]) (rest := []) (ws2 := [(a0, .inr (1, [.ref a1, .ref a3, .ref a6, .ref a8, .int rd, .int tu, .int la, .int (bI dl), .int sh, .int tb])), (a1, .inr (4, [.int x14.1, .ref a2, .int x14.2.2.2])), (a2, .inl (cI, x14.2.1, .inl x14.2.2.1)), (a3, .inr (0, [.ref a4, .int eb])), (a4, .inr (4, [.int er.1, .ref a5, .int er.2.2.2])), (a5, .inl (cI, er.2.1, .inl er.2.2.1)), (a6, .inr (4, [.int li.1, .ref a7, .int li.2.2.2])), (a7, .inl (cI, li.2.1, .inl li.2.2.1)), (a8, .inr (4, [.int st.1, .ref a9, .int st.2.2.2])), (a9, .inl (cI, st.2.1, .inl st.2.2.1))]) ⟨hx, hb, hml, hown, hts⟩ (cX1_heal_ok l G cI cG a0 a1 a2 a3 a4 a5 a6 a7 a8 a9 ft er eb li st rd tu la dl sh tb v3 v4 x14 ex14) (cwV 2 hts gX1_settleTop_X1_heal_181 rfl rfl rfl hdX1_heal ⟨Nat.le_of_ble_eq_true rfl, Nat.le_of_ble_eq_true rfl⟩) hP hD hS hA hK 1 rfl rfl rfl [0, 1, 2, 3, 4, 5, 6, 7, 8, 9] rfl rfl rfl rfl rfl rfl rfl rfl hl.1 (Nat.le_of_ble_eq_true rfl) dX1_settleTop_136 ⟨Nat.zero_le _, Nat.zero_le _⟩ (fun H locs hP hD hS => ?_)
      refine lv_goto (tgt := 166) hx hb dX1_settleTop_139 (by decide) ?_
      refine lv_iconst (v := 1) hx hb dX1_settleTop_166 (by decide) ?_
      obtain rfl := o_s h
      rw [hQ]
      exact end_z hx hb hr rfl rfl hP hD hS dX1_settleTop_167 hlocks
    have h := o_f h c13
    by_cases c15 : v1 = 2
    · have h := o_t h c15
      refine lv_tableIn (off := 60) (tgt := 142) hx hb dX1_settleTop_82 (by rw [c15]; decide) (by rw [c15]; decide) (by rw [c15]; rfl) (by decide) ?_
      refine lv_aload_n hx hb dX1_settleTop_142 rfl (lv_at hl 0 rfl) ?_
      refine va_get (D := G) (ci := 1) (v := .ref a3) (C := RX1) (T := TX1) (N := 10) hx hb hts huX1_settleTop_X1 hown hK.1 hP 0 rfl rfl 1 (by decide) hw0 (fun _ h9 => h9) rfl dX1_settleTop_143 ?_
      refine lv_iload hx hb dX1_settleTop_146 (lv_at hl 5 rfl) ?_
      refine lv_iload hx hb dX1_settleTop_148 (lv_at hl 4 rfl) ?_
      refine lv_iload_n hx hb dX1_settleTop_150 rfl (lv_at hl 2 rfl) ?_
      refine lv_iload_n hx hb dX1_settleTop_151 rfl (lv_at hl 3 rfl) ?_
      refine lv_iload hx hb dX1_settleTop_152 (lv_at hl 6 rfl) ?_
      refine lv_iload hx hb dX1_settleTop_154 (lv_at hl 7 rfl) ?_
      obtain ⟨x16, ex16, h⟩ := o_b h
      refine call_vV (As := [.int v5, .int v4, .int v2, .int v3, .int v6, .int v7]) (rest := []) (ws2 := [(a0, .inr (1, [.ref a1, .ref a3, .ref a6, .ref a8, .int rd, .int tu, .int la, .int (bI dl), .int sh, .int tb])), (a1, .inr (4, [.int ft.1, .ref a2, .int ft.2.2.2])), (a2, .inl (cI, ft.2.1, .inl ft.2.2.1)), (a3, .inr (0, [.ref a4, .int x16.2])), (a4, .inr (4, [.int x16.1.1, .ref a5, .int x16.1.2.2.2])), (a5, .inl (cI, x16.1.2.1, .inl x16.1.2.2.1)), (a6, .inr (4, [.int li.1, .ref a7, .int li.2.2.2])), (a7, .inl (cI, li.2.1, .inl li.2.2.1)), (a8, .inr (4, [.int st.1, .ref a9, .int st.2.2.2])), (a9, .inl (cI, st.2.1, .inl st.2.2.1))]) ⟨hx, hb, hml, hown, hts⟩ (cX0_begin_ok l G cI cG a3 a4 a5 fu er eb v5 v4 v2 v3 v6 v7 x16 ex16) (cwV 6 hts gX1_settleTop_X0_begin_184 rfl rfl rfl hdX0_begin ⟨Nat.le_of_ble_eq_true rfl, Nat.le_of_ble_eq_true rfl⟩) hP hD hS hA hK 0 rfl rfl rfl [3, 4, 5] rfl rfl rfl rfl rfl rfl rfl rfl hl.1 (Nat.le_of_ble_eq_true rfl) dX1_settleTop_156 ⟨Nat.zero_le _, Nat.zero_le _⟩ (fun H locs hP hD hS => ?_)
      refine lv_goto (tgt := 166) hx hb dX1_settleTop_159 (by decide) ?_
      refine lv_iconst (v := 1) hx hb dX1_settleTop_166 (by decide) ?_
      obtain rfl := o_s h
      rw [hQ]
      exact end_z hx hb hr rfl rfl hP hD hS dX1_settleTop_167 hlocks
    have h := o_f h c15
    have kc10 := ne_ti c10 (z := 0) (by decide)
    have kc13 := ne_ti c13 (z := 1) (by decide)
    have kc15 := ne_ti c15 (z := 2) (by decide)
    refine lv_tableOut (tgt := 162) hx hb dX1_settleTop_82 (by omega) (by decide) ?_
    refine lv_aload_n hx hb dX1_settleTop_162 rfl (lv_at hl 0 rfl) ?_
    obtain ⟨x17, ex17, h⟩ := o_b h
    refine call_vV (As := []) (rest := []) (ws2 := [(a0, .inr (1, [.ref a1, .ref a3, .ref a6, .ref a8, .int rd, .int tu, .int la, .int (bI dl), .int sh, .int tb])), (a1, .inr (4, [.int ft.1, .ref a2, .int ft.2.2.2])), (a2, .inl (cI, ft.2.1, .inl ft.2.2.1)), (a3, .inr (0, [.ref a4, .int eb])), (a4, .inr (4, [.int er.1, .ref a5, .int er.2.2.2])), (a5, .inl (cI, er.2.1, .inl er.2.2.1)), (a6, .inr (4, [.int li.1, .ref a7, .int li.2.2.2])), (a7, .inl (cI, li.2.1, .inl li.2.2.1)), (a8, .inr (4, [.int x17.1, .ref a9, .int x17.2.2.2])), (a9, .inl (cI, x17.2.1, .inl x17.2.2.1))]) ⟨hx, hb, hml, hown, hts⟩ (cX1_dropTop_ok l G cI cG a0 a1 a2 a3 a4 a5 a6 a7 a8 a9 ft er eb li st rd tu la dl sh tb x17 ex17) (cwV 0 hts gX1_settleTop_X1_dropTop_178 rfl rfl rfl hdX1_dropTop ⟨Nat.le_of_ble_eq_true rfl, Nat.le_of_ble_eq_true rfl⟩) hP hD hS hA hK 1 rfl rfl rfl [0, 1, 2, 3, 4, 5, 6, 7, 8, 9] rfl rfl rfl rfl rfl rfl rfl rfl hl.1 (Nat.le_of_ble_eq_true rfl) dX1_settleTop_163 ⟨Nat.zero_le _, Nat.zero_le _⟩ (fun H locs hP hD hS => ?_)
    refine lv_iconst (v := 1) hx hb dX1_settleTop_166 (by decide) ?_
    obtain rfl := o_s h
    rw [hQ]
    exact end_z hx hb hr rfl rfl hP hD hS dX1_settleTop_167 hlocks
  have h := hf
  rw [fX1_settleTop] at h
  have hl := lv_entry ([.ref a0]) (n := 8) (Nat.le_of_ble_eq_true rfl)
  rw [lg_entry_eq]
  generalize (lg_sl ([.ref a0]) ++ List.replicate (8 - (lg_sl ([.ref a0])).length) Slot.unset).toArray = ls at hl ⊢
  have hl : lv_has ls 8 [(0, .ref a0)] := hl
  refine lv_aload_n hx hb dX1_settleTop_0 rfl (lv_at hl 0 rfl) ?_
  refine lv_iconst (v := 0) hx hb dX1_settleTop_1 (by decide) ?_
  refine lv_iconst (v := 0) hx hb dX1_settleTop_2 (by decide) ?_
  obtain ⟨x1, ex1, h⟩ := o_b h
  refine call_iV (As := [.int (0 : Int32), .int (0 : Int32)]) (rest := []) (ws2 := [(a0, .inr (1, [.ref a1, .ref a3, .ref a6, .ref a8, .int rd, .int tu, .int la, .int (bI dl), .int sh, .int tb])), (a1, .inr (4, [.int ft.1, .ref a2, .int ft.2.2.2])), (a2, .inl (cI, ft.2.1, .inl ft.2.2.1)), (a3, .inr (0, [.ref a4, .int eb])), (a4, .inr (4, [.int er.1, .ref a5, .int er.2.2.2])), (a5, .inl (cI, er.2.1, .inl er.2.2.1)), (a6, .inr (4, [.int li.1, .ref a7, .int li.2.2.2])), (a7, .inl (cI, li.2.1, .inl li.2.2.1)), (a8, .inr (4, [.int st.1, .ref a9, .int st.2.2.2])), (a9, .inl (cI, st.2.1, .inl st.2.2.1))]) ⟨hx, hb, hml, hown, hts⟩ (cX1_aboutAct_ok l G cI cG a0 a1 a2 a3 a4 a5 a6 a7 a8 a9 ft er eb li st rd tu la dl sh tb (0 : Int32) (0 : Int32) x1 ex1) (cwV 2 hts gX1_settleTop_X1_aboutAct_169 rfl rfl rfl hdX1_aboutAct ⟨Nat.le_of_ble_eq_true rfl, Nat.le_of_ble_eq_true rfl⟩) hP hD hS hA hK 1 rfl rfl rfl [0, 1, 2, 3, 4, 5, 6, 7, 8, 9] rfl rfl rfl rfl rfl rfl rfl rfl hl.1 (Nat.le_of_ble_eq_true rfl) dX1_settleTop_3 ⟨Nat.zero_le _, Nat.zero_le _⟩ (fun H locs hP hD hS => ?_)
  refine lv_istore_n (lv' := [(1, .int x1), (0, .ref a0)]) hx hb dX1_settleTop_6 rfl hl (by decide) rfl (fun ls hl => ?_)
  refine lv_aload_n hx hb dX1_settleTop_7 rfl (lv_at hl 1 rfl) ?_
  refine lv_iconst (v := 0) hx hb dX1_settleTop_8 (by decide) ?_
  refine lv_iconst (v := 1) hx hb dX1_settleTop_9 (by decide) ?_
  obtain ⟨x2, ex2, h⟩ := o_b h
  refine call_iV (As := [.int (0 : Int32), .int (1 : Int32)]) (rest := []) (ws2 := [(a0, .inr (1, [.ref a1, .ref a3, .ref a6, .ref a8, .int rd, .int tu, .int la, .int (bI dl), .int sh, .int tb])), (a1, .inr (4, [.int ft.1, .ref a2, .int ft.2.2.2])), (a2, .inl (cI, ft.2.1, .inl ft.2.2.1)), (a3, .inr (0, [.ref a4, .int eb])), (a4, .inr (4, [.int er.1, .ref a5, .int er.2.2.2])), (a5, .inl (cI, er.2.1, .inl er.2.2.1)), (a6, .inr (4, [.int li.1, .ref a7, .int li.2.2.2])), (a7, .inl (cI, li.2.1, .inl li.2.2.1)), (a8, .inr (4, [.int st.1, .ref a9, .int st.2.2.2])), (a9, .inl (cI, st.2.1, .inl st.2.2.1))]) ⟨hx, hb, hml, hown, hts⟩ (cX1_aboutAct_ok l G cI cG a0 a1 a2 a3 a4 a5 a6 a7 a8 a9 ft er eb li st rd tu la dl sh tb (0 : Int32) (1 : Int32) x2 ex2) (cwV 2 hts gX1_settleTop_X1_aboutAct_169 rfl rfl rfl hdX1_aboutAct ⟨Nat.le_of_ble_eq_true rfl, Nat.le_of_ble_eq_true rfl⟩) hP hD hS hA hK 1 rfl rfl rfl [0, 1, 2, 3, 4, 5, 6, 7, 8, 9] rfl rfl rfl rfl rfl rfl rfl rfl hl.1 (Nat.le_of_ble_eq_true rfl) dX1_settleTop_10 ⟨Nat.zero_le _, Nat.zero_le _⟩ (fun H locs hP hD hS => ?_)
  refine lv_istore_n (lv' := [(2, .int x2), (1, .int x1), (0, .ref a0)]) hx hb dX1_settleTop_13 rfl hl (by decide) rfl (fun ls hl => ?_)
  refine lv_aload_n hx hb dX1_settleTop_14 rfl (lv_at hl 2 rfl) ?_
  refine lv_iconst (v := 0) hx hb dX1_settleTop_15 (by decide) ?_
  refine lv_iconst (v := 2) hx hb dX1_settleTop_16 (by decide) ?_
  obtain ⟨x3, ex3, h⟩ := o_b h
  refine call_iV (As := [.int (0 : Int32), .int (2 : Int32)]) (rest := []) (ws2 := [(a0, .inr (1, [.ref a1, .ref a3, .ref a6, .ref a8, .int rd, .int tu, .int la, .int (bI dl), .int sh, .int tb])), (a1, .inr (4, [.int ft.1, .ref a2, .int ft.2.2.2])), (a2, .inl (cI, ft.2.1, .inl ft.2.2.1)), (a3, .inr (0, [.ref a4, .int eb])), (a4, .inr (4, [.int er.1, .ref a5, .int er.2.2.2])), (a5, .inl (cI, er.2.1, .inl er.2.2.1)), (a6, .inr (4, [.int li.1, .ref a7, .int li.2.2.2])), (a7, .inl (cI, li.2.1, .inl li.2.2.1)), (a8, .inr (4, [.int st.1, .ref a9, .int st.2.2.2])), (a9, .inl (cI, st.2.1, .inl st.2.2.1))]) ⟨hx, hb, hml, hown, hts⟩ (cX1_aboutAct_ok l G cI cG a0 a1 a2 a3 a4 a5 a6 a7 a8 a9 ft er eb li st rd tu la dl sh tb (0 : Int32) (2 : Int32) x3 ex3) (cwV 2 hts gX1_settleTop_X1_aboutAct_169 rfl rfl rfl hdX1_aboutAct ⟨Nat.le_of_ble_eq_true rfl, Nat.le_of_ble_eq_true rfl⟩) hP hD hS hA hK 1 rfl rfl rfl [0, 1, 2, 3, 4, 5, 6, 7, 8, 9] rfl rfl rfl rfl rfl rfl rfl rfl hl.1 (Nat.le_of_ble_eq_true rfl) dX1_settleTop_17 ⟨Nat.zero_le _, Nat.zero_le _⟩ (fun H locs hP hD hS => ?_)
  refine lv_istore_n (lv' := [(3, .int x3), (2, .int x2), (1, .int x1), (0, .ref a0)]) hx hb dX1_settleTop_20 rfl hl (by decide) rfl (fun ls hl => ?_)
  refine lv_aload_n hx hb dX1_settleTop_21 rfl (lv_at hl 3 rfl) ?_
  refine lv_iconst (v := 0) hx hb dX1_settleTop_22 (by decide) ?_
  refine lv_iconst (v := 3) hx hb dX1_settleTop_23 (by decide) ?_
  obtain ⟨x4, ex4, h⟩ := o_b h
  refine call_iV (As := [.int (0 : Int32), .int (3 : Int32)]) (rest := []) (ws2 := [(a0, .inr (1, [.ref a1, .ref a3, .ref a6, .ref a8, .int rd, .int tu, .int la, .int (bI dl), .int sh, .int tb])), (a1, .inr (4, [.int ft.1, .ref a2, .int ft.2.2.2])), (a2, .inl (cI, ft.2.1, .inl ft.2.2.1)), (a3, .inr (0, [.ref a4, .int eb])), (a4, .inr (4, [.int er.1, .ref a5, .int er.2.2.2])), (a5, .inl (cI, er.2.1, .inl er.2.2.1)), (a6, .inr (4, [.int li.1, .ref a7, .int li.2.2.2])), (a7, .inl (cI, li.2.1, .inl li.2.2.1)), (a8, .inr (4, [.int st.1, .ref a9, .int st.2.2.2])), (a9, .inl (cI, st.2.1, .inl st.2.2.1))]) ⟨hx, hb, hml, hown, hts⟩ (cX1_aboutAct_ok l G cI cG a0 a1 a2 a3 a4 a5 a6 a7 a8 a9 ft er eb li st rd tu la dl sh tb (0 : Int32) (3 : Int32) x4 ex4) (cwV 2 hts gX1_settleTop_X1_aboutAct_169 rfl rfl rfl hdX1_aboutAct ⟨Nat.le_of_ble_eq_true rfl, Nat.le_of_ble_eq_true rfl⟩) hP hD hS hA hK 1 rfl rfl rfl [0, 1, 2, 3, 4, 5, 6, 7, 8, 9] rfl rfl rfl rfl rfl rfl rfl rfl hl.1 (Nat.le_of_ble_eq_true rfl) dX1_settleTop_24 ⟨Nat.zero_le _, Nat.zero_le _⟩ (fun H locs hP hD hS => ?_)
  refine lv_istore (lv' := [(4, .int x4), (3, .int x3), (2, .int x2), (1, .int x1), (0, .ref a0)]) hx hb dX1_settleTop_27 hl (by decide) rfl (fun ls hl => ?_)
  refine lv_aload_n hx hb dX1_settleTop_29 rfl (lv_at hl 4 rfl) ?_
  refine lv_iconst (v := 0) hx hb dX1_settleTop_30 (by decide) ?_
  refine lv_iconst (v := 4) hx hb dX1_settleTop_31 (by decide) ?_
  obtain ⟨x5, ex5, h⟩ := o_b h
  refine call_iV (As := [.int (0 : Int32), .int (4 : Int32)]) (rest := []) (ws2 := [(a0, .inr (1, [.ref a1, .ref a3, .ref a6, .ref a8, .int rd, .int tu, .int la, .int (bI dl), .int sh, .int tb])), (a1, .inr (4, [.int ft.1, .ref a2, .int ft.2.2.2])), (a2, .inl (cI, ft.2.1, .inl ft.2.2.1)), (a3, .inr (0, [.ref a4, .int eb])), (a4, .inr (4, [.int er.1, .ref a5, .int er.2.2.2])), (a5, .inl (cI, er.2.1, .inl er.2.2.1)), (a6, .inr (4, [.int li.1, .ref a7, .int li.2.2.2])), (a7, .inl (cI, li.2.1, .inl li.2.2.1)), (a8, .inr (4, [.int st.1, .ref a9, .int st.2.2.2])), (a9, .inl (cI, st.2.1, .inl st.2.2.1))]) ⟨hx, hb, hml, hown, hts⟩ (cX1_aboutAct_ok l G cI cG a0 a1 a2 a3 a4 a5 a6 a7 a8 a9 ft er eb li st rd tu la dl sh tb (0 : Int32) (4 : Int32) x5 ex5) (cwV 2 hts gX1_settleTop_X1_aboutAct_169 rfl rfl rfl hdX1_aboutAct ⟨Nat.le_of_ble_eq_true rfl, Nat.le_of_ble_eq_true rfl⟩) hP hD hS hA hK 1 rfl rfl rfl [0, 1, 2, 3, 4, 5, 6, 7, 8, 9] rfl rfl rfl rfl rfl rfl rfl rfl hl.1 (Nat.le_of_ble_eq_true rfl) dX1_settleTop_32 ⟨Nat.zero_le _, Nat.zero_le _⟩ (fun H locs hP hD hS => ?_)
  refine lv_istore (lv' := [(5, .int x5), (4, .int x4), (3, .int x3), (2, .int x2), (1, .int x1), (0, .ref a0)]) hx hb dX1_settleTop_35 hl (by decide) rfl (fun ls hl => ?_)
  refine lv_aload_n hx hb dX1_settleTop_37 rfl (lv_at hl 5 rfl) ?_
  refine lv_iconst (v := 0) hx hb dX1_settleTop_38 (by decide) ?_
  refine lv_iconst (v := 5) hx hb dX1_settleTop_39 (by decide) ?_
  obtain ⟨x6, ex6, h⟩ := o_b h
  refine call_iV (As := [.int (0 : Int32), .int (5 : Int32)]) (rest := []) (ws2 := [(a0, .inr (1, [.ref a1, .ref a3, .ref a6, .ref a8, .int rd, .int tu, .int la, .int (bI dl), .int sh, .int tb])), (a1, .inr (4, [.int ft.1, .ref a2, .int ft.2.2.2])), (a2, .inl (cI, ft.2.1, .inl ft.2.2.1)), (a3, .inr (0, [.ref a4, .int eb])), (a4, .inr (4, [.int er.1, .ref a5, .int er.2.2.2])), (a5, .inl (cI, er.2.1, .inl er.2.2.1)), (a6, .inr (4, [.int li.1, .ref a7, .int li.2.2.2])), (a7, .inl (cI, li.2.1, .inl li.2.2.1)), (a8, .inr (4, [.int st.1, .ref a9, .int st.2.2.2])), (a9, .inl (cI, st.2.1, .inl st.2.2.1))]) ⟨hx, hb, hml, hown, hts⟩ (cX1_aboutAct_ok l G cI cG a0 a1 a2 a3 a4 a5 a6 a7 a8 a9 ft er eb li st rd tu la dl sh tb (0 : Int32) (5 : Int32) x6 ex6) (cwV 2 hts gX1_settleTop_X1_aboutAct_169 rfl rfl rfl hdX1_aboutAct ⟨Nat.le_of_ble_eq_true rfl, Nat.le_of_ble_eq_true rfl⟩) hP hD hS hA hK 1 rfl rfl rfl [0, 1, 2, 3, 4, 5, 6, 7, 8, 9] rfl rfl rfl rfl rfl rfl rfl rfl hl.1 (Nat.le_of_ble_eq_true rfl) dX1_settleTop_40 ⟨Nat.zero_le _, Nat.zero_le _⟩ (fun H locs hP hD hS => ?_)
  refine lv_istore (lv' := [(6, .int x6), (5, .int x5), (4, .int x4), (3, .int x3), (2, .int x2), (1, .int x1), (0, .ref a0)]) hx hb dX1_settleTop_43 hl (by decide) rfl (fun ls hl => ?_)
  refine lv_aload_n hx hb dX1_settleTop_45 rfl (lv_at hl 6 rfl) ?_
  refine lv_iconst (v := 0) hx hb dX1_settleTop_46 (by decide) ?_
  refine lv_bipush (v := 6) hx hb dX1_settleTop_47 (by decide) ?_
  obtain ⟨x7, ex7, h⟩ := o_b h
  refine call_iV (As := [.int (0 : Int32), .int (6 : Int32)]) (rest := []) (ws2 := [(a0, .inr (1, [.ref a1, .ref a3, .ref a6, .ref a8, .int rd, .int tu, .int la, .int (bI dl), .int sh, .int tb])), (a1, .inr (4, [.int ft.1, .ref a2, .int ft.2.2.2])), (a2, .inl (cI, ft.2.1, .inl ft.2.2.1)), (a3, .inr (0, [.ref a4, .int eb])), (a4, .inr (4, [.int er.1, .ref a5, .int er.2.2.2])), (a5, .inl (cI, er.2.1, .inl er.2.2.1)), (a6, .inr (4, [.int li.1, .ref a7, .int li.2.2.2])), (a7, .inl (cI, li.2.1, .inl li.2.2.1)), (a8, .inr (4, [.int st.1, .ref a9, .int st.2.2.2])), (a9, .inl (cI, st.2.1, .inl st.2.2.1))]) ⟨hx, hb, hml, hown, hts⟩ (cX1_aboutAct_ok l G cI cG a0 a1 a2 a3 a4 a5 a6 a7 a8 a9 ft er eb li st rd tu la dl sh tb (0 : Int32) (6 : Int32) x7 ex7) (cwV 2 hts gX1_settleTop_X1_aboutAct_169 rfl rfl rfl hdX1_aboutAct ⟨Nat.le_of_ble_eq_true rfl, Nat.le_of_ble_eq_true rfl⟩) hP hD hS hA hK 1 rfl rfl rfl [0, 1, 2, 3, 4, 5, 6, 7, 8, 9] rfl rfl rfl rfl rfl rfl rfl rfl hl.1 (Nat.le_of_ble_eq_true rfl) dX1_settleTop_49 ⟨Nat.zero_le _, Nat.zero_le _⟩ (fun H locs hP hD hS => ?_)
  refine lv_istore (lv' := [(7, .int x7), (6, .int x6), (5, .int x5), (4, .int x4), (3, .int x3), (2, .int x2), (1, .int x1), (0, .ref a0)]) hx hb dX1_settleTop_52 hl (by decide) rfl (fun ls hl => ?_)
  refine lv_aload_n hx hb dX1_settleTop_54 rfl (lv_at hl 7 rfl) ?_
  obtain ⟨x8, ex8, h⟩ := o_b h
  refine call_vV (As := []) (rest := []) (ws2 := [(a0, .inr (1, [.ref a1, .ref a3, .ref a6, .ref a8, .int rd, .int tu, .int la, .int (bI dl), .int sh, .int tb])), (a1, .inr (4, [.int ft.1, .ref a2, .int ft.2.2.2])), (a2, .inl (cI, ft.2.1, .inl ft.2.2.1)), (a3, .inr (0, [.ref a4, .int eb])), (a4, .inr (4, [.int er.1, .ref a5, .int er.2.2.2])), (a5, .inl (cI, er.2.1, .inl er.2.2.1)), (a6, .inr (4, [.int li.1, .ref a7, .int li.2.2.2])), (a7, .inl (cI, li.2.1, .inl li.2.2.1)), (a8, .inr (4, [.int x8.1, .ref a9, .int x8.2.2.2])), (a9, .inl (cI, x8.2.1, .inl x8.2.2.1))]) ⟨hx, hb, hml, hown, hts⟩ (cX1_dropTop_ok l G cI cG a0 a1 a2 a3 a4 a5 a6 a7 a8 a9 ft er eb li st rd tu la dl sh tb x8 ex8) (cwV 0 hts gX1_settleTop_X1_dropTop_178 rfl rfl rfl hdX1_dropTop ⟨Nat.le_of_ble_eq_true rfl, Nat.le_of_ble_eq_true rfl⟩) hP hD hS hA hK 1 rfl rfl rfl [0, 1, 2, 3, 4, 5, 6, 7, 8, 9] rfl rfl rfl rfl rfl rfl rfl rfl hl.1 (Nat.le_of_ble_eq_true rfl) dX1_settleTop_55 ⟨Nat.zero_le _, Nat.zero_le _⟩ (fun H locs hP hD hS => ?_)
  refine lv_aload_n hx hb dX1_settleTop_58 rfl (lv_at hl 7 rfl) ?_
  refine lv_iload_n hx hb dX1_settleTop_59 rfl (lv_at hl 5 rfl) ?_
  obtain ⟨x9, ex9, h⟩ := o_b h
  refine call_iV (As := [.int x2]) (rest := []) (ws2 := [(a0, .inr (1, [.ref a1, .ref a3, .ref a6, .ref a8, .int rd, .int tu, .int la, .int (bI dl), .int sh, .int tb])), (a1, .inr (4, [.int ft.1, .ref a2, .int ft.2.2.2])), (a2, .inl (cI, ft.2.1, .inl ft.2.2.1)), (a3, .inr (0, [.ref a4, .int eb])), (a4, .inr (4, [.int er.1, .ref a5, .int er.2.2.2])), (a5, .inl (cI, er.2.1, .inl er.2.2.1)), (a6, .inr (4, [.int li.1, .ref a7, .int li.2.2.2])), (a7, .inl (cI, li.2.1, .inl li.2.2.1)), (a8, .inr (4, [.int x8.1, .ref a9, .int x8.2.2.2])), (a9, .inl (cI, x8.2.1, .inl x8.2.2.1))]) ⟨hx, hb, hml, hown, hts⟩ (cX1_stands_ok l G cI cG a0 a1 a2 a3 a4 a5 a6 a7 a8 a9 ft er eb li x8 rd tu la dl sh tb x2 x9 ex9) (cwV 1 hts gX1_settleTop_X1_stands_104 rfl rfl rfl hdX1_stands ⟨Nat.le_of_ble_eq_true rfl, Nat.le_of_ble_eq_true rfl⟩) hP hD hS hA hK 1 rfl rfl rfl [0, 1, 2, 3, 4, 5, 6, 7, 8, 9] rfl rfl rfl rfl rfl rfl rfl rfl hl.1 (Nat.le_of_ble_eq_true rfl) dX1_settleTop_60 ⟨Nat.zero_le _, Nat.zero_le _⟩ (fun H locs hP hD hS => ?_)
  refine lv_if_eq (tgt := 79) hx hb dX1_settleTop_63 (by decide) (fun hc => ?_) (fun hc => ?_)
  · have h := o_t h hc
    refine lv_iconst (v := 0) hx hb dX1_settleTop_79 (by decide) ?_
    obtain rfl := o_s h
    rw [hQ]
    exact end_z hx hb hr rfl rfl hP hD hS dX1_settleTop_80 hlocks
  · have h := o_f h hc
    refine lv_iload_n hx hb dX1_settleTop_66 rfl (lv_at hl 6 rfl) ?_
    refine lv_iconst (v := 3) hx hb dX1_settleTop_67 (by decide) ?_
    refine lv_icmp_eq (tgt := 81) hx hb dX1_settleTop_68 (by decide) (fun hc => ?_) (fun hc => ?_)
    · have h := o_t h hc
      exact J81 x8 x1 x2 x3 x4 x5 x6 x7 _ _ _ h hP hD hS (lv_sub hl [7, 6, 5, 4, 3, 2, 1, 0] rfl)
    · have h := o_f h hc
      refine lv_aload_n hx hb dX1_settleTop_71 rfl (lv_at hl 7 rfl) ?_
      refine lv_iload_n hx hb dX1_settleTop_72 rfl (lv_at hl 4 rfl) ?_
      obtain ⟨x18, ex18, h⟩ := o_b h
      refine call_iV (As := [.int x3]) (rest := []) (ws2 := [(a0, .inr (1, [.ref a1, .ref a3, .ref a6, .ref a8, .int rd, .int tu, .int la, .int (bI dl), .int sh, .int tb])), (a1, .inr (4, [.int ft.1, .ref a2, .int ft.2.2.2])), (a2, .inl (cI, ft.2.1, .inl ft.2.2.1)), (a3, .inr (0, [.ref a4, .int eb])), (a4, .inr (4, [.int er.1, .ref a5, .int er.2.2.2])), (a5, .inl (cI, er.2.1, .inl er.2.2.1)), (a6, .inr (4, [.int li.1, .ref a7, .int li.2.2.2])), (a7, .inl (cI, li.2.1, .inl li.2.2.1)), (a8, .inr (4, [.int x8.1, .ref a9, .int x8.2.2.2])), (a9, .inl (cI, x8.2.1, .inl x8.2.2.1))]) ⟨hx, hb, hml, hown, hts⟩ (cX1_stands_ok l G cI cG a0 a1 a2 a3 a4 a5 a6 a7 a8 a9 ft er eb li x8 rd tu la dl sh tb x3 x18 ex18) (cwV 1 hts gX1_settleTop_X1_stands_104 rfl rfl rfl hdX1_stands ⟨Nat.le_of_ble_eq_true rfl, Nat.le_of_ble_eq_true rfl⟩) hP hD hS hA hK 1 rfl rfl rfl [0, 1, 2, 3, 4, 5, 6, 7, 8, 9] rfl rfl rfl rfl rfl rfl rfl rfl hl.1 (Nat.le_of_ble_eq_true rfl) dX1_settleTop_73 ⟨Nat.zero_le _, Nat.zero_le _⟩ (fun H locs hP hD hS => ?_)
      refine lv_if_ne (tgt := 81) hx hb dX1_settleTop_76 (by decide) (fun hc => ?_) (fun hc => ?_)
      · have h := o_f h hc
        exact J81 x8 x1 x2 x3 x4 x5 x6 x7 _ _ _ h hP hD hS (lv_sub hl [7, 6, 5, 4, 3, 2, 1, 0] rfl)
      · have h := o_t h hc
        refine lv_iconst (v := 0) hx hb dX1_settleTop_79 (by decide) ?_
        obtain rfl := o_s h
        rw [hQ]
        exact end_z hx hb hr rfl rfl hP hD hS dX1_settleTop_80 hlocks
theorem hdX1_settleStack : yX1_settleStack.cls = RX1 ∧ yX1_settleStack.cls ≠ "java/lang/invoke/MethodHandle" ∧ yX1_settleStack.cls ≠ "java/lang/invoke/VarHandle" ∧ (parseMethodDescriptor yX1_settleStack.desc).map (fun d => d.parameters.length) = some 0 := by decide +kernel
set_option maxHeartbeats 4000000 in
set_option maxRecDepth 100000 in
theorem cX1_settleStack_ok (l : Launch) (G : va_G) (cI cG : ClassId) (a0 a1 a2 a3 a4 a5 a6 a7 a8 a9 : Nat) (fu : Nat) (ft : Tab) (er : Tab) (eb : Int32) (li : Tab) (st : Tab) (rd : Int32) (tu : Int32) (la : Int32) (dl : Bool) (sh : Int32) (tb : Int32) (out : Int32 × Tab × Tab × Int32 × Tab × Int32) (hf : fX1_settleStack fu ft er eb st tu sh = some out) : CI l G (tyz cI cG) yX1_settleStack wsX1_settleStack ({ frames := 5, cells := 0, slots := 0, locals := 159 } : Room) [.ref a0] [(a0, .inr (1, [.ref a1, .ref a3, .ref a6, .ref a8, .int rd, .int tu, .int la, .int (bI dl), .int sh, .int tb])), (a1, .inr (4, [.int ft.1, .ref a2, .int ft.2.2.2])), (a2, .inl (cI, ft.2.1, .inl ft.2.2.1)), (a3, .inr (0, [.ref a4, .int eb])), (a4, .inr (4, [.int er.1, .ref a5, .int er.2.2.2])), (a5, .inl (cI, er.2.1, .inl er.2.2.1)), (a6, .inr (4, [.int li.1, .ref a7, .int li.2.2.2])), (a7, .inl (cI, li.2.1, .inl li.2.2.1)), (a8, .inr (4, [.int st.1, .ref a9, .int st.2.2.2])), (a9, .inl (cI, st.2.1, .inl st.2.2.1))] out.1 [(a0, .inr (1, [.ref a1, .ref a3, .ref a6, .ref a8, .int rd, .int out.2.2.2.2.2, .int la, .int (bI dl), .int sh, .int tb])), (a1, .inr (4, [.int out.2.1.1, .ref a2, .int out.2.1.2.2.2])), (a2, .inl (cI, out.2.1.2.1, .inl out.2.1.2.2.1)), (a3, .inr (0, [.ref a4, .int out.2.2.2.1])), (a4, .inr (4, [.int out.2.2.1.1, .ref a5, .int out.2.2.1.2.2.2])), (a5, .inl (cI, out.2.2.1.2.1, .inl out.2.2.1.2.2.1)), (a6, .inr (4, [.int li.1, .ref a7, .int li.2.2.2])), (a7, .inl (cI, li.2.1, .inl li.2.2.1)), (a8, .inr (4, [.int out.2.2.2.2.1.1, .ref a9, .int out.2.2.2.2.1.2.2.2])), (a9, .inl (cI, out.2.2.2.2.1.2.1, .inl out.2.2.2.2.1.2.2.1))] := by
  intro sz
  refine Met.ofW (cc := cX1_settleStack) (maxL := 3) (ret := (some .int)) (by decide) rfl ?_
  intro p e s m args below meth c s₁ B hml hv
  obtain ⟨rfl, hsz, hP, hK, hD0⟩ := hv
  have hx := B.exec
  have hb := B.bytes
  have hr := B.returns
  have hts := atoms_spec (ws := wsX1_settleStack) B.pre
  have hown : s.vm.findClass RX1 = some m.cls := findClass_of_methodNamed B.named
  have hlocks := B.notSynchronized
  subst hsz
  have hD := hD0.self (sz := s.heap.size)
  generalize hAe : va_A ([(a0, .inr (1, [.ref a1, .ref a3, .ref a6, .ref a8, .int rd, .int tu, .int la, .int (bI dl), .int sh, .int tb])), (a1, .inr (4, [.int ft.1, .ref a2, .int ft.2.2.2])), (a2, .inl (cI, ft.2.1, .inl ft.2.2.1)), (a3, .inr (0, [.ref a4, .int eb])), (a4, .inr (4, [.int er.1, .ref a5, .int er.2.2.2])), (a5, .inl (cI, er.2.1, .inl er.2.2.1)), (a6, .inr (4, [.int li.1, .ref a7, .int li.2.2.2])), (a7, .inl (cI, li.2.1, .inl li.2.2.1)), (a8, .inr (4, [.int st.1, .ref a9, .int st.2.2.2])), (a9, .inl (cI, st.2.1, .inl st.2.2.1))]) s.heap.size = A at hD ⊢
  have hA : ∀ q : Nat, s.heap.size ≤ q → A q := fun q h => by rw [← hAe]; exact Or.inr h
  have hS : va_S A s.heap s.heap [] := va_S.rf
  have hw0 := hts (.fieldLink RX1 37 "SpeedTurns$Game" "turn" "I") (List.mem_of_getElem? (i := 1) rfl)
  have hw1 := hts (.fieldLink RX1 30 "SpeedTurns$Game" "stack" "LSpeedTurns$Table;") (List.mem_of_getElem? (i := 6) rfl)
  show W p l e ({ frames := 5, cells := 0, slots := 0, locals := 159 } : Room) s m _ below meth c s.heap [] 0 0 _ _
  refine W_genQ (fun Q hQ => ?_)
  have J36 : ∀ (ft : Tab) (er : Tab) (eb : Int32) (st : Tab) (v1 : Int32) (H : Heap) (locs : List Loc) (ls : Array Slot), fX1_settleStack_J36 fu tu sh ft er eb st v1 = some out → va_P G vwCl ([(a0, .inr (1, [.ref a1, .ref a3, .ref a6, .ref a8, .int rd, .int tu, .int la, .int (bI dl), .int sh, .int tb])), (a1, .inr (4, [.int ft.1, .ref a2, .int ft.2.2.2])), (a2, .inl (cI, ft.2.1, .inl ft.2.2.1)), (a3, .inr (0, [.ref a4, .int eb])), (a4, .inr (4, [.int er.1, .ref a5, .int er.2.2.2])), (a5, .inl (cI, er.2.1, .inl er.2.2.1)), (a6, .inr (4, [.int li.1, .ref a7, .int li.2.2.2])), (a7, .inl (cI, li.2.1, .inl li.2.2.1)), (a8, .inr (4, [.int st.1, .ref a9, .int st.2.2.2])), (a9, .inl (cI, st.2.1, .inl st.2.2.1))]) H → va_D A ([(a0, .inr (1, [.ref a1, .ref a3, .ref a6, .ref a8, .int rd, .int tu, .int la, .int (bI dl), .int sh, .int tb])), (a1, .inr (4, [.int ft.1, .ref a2, .int ft.2.2.2])), (a2, .inl (cI, ft.2.1, .inl ft.2.2.1)), (a3, .inr (0, [.ref a4, .int eb])), (a4, .inr (4, [.int er.1, .ref a5, .int er.2.2.2])), (a5, .inl (cI, er.2.1, .inl er.2.2.1)), (a6, .inr (4, [.int li.1, .ref a7, .int li.2.2.2])), (a7, .inl (cI, li.2.1, .inl li.2.2.1)), (a8, .inr (4, [.int st.1, .ref a9, .int st.2.2.2])), (a9, .inl (cI, st.2.1, .inl st.2.2.1))]) → va_S A s.heap H locs → lv_has ls 3 [(0, .ref a0), (1, .int v1)] → W p l e ({ frames := 5, cells := 0, slots := 0, locals := 159 } : Room) s m ([.ref a0] : List Value).toArray below meth c H locs 0 0 Q (F0 m 36 ls []) := by
    intro ft er eb st v1 H locs ls h hP hD hS hl
    rw [fX1_settleStack_J36] at h
    refine lv_aload_n hx hb dX1_settleStack_36 rfl (lv_at hl 0 rfl) ?_
    refine va_get (D := G) (ci := 1) (v := .int tu) (C := RX1) (T := TX1) (N := 10) hx hb hts huX1_settleStack_X1 hown hK.1 hP 0 rfl rfl 5 (by decide) hw0 (fun _ h9 => h9) rfl dX1_settleStack_37 ?_
    refine lv_iconst (v := (-1)) hx hb dX1_settleStack_40 (by decide) ?_
    refine lv_icmp_eq (tgt := 60) hx hb dX1_settleStack_41 (by decide) (fun hc => ?_) (fun hc => ?_)
    · have h := o_t h hc
      refine lv_iload_n hx hb dX1_settleStack_60 rfl (lv_at hl 1 rfl) ?_
      obtain rfl := o_s h
      rw [hQ]
      exact end_i hx hb hr rfl hP hD hS dX1_settleStack_61 hlocks
    · have h := o_f h hc
      refine lv_aload_n hx hb dX1_settleStack_44 rfl (lv_at hl 0 rfl) ?_
      refine lv_aload_n hx hb dX1_settleStack_45 rfl (lv_at hl 0 rfl) ?_
      refine va_get (D := G) (ci := 1) (v := .int tu) (C := RX1) (T := TX1) (N := 10) hx hb hts huX1_settleStack_X1 hown hK.1 hP 0 rfl rfl 5 (by decide) hw0 (fun _ h9 => h9) rfl dX1_settleStack_46 ?_
      obtain ⟨x1, ex1, h⟩ := o_b h
      refine call_iV (As := [.int tu]) (rest := []) (ws2 := [(a0, .inr (1, [.ref a1, .ref a3, .ref a6, .ref a8, .int rd, .int tu, .int la, .int (bI dl), .int sh, .int tb])), (a1, .inr (4, [.int ft.1, .ref a2, .int ft.2.2.2])), (a2, .inl (cI, ft.2.1, .inl ft.2.2.1)), (a3, .inr (0, [.ref a4, .int eb])), (a4, .inr (4, [.int er.1, .ref a5, .int er.2.2.2])), (a5, .inl (cI, er.2.1, .inl er.2.2.1)), (a6, .inr (4, [.int li.1, .ref a7, .int li.2.2.2])), (a7, .inl (cI, li.2.1, .inl li.2.2.1)), (a8, .inr (4, [.int st.1, .ref a9, .int st.2.2.2])), (a9, .inl (cI, st.2.1, .inl st.2.2.1))]) ⟨hx, hb, hml, hown, hts⟩ (cX1_stands_ok l G cI cG a0 a1 a2 a3 a4 a5 a6 a7 a8 a9 ft er eb li st rd tu la dl sh tb tu x1 ex1) (cwV 1 hts gX1_settleStack_X1_stands_104 rfl rfl rfl hdX1_stands ⟨Nat.le_of_ble_eq_true rfl, Nat.le_of_ble_eq_true rfl⟩) hP hD hS hA hK 1 rfl rfl rfl [0, 1, 2, 3, 4, 5, 6, 7, 8, 9] rfl rfl rfl rfl rfl rfl rfl rfl hl.1 (Nat.le_of_ble_eq_true rfl) dX1_settleStack_49 ⟨Nat.zero_le _, Nat.zero_le _⟩ (fun H locs hP hD hS => ?_)
      refine lv_if_ne (tgt := 60) hx hb dX1_settleStack_52 (by decide) (fun hc => ?_) (fun hc => ?_)
      · have h := o_f h hc
        refine lv_iload_n hx hb dX1_settleStack_60 rfl (lv_at hl 1 rfl) ?_
        obtain rfl := o_s h
        rw [hQ]
        exact end_i hx hb hr rfl hP hD hS dX1_settleStack_61 hlocks
      · have h := o_t h hc
        refine lv_aload_n hx hb dX1_settleStack_55 rfl (lv_at hl 0 rfl) ?_
        refine lv_iconst (v := (-1)) hx hb dX1_settleStack_56 (by decide) ?_
        refine va_put (D := G) (ci := 1) (v := .int (-1 : Int32)) (ty := .int) (C := RX1) (T := TX1) (N := 10) hx hb hts huX1_settleStack_X1 tyX1 tyX1_ok nmX1 hown hK.1 hP hD hS 0 rfl rfl 5 (by decide) hw0 (fun _ h9 => h9) rfl (by decide +kernel) rfl rfl (Nat.le_of_ble_eq_true rfl) dX1_settleStack_57 (fun H locs hP hD hS => ?_)
        have hP : va_P G vwCl ([(a0, .inr (1, [.ref a1, .ref a3, .ref a6, .ref a8, .int rd, .int (-1 : Int32), .int la, .int (bI dl), .int sh, .int tb])), (a1, .inr (4, [.int ft.1, .ref a2, .int ft.2.2.2])), (a2, .inl (cI, ft.2.1, .inl ft.2.2.1)), (a3, .inr (0, [.ref a4, .int eb])), (a4, .inr (4, [.int er.1, .ref a5, .int er.2.2.2])), (a5, .inl (cI, er.2.1, .inl er.2.2.1)), (a6, .inr (4, [.int li.1, .ref a7, .int li.2.2.2])), (a7, .inl (cI, li.2.1, .inl li.2.2.1)), (a8, .inr (4, [.int st.1, .ref a9, .int st.2.2.2])), (a9, .inl (cI, st.2.1, .inl st.2.2.1))]) H := hP
        have hD : va_D A ([(a0, .inr (1, [.ref a1, .ref a3, .ref a6, .ref a8, .int rd, .int (-1 : Int32), .int la, .int (bI dl), .int sh, .int tb])), (a1, .inr (4, [.int ft.1, .ref a2, .int ft.2.2.2])), (a2, .inl (cI, ft.2.1, .inl ft.2.2.1)), (a3, .inr (0, [.ref a4, .int eb])), (a4, .inr (4, [.int er.1, .ref a5, .int er.2.2.2])), (a5, .inl (cI, er.2.1, .inl er.2.2.1)), (a6, .inr (4, [.int li.1, .ref a7, .int li.2.2.2])), (a7, .inl (cI, li.2.1, .inl li.2.2.1)), (a8, .inr (4, [.int st.1, .ref a9, .int st.2.2.2])), (a9, .inl (cI, st.2.1, .inl st.2.2.1))]) := hD
        refine lv_iload_n hx hb dX1_settleStack_60 rfl (lv_at hl 1 rfl) ?_
        obtain rfl := o_s h
        rw [hQ]
        exact end_i hx hb hr rfl hP hD hS dX1_settleStack_61 hlocks
  have L4 : ∀  (k : Nat) (ft : Tab) (er : Tab) (eb : Int32) (st : Tab) (v1 : Int32) (v2 : Int32) (H : Heap) (locs : List Loc) (ls : Array Slot), fX1_settleStack_L4 fu tu sh k ft er eb st v1 v2 = some out → va_P G vwCl ([(a0, .inr (1, [.ref a1, .ref a3, .ref a6, .ref a8, .int rd, .int tu, .int la, .int (bI dl), .int sh, .int tb])), (a1, .inr (4, [.int ft.1, .ref a2, .int ft.2.2.2])), (a2, .inl (cI, ft.2.1, .inl ft.2.2.1)), (a3, .inr (0, [.ref a4, .int eb])), (a4, .inr (4, [.int er.1, .ref a5, .int er.2.2.2])), (a5, .inl (cI, er.2.1, .inl er.2.2.1)), (a6, .inr (4, [.int li.1, .ref a7, .int li.2.2.2])), (a7, .inl (cI, li.2.1, .inl li.2.2.1)), (a8, .inr (4, [.int st.1, .ref a9, .int st.2.2.2])), (a9, .inl (cI, st.2.1, .inl st.2.2.1))]) H → va_D A ([(a0, .inr (1, [.ref a1, .ref a3, .ref a6, .ref a8, .int rd, .int tu, .int la, .int (bI dl), .int sh, .int tb])), (a1, .inr (4, [.int ft.1, .ref a2, .int ft.2.2.2])), (a2, .inl (cI, ft.2.1, .inl ft.2.2.1)), (a3, .inr (0, [.ref a4, .int eb])), (a4, .inr (4, [.int er.1, .ref a5, .int er.2.2.2])), (a5, .inl (cI, er.2.1, .inl er.2.2.1)), (a6, .inr (4, [.int li.1, .ref a7, .int li.2.2.2])), (a7, .inl (cI, li.2.1, .inl li.2.2.1)), (a8, .inr (4, [.int st.1, .ref a9, .int st.2.2.2])), (a9, .inl (cI, st.2.1, .inl st.2.2.1))]) → va_S A s.heap H locs → lv_has ls 3 [(0, .ref a0), (1, .int v1), (2, .int v2)] → W p l e ({ frames := 5, cells := 0, slots := 0, locals := 159 } : Room) s m ([.ref a0] : List Value).toArray below meth c H locs 0 0 Q (F0 m 4 ls []) := by
    intro  k
    induction k with
    | zero => intro ft er eb st v1 v2 H locs ls h hP hD hS hl; rw [fX1_settleStack_L4] at h; exact o_n h
    | succ k ih =>
      intro ft er eb st v1 v2 H locs ls h hP hD hS hl
      rw [fX1_settleStack_L4] at h
      refine lv_iload_n hx hb dX1_settleStack_4 rfl (lv_at hl 2 rfl) ?_
      refine lv_bipush (v := 8) hx hb dX1_settleStack_5 (by decide) ?_
      refine lv_icmp_ge (tgt := 36) hx hb dX1_settleStack_7 (by decide) (fun hc => ?_) (fun hc => ?_)
      · have h := o_t h hc
        exact J36 ft er eb st v1 _ _ _ h hP hD hS (lv_sub hl [0, 1] rfl)
      · have h := o_f h hc
        refine lv_aload_n hx hb dX1_settleStack_10 rfl (lv_at hl 0 rfl) ?_
        refine va_get (D := G) (ci := 1) (v := .ref a8) (C := RX1) (T := TX1) (N := 10) hx hb hts huX1_settleStack_X1 hown hK.1 hP 0 rfl rfl 3 (by decide) hw1 (fun _ h9 => h9) rfl dX1_settleStack_11 ?_
        obtain ⟨x2, ex2, h⟩ := o_b h
        refine call_iV (As := []) (rest := []) (ws2 := [(a0, .inr (1, [.ref a1, .ref a3, .ref a6, .ref a8, .int rd, .int tu, .int la, .int (bI dl), .int sh, .int tb])), (a1, .inr (4, [.int ft.1, .ref a2, .int ft.2.2.2])), (a2, .inl (cI, ft.2.1, .inl ft.2.2.1)), (a3, .inr (0, [.ref a4, .int eb])), (a4, .inr (4, [.int er.1, .ref a5, .int er.2.2.2])), (a5, .inl (cI, er.2.1, .inl er.2.2.1)), (a6, .inr (4, [.int li.1, .ref a7, .int li.2.2.2])), (a7, .inl (cI, li.2.1, .inl li.2.2.1)), (a8, .inr (4, [.int st.1, .ref a9, .int st.2.2.2])), (a9, .inl (cI, st.2.1, .inl st.2.2.1))]) ⟨hx, hb, hml, hown, hts⟩ (cX4_count_ok l G cI cG a8 a9 st x2 ex2) (cwV 0 hts gX1_settleStack_X4_count_60 rfl rfl rfl hdX4_count ⟨Nat.le_of_ble_eq_true rfl, Nat.le_of_ble_eq_true rfl⟩) hP hD hS hA hK 4 rfl rfl rfl [8, 9] rfl rfl rfl rfl rfl rfl rfl rfl hl.1 (Nat.le_of_ble_eq_true rfl) dX1_settleStack_14 ⟨Nat.zero_le _, Nat.zero_le _⟩ (fun H locs hP hD hS => ?_)
        refine lv_if_le (tgt := 36) hx hb dX1_settleStack_17 (by decide) (fun hc => ?_) (fun hc => ?_)
        · have h := o_t h hc
          exact J36 ft er eb st v1 _ _ _ h hP hD hS (lv_sub hl [0, 1] rfl)
        · have h := o_f h hc
          refine lv_aload_n hx hb dX1_settleStack_20 rfl (lv_at hl 0 rfl) ?_
          obtain ⟨x3, ex3, h⟩ := o_b h
          refine call_iV (As := []) (rest := []) (ws2 := [(a0, .inr (1, [.ref a1, .ref a3, .ref a6, .ref a8, .int rd, .int tu, .int la, .int (bI dl), .int sh, .int tb])), (a1, .inr (4, [.int x3.2.1.1, .ref a2, .int x3.2.1.2.2.2])), (a2, .inl (cI, x3.2.1.2.1, .inl x3.2.1.2.2.1)), (a3, .inr (0, [.ref a4, .int x3.2.2.2.1])), (a4, .inr (4, [.int x3.2.2.1.1, .ref a5, .int x3.2.2.1.2.2.2])), (a5, .inl (cI, x3.2.2.1.2.1, .inl x3.2.2.1.2.2.1)), (a6, .inr (4, [.int li.1, .ref a7, .int li.2.2.2])), (a7, .inl (cI, li.2.1, .inl li.2.2.1)), (a8, .inr (4, [.int x3.2.2.2.2.1, .ref a9, .int x3.2.2.2.2.2.2.2])), (a9, .inl (cI, x3.2.2.2.2.2.1, .inl x3.2.2.2.2.2.2.1))]) ⟨hx, hb, hml, hown, hts⟩ (cX1_settleTop_ok l G cI cG a0 a1 a2 a3 a4 a5 a6 a7 a8 a9 fu ft er eb li st rd tu la dl sh tb x3 ex3) (cwV 0 hts gX1_settleStack_X1_settleTop_175 rfl rfl rfl hdX1_settleTop ⟨Nat.le_of_ble_eq_true rfl, Nat.le_of_ble_eq_true rfl⟩) hP hD hS hA hK 1 rfl rfl rfl [0, 1, 2, 3, 4, 5, 6, 7, 8, 9] rfl rfl rfl rfl rfl rfl rfl rfl hl.1 (Nat.le_of_ble_eq_true rfl) dX1_settleStack_21 ⟨Nat.zero_le _, Nat.zero_le _⟩ (fun H locs hP hD hS => ?_)
          refine lv_if_eq (tgt := 30) hx hb dX1_settleStack_24 (by decide) (fun hc => ?_) (fun hc => ?_)
          · have h := o_t h hc
            refine lv_iinc (v := (v2 + 1)) (lv' := [(2, .int (v2 + 1)), (0, .ref a0), (1, .int v1)]) hx hb dX1_settleStack_30 hl (k := 2) rfl rfl (by decide) rfl (fun ls hl => ?_)
            refine lv_goto (tgt := 4) hx hb dX1_settleStack_33 (by decide) ?_
            exact ih x3.2.1 x3.2.2.1 x3.2.2.2.1 x3.2.2.2.2 v1 (v2 + 1) _ _ _ h hP hD hS (lv_sub hl [1, 2, 0] rfl)
          · have h := o_f h hc
            refine lv_iinc (v := (v1 + 1)) (lv' := [(1, .int (v1 + 1)), (0, .ref a0), (2, .int v2)]) hx hb dX1_settleStack_27 hl (k := 1) rfl rfl (by decide) rfl (fun ls hl => ?_)
            refine lv_iinc (v := (v2 + 1)) (lv' := [(2, .int (v2 + 1)), (1, .int (v1 + 1)), (0, .ref a0)]) hx hb dX1_settleStack_30 hl (k := 2) rfl rfl (by decide) rfl (fun ls hl => ?_)
            refine lv_goto (tgt := 4) hx hb dX1_settleStack_33 (by decide) ?_
            exact ih x3.2.1 x3.2.2.1 x3.2.2.2.1 x3.2.2.2.2 (v1 + 1) (v2 + 1) _ _ _ h hP hD hS (lv_sub hl [2, 1, 0] rfl)
  have h := hf
  rw [fX1_settleStack] at h
  have hl := lv_entry ([.ref a0]) (n := 3) (Nat.le_of_ble_eq_true rfl)
  rw [lg_entry_eq]
  generalize (lg_sl ([.ref a0]) ++ List.replicate (3 - (lg_sl ([.ref a0])).length) Slot.unset).toArray = ls at hl ⊢
  have hl : lv_has ls 3 [(0, .ref a0)] := hl
  refine lv_iconst (v := 0) hx hb dX1_settleStack_0 (by decide) ?_
  refine lv_istore_n (lv' := [(1, .int (0 : Int32)), (0, .ref a0)]) hx hb dX1_settleStack_1 rfl hl (by decide) rfl (fun ls hl => ?_)
  refine lv_iconst (v := 0) hx hb dX1_settleStack_2 (by decide) ?_
  refine lv_istore_n (lv' := [(2, .int (0 : Int32)), (1, .int (0 : Int32)), (0, .ref a0)]) hx hb dX1_settleStack_3 rfl hl (by decide) rfl (fun ls hl => ?_)
  exact L4 fu ft er eb st (0 : Int32) (0 : Int32) _ _ _ h hP hD hS (lv_sub hl [2, 1, 0] rfl)
theorem hdX1_abandonTurn : yX1_abandonTurn.cls = RX1 ∧ yX1_abandonTurn.cls ≠ "java/lang/invoke/MethodHandle" ∧ yX1_abandonTurn.cls ≠ "java/lang/invoke/VarHandle" ∧ (parseMethodDescriptor yX1_abandonTurn.desc).map (fun d => d.parameters.length) = some 0 := by decide +kernel
set_option maxHeartbeats 4000000 in
set_option maxRecDepth 100000 in
theorem cX1_abandonTurn_ok (l : Launch) (G : va_G) (cI cG : ClassId) (a0 a1 a2 a3 a4 a5 a6 a7 a8 a9 : Nat) (fu : Nat) (ft : Tab) (er : Tab) (eb : Int32) (li : Tab) (st : Tab) (rd : Int32) (tu : Int32) (la : Int32) (dl : Bool) (sh : Int32) (tb : Int32) (out : Tab × Tab × Int32) (hf : fX1_abandonTurn fu er st tu = some out) : CV l G (tyz cI cG) yX1_abandonTurn wsX1_abandonTurn ({ frames := 4, cells := 0, slots := 0, locals := 129 } : Room) [.ref a0] [(a0, .inr (1, [.ref a1, .ref a3, .ref a6, .ref a8, .int rd, .int tu, .int la, .int (bI dl), .int sh, .int tb])), (a1, .inr (4, [.int ft.1, .ref a2, .int ft.2.2.2])), (a2, .inl (cI, ft.2.1, .inl ft.2.2.1)), (a3, .inr (0, [.ref a4, .int eb])), (a4, .inr (4, [.int er.1, .ref a5, .int er.2.2.2])), (a5, .inl (cI, er.2.1, .inl er.2.2.1)), (a6, .inr (4, [.int li.1, .ref a7, .int li.2.2.2])), (a7, .inl (cI, li.2.1, .inl li.2.2.1)), (a8, .inr (4, [.int st.1, .ref a9, .int st.2.2.2])), (a9, .inl (cI, st.2.1, .inl st.2.2.1))] [(a0, .inr (1, [.ref a1, .ref a3, .ref a6, .ref a8, .int rd, .int out.2.2, .int la, .int (bI dl), .int sh, .int tb])), (a1, .inr (4, [.int ft.1, .ref a2, .int ft.2.2.2])), (a2, .inl (cI, ft.2.1, .inl ft.2.2.1)), (a3, .inr (0, [.ref a4, .int eb])), (a4, .inr (4, [.int out.1.1, .ref a5, .int out.1.2.2.2])), (a5, .inl (cI, out.1.2.1, .inl out.1.2.2.1)), (a6, .inr (4, [.int li.1, .ref a7, .int li.2.2.2])), (a7, .inl (cI, li.2.1, .inl li.2.2.1)), (a8, .inr (4, [.int out.2.1.1, .ref a9, .int out.2.1.2.2.2])), (a9, .inl (cI, out.2.1.2.1, .inl out.2.1.2.2.1))] := by
  intro sz
  refine Met.ofW (cc := cX1_abandonTurn) (maxL := 1) (ret := none) (by decide) rfl ?_
  intro p e s m args below meth c s₁ B hml hv
  obtain ⟨rfl, hsz, hP, hK, hD0⟩ := hv
  have hx := B.exec
  have hb := B.bytes
  have hr := B.returns
  have hts := atoms_spec (ws := wsX1_abandonTurn) B.pre
  have hown : s.vm.findClass RX1 = some m.cls := findClass_of_methodNamed B.named
  have hlocks := B.notSynchronized
  subst hsz
  have hD := hD0.self (sz := s.heap.size)
  generalize hAe : va_A ([(a0, .inr (1, [.ref a1, .ref a3, .ref a6, .ref a8, .int rd, .int tu, .int la, .int (bI dl), .int sh, .int tb])), (a1, .inr (4, [.int ft.1, .ref a2, .int ft.2.2.2])), (a2, .inl (cI, ft.2.1, .inl ft.2.2.1)), (a3, .inr (0, [.ref a4, .int eb])), (a4, .inr (4, [.int er.1, .ref a5, .int er.2.2.2])), (a5, .inl (cI, er.2.1, .inl er.2.2.1)), (a6, .inr (4, [.int li.1, .ref a7, .int li.2.2.2])), (a7, .inl (cI, li.2.1, .inl li.2.2.1)), (a8, .inr (4, [.int st.1, .ref a9, .int st.2.2.2])), (a9, .inl (cI, st.2.1, .inl st.2.2.1))]) s.heap.size = A at hD ⊢
  have hA : ∀ q : Nat, s.heap.size ≤ q → A q := fun q h => by rw [← hAe]; exact Or.inr h
  have hS : va_S A s.heap s.heap [] := va_S.rf
  have hw0 := hts (.fieldLink RX1 30 "SpeedTurns$Game" "stack" "LSpeedTurns$Table;") (List.mem_of_getElem? (i := 1) rfl)
  have hw1 := hts (.fieldLink RX1 37 "SpeedTurns$Game" "turn" "I") (List.mem_of_getElem? (i := 6) rfl)
  show W p l e ({ frames := 4, cells := 0, slots := 0, locals := 129 } : Room) s m _ below meth c s.heap [] 0 0 _ _
  refine W_genQ (fun Q hQ => ?_)
  have h := hf
  rw [fX1_abandonTurn] at h
  have hl := lv_entry ([.ref a0]) (n := 1) (Nat.le_of_ble_eq_true rfl)
  rw [lg_entry_eq]
  generalize (lg_sl ([.ref a0]) ++ List.replicate (1 - (lg_sl ([.ref a0])).length) Slot.unset).toArray = ls at hl ⊢
  have hl : lv_has ls 1 [(0, .ref a0)] := hl
  refine lv_aload_n hx hb dX1_abandonTurn_0 rfl (lv_at hl 0 rfl) ?_
  refine va_get (D := G) (ci := 1) (v := .ref a8) (C := RX1) (T := TX1) (N := 10) hx hb hts huX1_abandonTurn_X1 hown hK.1 hP 0 rfl rfl 3 (by decide) hw0 (fun _ h9 => h9) rfl dX1_abandonTurn_1 ?_
  obtain ⟨x1, ex1, h⟩ := o_b h
  refine call_vV (As := []) (rest := []) (ws2 := [(a0, .inr (1, [.ref a1, .ref a3, .ref a6, .ref a8, .int rd, .int tu, .int la, .int (bI dl), .int sh, .int tb])), (a1, .inr (4, [.int ft.1, .ref a2, .int ft.2.2.2])), (a2, .inl (cI, ft.2.1, .inl ft.2.2.1)), (a3, .inr (0, [.ref a4, .int eb])), (a4, .inr (4, [.int er.1, .ref a5, .int er.2.2.2])), (a5, .inl (cI, er.2.1, .inl er.2.2.1)), (a6, .inr (4, [.int li.1, .ref a7, .int li.2.2.2])), (a7, .inl (cI, li.2.1, .inl li.2.2.1)), (a8, .inr (4, [.int x1.1, .ref a9, .int x1.2.2.2])), (a9, .inl (cI, x1.2.1, .inl x1.2.2.1))]) ⟨hx, hb, hml, hown, hts⟩ (cX4_clear_ok l G cI cG a8 a9 st x1 ex1) (cwV 0 hts gX1_abandonTurn_X4_clear_138 rfl rfl rfl hdX4_clear ⟨Nat.le_of_ble_eq_true rfl, Nat.le_of_ble_eq_true rfl⟩) hP hD hS hA hK 4 rfl rfl rfl [8, 9] rfl rfl rfl rfl rfl rfl rfl rfl hl.1 (Nat.le_of_ble_eq_true rfl) dX1_abandonTurn_4 ⟨Nat.zero_le _, Nat.zero_le _⟩ (fun H locs hP hD hS => ?_)
  refine lv_aload_n hx hb dX1_abandonTurn_7 rfl (lv_at hl 0 rfl) ?_
  refine va_get (D := G) (ci := 1) (v := .int tu) (C := RX1) (T := TX1) (N := 10) hx hb hts huX1_abandonTurn_X1 hown hK.1 hP 0 rfl rfl 5 (by decide) hw1 (fun _ h9 => h9) rfl dX1_abandonTurn_8 ?_
  refine lv_iconst (v := (-1)) hx hb dX1_abandonTurn_11 (by decide) ?_
  refine lv_icmp_eq (tgt := 20) hx hb dX1_abandonTurn_12 (by decide) (fun hc => ?_) (fun hc => ?_)
  · have h := o_t h hc
    obtain rfl := o_s h
    rw [hQ]
    exact end_v hx hb hr hP hD hS dX1_abandonTurn_20 hlocks
  · have h := o_f h hc
    refine lv_aload_n hx hb dX1_abandonTurn_15 rfl (lv_at hl 0 rfl) ?_
    obtain ⟨x2, ex2, h⟩ := o_b h
    refine call_iV (As := []) (rest := []) (ws2 := [(a0, .inr (1, [.ref a1, .ref a3, .ref a6, .ref a8, .int rd, .int x2.2.2, .int la, .int (bI dl), .int sh, .int tb])), (a1, .inr (4, [.int ft.1, .ref a2, .int ft.2.2.2])), (a2, .inl (cI, ft.2.1, .inl ft.2.2.1)), (a3, .inr (0, [.ref a4, .int eb])), (a4, .inr (4, [.int x2.2.1.1, .ref a5, .int x2.2.1.2.2.2])), (a5, .inl (cI, x2.2.1.2.1, .inl x2.2.1.2.2.1)), (a6, .inr (4, [.int li.1, .ref a7, .int li.2.2.2])), (a7, .inl (cI, li.2.1, .inl li.2.2.1)), (a8, .inr (4, [.int x1.1, .ref a9, .int x1.2.2.2])), (a9, .inl (cI, x1.2.1, .inl x1.2.2.1))]) ⟨hx, hb, hml, hown, hts⟩ (cX1_endTurn_ok l G cI cG a0 a1 a2 a3 a4 a5 a6 a7 a8 a9 fu ft er eb li x1 rd tu la dl sh tb x2 ex2) (cwV 0 hts gX1_abandonTurn_X1_endTurn_135 rfl rfl rfl hdX1_endTurn ⟨Nat.le_of_ble_eq_true rfl, Nat.le_of_ble_eq_true rfl⟩) hP hD hS hA hK 1 rfl rfl rfl [0, 1, 2, 3, 4, 5, 6, 7, 8, 9] rfl rfl rfl rfl rfl rfl rfl rfl hl.1 (Nat.le_of_ble_eq_true rfl) dX1_abandonTurn_16 ⟨Nat.zero_le _, Nat.zero_le _⟩ (fun H locs hP hD hS => ?_)
    refine lv_pop hx hb dX1_abandonTurn_19 rfl ?_
    obtain rfl := o_s h
    rw [hQ]
    exact end_v hx hb hr hP hD hS dX1_abandonTurn_20 hlocks
theorem hdX1_passTurn : yX1_passTurn.cls = RX1 ∧ yX1_passTurn.cls ≠ "java/lang/invoke/MethodHandle" ∧ yX1_passTurn.cls ≠ "java/lang/invoke/VarHandle" ∧ (parseMethodDescriptor yX1_passTurn.desc).map (fun d => d.parameters.length) = some 0 := by decide +kernel
set_option maxHeartbeats 4000000 in
set_option maxRecDepth 100000 in
theorem cX1_passTurn_ok (l : Launch) (G : va_G) (cI cG : ClassId) (a0 a1 a2 a3 a4 a5 a6 a7 a8 a9 : Nat) (fu : Nat) (ft : Tab) (er : Tab) (eb : Int32) (li : Tab) (st : Tab) (rd : Int32) (tu : Int32) (la : Int32) (dl : Bool) (sh : Int32) (tb : Int32) (out : Int32 × Tab × Tab × Tab × Int32 × Int32 × Int32 × Bool × Int32) (hf : fX1_passTurn fu ft er li rd tu la dl sh tb = some out) : CI l G (tyz cI cG) yX1_passTurn wsX1_passTurn ({ frames := 6, cells := 0, slots := 0, locals := 175 } : Room) [.ref a0] [(a0, .inr (1, [.ref a1, .ref a3, .ref a6, .ref a8, .int rd, .int tu, .int la, .int (bI dl), .int sh, .int tb])), (a1, .inr (4, [.int ft.1, .ref a2, .int ft.2.2.2])), (a2, .inl (cI, ft.2.1, .inl ft.2.2.1)), (a3, .inr (0, [.ref a4, .int eb])), (a4, .inr (4, [.int er.1, .ref a5, .int er.2.2.2])), (a5, .inl (cI, er.2.1, .inl er.2.2.1)), (a6, .inr (4, [.int li.1, .ref a7, .int li.2.2.2])), (a7, .inl (cI, li.2.1, .inl li.2.2.1)), (a8, .inr (4, [.int st.1, .ref a9, .int st.2.2.2])), (a9, .inl (cI, st.2.1, .inl st.2.2.1))] out.1 [(a0, .inr (1, [.ref a1, .ref a3, .ref a6, .ref a8, .int out.2.2.2.2.1, .int out.2.2.2.2.2.1, .int out.2.2.2.2.2.2.1, .int (bI out.2.2.2.2.2.2.2.1), .int sh, .int out.2.2.2.2.2.2.2.2])), (a1, .inr (4, [.int out.2.1.1, .ref a2, .int out.2.1.2.2.2])), (a2, .inl (cI, out.2.1.2.1, .inl out.2.1.2.2.1)), (a3, .inr (0, [.ref a4, .int eb])), (a4, .inr (4, [.int out.2.2.1.1, .ref a5, .int out.2.2.1.2.2.2])), (a5, .inl (cI, out.2.2.1.2.1, .inl out.2.2.1.2.2.1)), (a6, .inr (4, [.int out.2.2.2.1.1, .ref a7, .int out.2.2.2.1.2.2.2])), (a7, .inl (cI, out.2.2.2.1.2.1, .inl out.2.2.2.1.2.2.1)), (a8, .inr (4, [.int st.1, .ref a9, .int st.2.2.2])), (a9, .inl (cI, st.2.1, .inl st.2.2.1))] := by
  intro sz
  refine Met.ofW (cc := cX1_passTurn) (maxL := 2) (ret := (some .int)) (by decide) rfl ?_
  intro p e s m args below meth c s₁ B hml hv
  obtain ⟨rfl, hsz, hP, hK, hD0⟩ := hv
  have hx := B.exec
  have hb := B.bytes
  have hr := B.returns
  have hts := atoms_spec (ws := wsX1_passTurn) B.pre
  have hown : s.vm.findClass RX1 = some m.cls := findClass_of_methodNamed B.named
  have hlocks := B.notSynchronized
  subst hsz
  have hD := hD0.self (sz := s.heap.size)
  generalize hAe : va_A ([(a0, .inr (1, [.ref a1, .ref a3, .ref a6, .ref a8, .int rd, .int tu, .int la, .int (bI dl), .int sh, .int tb])), (a1, .inr (4, [.int ft.1, .ref a2, .int ft.2.2.2])), (a2, .inl (cI, ft.2.1, .inl ft.2.2.1)), (a3, .inr (0, [.ref a4, .int eb])), (a4, .inr (4, [.int er.1, .ref a5, .int er.2.2.2])), (a5, .inl (cI, er.2.1, .inl er.2.2.1)), (a6, .inr (4, [.int li.1, .ref a7, .int li.2.2.2])), (a7, .inl (cI, li.2.1, .inl li.2.2.1)), (a8, .inr (4, [.int st.1, .ref a9, .int st.2.2.2])), (a9, .inl (cI, st.2.1, .inl st.2.2.1))]) s.heap.size = A at hD ⊢
  have hA : ∀ q : Nat, s.heap.size ≤ q → A q := fun q h => by rw [← hAe]; exact Or.inr h
  have hS : va_S A s.heap s.heap [] := va_S.rf
  have hw0 := hts (.fieldLink RX1 37 "SpeedTurns$Game" "turn" "I") (List.mem_of_getElem? (i := 5) rfl)
  show W p l e ({ frames := 6, cells := 0, slots := 0, locals := 175 } : Room) s m _ below meth c s.heap [] 0 0 _ _
  refine W_genQ (fun Q hQ => ?_)
  have h := hf
  rw [fX1_passTurn] at h
  have hl := lv_entry ([.ref a0]) (n := 2) (Nat.le_of_ble_eq_true rfl)
  rw [lg_entry_eq]
  generalize (lg_sl ([.ref a0]) ++ List.replicate (2 - (lg_sl ([.ref a0])).length) Slot.unset).toArray = ls at hl ⊢
  have hl : lv_has ls 2 [(0, .ref a0)] := hl
  refine lv_aload_n hx hb dX1_passTurn_0 rfl (lv_at hl 0 rfl) ?_
  obtain ⟨x1, ex1, h⟩ := o_b h
  refine call_iV (As := []) (rest := []) (ws2 := [(a0, .inr (1, [.ref a1, .ref a3, .ref a6, .ref a8, .int x1.2.2.2.2.1, .int x1.2.2.2.2.2.1, .int x1.2.2.2.2.2.2.1, .int (bI x1.2.2.2.2.2.2.2.1), .int sh, .int x1.2.2.2.2.2.2.2.2])), (a1, .inr (4, [.int x1.2.1.1, .ref a2, .int x1.2.1.2.2.2])), (a2, .inl (cI, x1.2.1.2.1, .inl x1.2.1.2.2.1)), (a3, .inr (0, [.ref a4, .int eb])), (a4, .inr (4, [.int x1.2.2.1.1, .ref a5, .int x1.2.2.1.2.2.2])), (a5, .inl (cI, x1.2.2.1.2.1, .inl x1.2.2.1.2.2.1)), (a6, .inr (4, [.int x1.2.2.2.1.1, .ref a7, .int x1.2.2.2.1.2.2.2])), (a7, .inl (cI, x1.2.2.2.1.2.1, .inl x1.2.2.2.1.2.2.1)), (a8, .inr (4, [.int st.1, .ref a9, .int st.2.2.2])), (a9, .inl (cI, st.2.1, .inl st.2.2.1))]) ⟨hx, hb, hml, hown, hts⟩ (cX1_beginTurn_ok l G cI cG a0 a1 a2 a3 a4 a5 a6 a7 a8 a9 fu ft er eb li st rd tu la dl sh tb x1 ex1) (cwV 0 hts gX1_passTurn_X1_beginTurn_188 rfl rfl rfl hdX1_beginTurn ⟨Nat.le_of_ble_eq_true rfl, Nat.le_of_ble_eq_true rfl⟩) hP hD hS hA hK 1 rfl rfl rfl [0, 1, 2, 3, 4, 5, 6, 7, 8, 9] rfl rfl rfl rfl rfl rfl rfl rfl hl.1 (Nat.le_of_ble_eq_true rfl) dX1_passTurn_1 ⟨Nat.zero_le _, Nat.zero_le _⟩ (fun H locs hP hD hS => ?_)
  refine lv_istore_n (lv' := [(1, .int x1.1), (0, .ref a0)]) hx hb dX1_passTurn_4 rfl hl (by decide) rfl (fun ls hl => ?_)
  refine lv_aload_n hx hb dX1_passTurn_5 rfl (lv_at hl 1 rfl) ?_
  refine va_get (D := G) (ci := 1) (v := .int x1.2.2.2.2.2.1) (C := RX1) (T := TX1) (N := 10) hx hb hts huX1_passTurn_X1 hown hK.1 hP 0 rfl rfl 5 (by decide) hw0 (fun _ h9 => h9) rfl dX1_passTurn_6 ?_
  refine lv_iconst (v := (-1)) hx hb dX1_passTurn_9 (by decide) ?_
  refine lv_icmp_eq (tgt := 18) hx hb dX1_passTurn_10 (by decide) (fun hc => ?_) (fun hc => ?_)
  · have h := o_t h hc
    refine lv_iload_n hx hb dX1_passTurn_18 rfl (lv_at hl 0 rfl) ?_
    obtain rfl := o_s h
    rw [hQ]
    exact end_i hx hb hr rfl hP hD hS dX1_passTurn_19 hlocks
  · have h := o_f h hc
    refine lv_aload_n hx hb dX1_passTurn_13 rfl (lv_at hl 1 rfl) ?_
    obtain ⟨x2, ex2, h⟩ := o_b h
    refine call_iV (As := []) (rest := []) (ws2 := [(a0, .inr (1, [.ref a1, .ref a3, .ref a6, .ref a8, .int x1.2.2.2.2.1, .int x2.2.2, .int x1.2.2.2.2.2.2.1, .int (bI x1.2.2.2.2.2.2.2.1), .int sh, .int x1.2.2.2.2.2.2.2.2])), (a1, .inr (4, [.int x1.2.1.1, .ref a2, .int x1.2.1.2.2.2])), (a2, .inl (cI, x1.2.1.2.1, .inl x1.2.1.2.2.1)), (a3, .inr (0, [.ref a4, .int eb])), (a4, .inr (4, [.int x2.2.1.1, .ref a5, .int x2.2.1.2.2.2])), (a5, .inl (cI, x2.2.1.2.1, .inl x2.2.1.2.2.1)), (a6, .inr (4, [.int x1.2.2.2.1.1, .ref a7, .int x1.2.2.2.1.2.2.2])), (a7, .inl (cI, x1.2.2.2.1.2.1, .inl x1.2.2.2.1.2.2.1)), (a8, .inr (4, [.int st.1, .ref a9, .int st.2.2.2])), (a9, .inl (cI, st.2.1, .inl st.2.2.1))]) ⟨hx, hb, hml, hown, hts⟩ (cX1_endTurn_ok l G cI cG a0 a1 a2 a3 a4 a5 a6 a7 a8 a9 fu x1.2.1 x1.2.2.1 eb x1.2.2.2.1 st x1.2.2.2.2.1 x1.2.2.2.2.2.1 x1.2.2.2.2.2.2.1 x1.2.2.2.2.2.2.2.1 sh x1.2.2.2.2.2.2.2.2 x2 ex2) (cwV 0 hts gX1_passTurn_X1_endTurn_135 rfl rfl rfl hdX1_endTurn ⟨Nat.le_of_ble_eq_true rfl, Nat.le_of_ble_eq_true rfl⟩) hP hD hS hA hK 1 rfl rfl rfl [0, 1, 2, 3, 4, 5, 6, 7, 8, 9] rfl rfl rfl rfl rfl rfl rfl rfl hl.1 (Nat.le_of_ble_eq_true rfl) dX1_passTurn_14 ⟨Nat.zero_le _, Nat.zero_le _⟩ (fun H locs hP hD hS => ?_)
    refine lv_pop hx hb dX1_passTurn_17 rfl ?_
    refine lv_iload_n hx hb dX1_passTurn_18 rfl (lv_at hl 0 rfl) ?_
    obtain rfl := o_s h
    rw [hQ]
    exact end_i hx hb hr rfl hP hD hS dX1_passTurn_19 hlocks
