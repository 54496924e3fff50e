theorem hdX5_add : yX5_add.cls = RX5 ∧ yX5_add.cls ≠ "java/lang/invoke/MethodHandle" ∧ yX5_add.cls ≠ "java/lang/invoke/VarHandle" ∧ (parseMethodDescriptor yX5_add.desc).map (fun d => d.parameters.length) = some 2 := by decide +kernel
set_option maxHeartbeats 4000000 in
set_option maxRecDepth 100000 in
theorem cX5_add_ok (l : Launch) (hlf : l.stackTraces = false) (G : va_G) (cI cG : ClassId) (a : Nat → Nat) (fu : Nat) (g_ft : Tab) (g_er : Tab) (g_eb : Int32) (g_li : Tab) (g_st : Tab) (g_rd : Int32) (g_tu : Int32) (g_la : Int32) (g_dl : Bool) (g_sh : Int32) (g_tb : Int32) (z_ft : Tab) (z_er : Tab) (z_eb : Int32) (z_li : Tab) (z_st : Tab) (z_rd : Int32) (z_tu : Int32) (z_la : Int32) (z_dl : Bool) (z_sh : Int32) (z_tb : Int32) (yc : Int32) (yp : (Nat → Nat)) (yg : (Nat → GV)) (tx : Tab) (cm : Tab) (p1 : Int32) (p2 : Int32) (out : String ⊕ (Int32 × Tab × Int32 × (Nat → Nat) × (Nat → GV))) (hf : fX5_add fu g_ft g_er g_eb g_li g_st g_rd g_tu g_la g_dl g_sh g_tb yc yp yg p1 p2 = some out) : XI l G (tyz cI cG) yX5_add wsX5_add ({ frames := 6, cells := 1, slots := 6, locals := 145 } : Room) [.ref (a 0), .int p1, .int p2] (([[((a 0), .inr (8, [.ref (a 1), .ref (a 11), .ref (a 21), .ref (a 63)]))], wG cI (a 1) (a 2) (a 3) (a 4) (a 5) (a 6) (a 7) (a 8) (a 9) (a 10) g_ft g_er g_eb g_li g_st g_rd g_tu g_la g_dl g_sh g_tb, wG cI (a 11) (a 12) (a 13) (a 14) (a 15) (a 16) (a 17) (a 18) (a 19) (a 20) z_ft z_er z_eb z_li z_st z_rd z_tu z_la z_dl z_sh z_tb, wH cI cG (fun i => a (21 + i)) yc yp yg, wS cI (a 63) (a 64) (a 65) (a 66) (a 67) tx cm] : List va_W).flatten) out (fun u => u.1) ((fun u : Int32 × Tab × Int32 × (Nat → Nat) × (Nat → GV) => ([[((a 0), .inr (8, [.ref (a 1), .ref (a 11), .ref (a 21), .ref (a 63)]))], wG cI (a 1) (a 2) (a 3) (a 4) (a 5) (a 6) (a 7) (a 8) (a 9) (a 10) u.2.1 g_er g_eb g_li g_st g_rd g_tu g_la g_dl g_sh g_tb, wG cI (a 11) (a 12) (a 13) (a 14) (a 15) (a 16) (a 17) (a 18) (a 19) (a 20) z_ft z_er z_eb z_li z_st z_rd z_tu z_la z_dl z_sh z_tb, wH cI cG (fun i => a (21 + i)) u.2.2.1 u.2.2.2.1 u.2.2.2.2, wS cI (a 63) (a 64) (a 65) (a 66) (a 67) tx cm] : List va_W).flatten)) 1 6 := by
  intro sz
  refine vx_ofW (cc := cX5_add) (maxL := 3) (ret := (some .int)) (by decide) rfl ?_
  intro p e s m args below meth c s₁ B hml hnx hv
  obtain ⟨rfl, ⟨hsz, hP, hK, hD0⟩, hX, hZ⟩ := hv
  have hx := B.exec
  have hb := B.bytes
  have hr := B.returns
  have hts := atoms_spec (ws := wsX5_add) B.pre
  have hown : s.vm.findClass RX5 = some m.cls := findClass_of_methodNamed B.named
  have hlocks := B.notSynchronized
  subst hsz
  have hD := hD0.self (sz := s.heap.size)
  generalize hAe : va_A (([[((a 0), .inr (8, [.ref (a 1), .ref (a 11), .ref (a 21), .ref (a 63)]))], wG cI (a 1) (a 2) (a 3) (a 4) (a 5) (a 6) (a 7) (a 8) (a 9) (a 10) g_ft g_er g_eb g_li g_st g_rd g_tu g_la g_dl g_sh g_tb, wG cI (a 11) (a 12) (a 13) (a 14) (a 15) (a 16) (a 17) (a 18) (a 19) (a 20) z_ft z_er z_eb z_li z_st z_rd z_tu z_la z_dl z_sh z_tb, wH cI cG (fun i => a (21 + i)) yc yp yg, wS cI (a 63) (a 64) (a 65) (a 66) (a 67) tx cm] : List va_W).flatten) s.heap.size = A at hD hZ ⊢
  have hA : ∀ q : Nat, s.heap.size ≤ q → A q := fun q h => by rw [← hAe]; exact Or.inr h
  have hS : va_S A s.heap s.heap [] := va_S.rf
  have hw0 := hts (.classLink RX5 37 "java/lang/IllegalArgumentException") (List.mem_of_getElem? (i := 1) rfl)
  have hw1 := hts (.initialized "java/lang/IllegalArgumentException") (List.mem_of_getElem? (i := 2) rfl)
  have hat41 : ∀ w ∈ vx_atS RX5 41 "java/lang/IllegalArgumentException" ["java/lang/RuntimeException", "java/lang/Exception"], w.before _ s = true := vx_hat (fun w h => hts w (List.mem_cons_of_mem _ (List.mem_append_left _ (List.mem_append_left _ (List.mem_append_right _ h))))) (B := [.castable "java/lang/IllegalArgumentException" "java/lang/IllegalArgumentException", .declares (Bundle.initS "java/lang/RuntimeException"), .declares (Bundle.initS "java/lang/Exception"), .declares (Bundle.initS Bundle.tN)]) xh_41 (vx_c (va_Nw.use rfl hX.1.1) (vx_c (va_Nw.use rfl hX.1.2.2.2.1) (vx_c (va_Nw.use rfl hX.1.2.2.2.2.1) (vx_c (va_Nw.use rfl hX.1.2.2.2.2.2) vx_n))))
  have hw3 := hts (.fieldLink RX5 10 "SpeedTurns" "game" "LSpeedTurns$Game;") (List.mem_of_getElem? (i := 5) rfl)
  have hin5 : ∀ w ∈ u_ws RX5 TX5 4, w ∈ wsX5_add := by decide +kernel
  have hw5 := hts (.fieldLink RX5 22 "SpeedTurns" "history" "LSpeedTurns$History;") (List.mem_of_getElem? (i := 6) rfl)
  have hw6 := hts (.classLink RX5 48 "java/lang/IllegalStateException") (List.mem_of_getElem? (i := 3) rfl)
  have hw7 := hts (.initialized "java/lang/IllegalStateException") (List.mem_of_getElem? (i := 4) rfl)
  have hat52 : ∀ w ∈ vx_atS RX5 52 "java/lang/IllegalStateException" ["java/lang/RuntimeException", "java/lang/Exception"], w.before _ s = true := vx_hat (fun w h => hts w (List.mem_cons_of_mem _ (List.mem_append_left _ (List.mem_append_right _ h)))) (B := [.castable "java/lang/IllegalStateException" "java/lang/IllegalStateException", .declares (Bundle.initS "java/lang/RuntimeException"), .declares (Bundle.initS "java/lang/Exception"), .declares (Bundle.initS Bundle.tN)]) xh_52 (vx_c (va_Nw.use rfl hX.1.2.1) (vx_c (va_Nw.use rfl hX.1.2.2.2.1) (vx_c (va_Nw.use rfl hX.1.2.2.2.2.1) (vx_c (va_Nw.use rfl hX.1.2.2.2.2.2) vx_n))))
  show W p l e ({ frames := 6, cells := 1, slots := 6, locals := 145 } : Room) s m _ below meth c s.heap [] 0 0 _ _
  refine W_genQ (fun Q hQ => ?_)
  have h := hf
  rw [fX5_add] at h
  have hl := lv_entry ([.ref (a 0), .int p1, .int p2]) (n := 3) (Nat.le_of_ble_eq_true rfl)
  rw [lg_entry_eq]
  generalize (lg_sl ([.ref (a 0), .int p1, .int p2]) ++ List.replicate (3 - (lg_sl ([.ref (a 0), .int p1, .int p2])).length) Slot.unset).toArray = ls at hl ⊢
  have hl : lv_has ls 3 [(0, .ref (a 0)), (1, .int p1), (2, .int p2)] := hl
  refine lv_iload_n hx hb dX5_add_0 rfl (lv_at hl 1 rfl) ?_
  refine lv_iconst (v := 1) hx hb dX5_add_1 (by decide) ?_
  refine lv_bipush (v := 30) hx hb dX5_add_2 (by decide) ?_
  obtain ⟨x1, ex1, h⟩ := o_b h
  refine bcall_iS (As := [.int p1, .int (1 : Int32), .int (30 : Int32)]) (rest := []) (c0 := []) (c1 := []) (bs2 := [[((a 0), .inr (8, [.ref (a 1), .ref (a 11), .ref (a 21), .ref (a 63)]))], wG cI (a 1) (a 2) (a 3) (a 4) (a 5) (a 6) (a 7) (a 8) (a 9) (a 10) g_ft g_er g_eb g_li g_st g_rd g_tu g_la g_dl g_sh g_tb, wG cI (a 11) (a 12) (a 13) (a 14) (a 15) (a 16) (a 17) (a 18) (a 19) (a 20) z_ft z_er z_eb z_li z_st z_rd z_tu z_la z_dl z_sh z_tb, wH cI cG (fun i => a (21 + i)) yc yp yg, wS cI (a 63) (a 64) (a 65) (a 66) (a 67) tx cm]) ⟨hx, hb, hml, hown, hts⟩ (cX5_within_ok l G cI cG p1 (1 : Int32) (30 : Int32) x1 ex1) (va_cwS 3 hts gX5_add_X5_within rfl rfl rfl hdX5_within ⟨Nat.le_of_ble_eq_true rfl, Nat.le_of_ble_eq_true rfl⟩) hP hD hS hA hK [] rfl rfl rfl rfl rfl rfl rfl rfl rfl hl.1 (Nat.le_of_ble_eq_true rfl) dX5_add_4 ⟨Nat.zero_le _, Nat.zero_le _⟩ (fun H locs hP hD hS => ?_)
  refine lv_if_eq (tgt := 21) hx hb dX5_add_7 (by decide) (fun hc => ?_) (fun hc => ?_)
  · have h := o_t h hc
    obtain rfl := o_s h
    rw [hQ]
    exact x_throw (text := "speed or life is out of range") hx hb hlf hown xf_41 xn_41 hw0 hw1 hX.2.1 hat41 xg_37_41 hZ hP hD hS (by rw [hml]; exact hl.1) dX5_add_21 dX5_add_24 dX5_add_25 dX5_add_27 dX5_add_30 hnx (Nat.le_of_ble_eq_true rfl) (Nat.le_of_ble_eq_true rfl) (Nat.le_of_ble_eq_true rfl) (Nat.le_of_ble_eq_true rfl) hlocks rfl (Nat.le_of_ble_eq_true rfl) (Nat.le_of_ble_eq_true rfl)
  · have h := o_f h hc
    refine lv_iload_n hx hb dX5_add_10 rfl (lv_at hl 2 rfl) ?_
    refine lv_iconst (v := 1) hx hb dX5_add_11 (by decide) ?_
    refine lv_sipush (v := 200) hx hb dX5_add_12 (by decide) ?_
    obtain ⟨x2, ex2, h⟩ := o_b h
    refine bcall_iS (As := [.int p2, .int (1 : Int32), .int (200 : Int32)]) (rest := []) (c0 := []) (c1 := []) (bs2 := [[((a 0), .inr (8, [.ref (a 1), .ref (a 11), .ref (a 21), .ref (a 63)]))], wG cI (a 1) (a 2) (a 3) (a 4) (a 5) (a 6) (a 7) (a 8) (a 9) (a 10) g_ft g_er g_eb g_li g_st g_rd g_tu g_la g_dl g_sh g_tb, wG cI (a 11) (a 12) (a 13) (a 14) (a 15) (a 16) (a 17) (a 18) (a 19) (a 20) z_ft z_er z_eb z_li z_st z_rd z_tu z_la z_dl z_sh z_tb, wH cI cG (fun i => a (21 + i)) yc yp yg, wS cI (a 63) (a 64) (a 65) (a 66) (a 67) tx cm]) ⟨hx, hb, hml, hown, hts⟩ (cX5_within_ok l G cI cG p2 (1 : Int32) (200 : Int32) x2 ex2) (va_cwS 3 hts gX5_add_X5_within rfl rfl rfl hdX5_within ⟨Nat.le_of_ble_eq_true rfl, Nat.le_of_ble_eq_true rfl⟩) hP hD hS hA hK [] rfl rfl rfl rfl rfl rfl rfl rfl rfl hl.1 (Nat.le_of_ble_eq_true rfl) dX5_add_15 ⟨Nat.zero_le _, Nat.zero_le _⟩ (fun H locs hP hD hS => ?_)
    refine lv_if_ne (tgt := 31) hx hb dX5_add_18 (by decide) (fun hc => ?_) (fun hc => ?_)
    · have h := o_f h hc
      refine lv_aload_n hx hb dX5_add_31 rfl (lv_at hl 0 rfl) ?_
      refine va_get (D := G) (ci := 8) (v := .ref (a 1)) (C := RX5) (T := TX5) (N := 4) hx hb hts hin5 hown hK.1 hP 0 rfl rfl 0 (by decide) hw3 (fun _ h9 => h9) rfl dX5_add_32 ?_
      obtain ⟨x3, ex3, h⟩ := o_b h
      refine bcall_iV (As := []) (rest := []) (c0 := [wG cI (a 1) (a 2) (a 3) (a 4) (a 5) (a 6) (a 7) (a 8) (a 9) (a 10) g_ft g_er g_eb g_li g_st g_rd g_tu g_la g_dl g_sh g_tb]) (c1 := [wG cI (a 1) (a 2) (a 3) (a 4) (a 5) (a 6) (a 7) (a 8) (a 9) (a 10) g_ft g_er g_eb g_li g_st g_rd g_tu g_la g_dl g_sh g_tb]) (bs2 := [[((a 0), .inr (8, [.ref (a 1), .ref (a 11), .ref (a 21), .ref (a 63)]))], wG cI (a 1) (a 2) (a 3) (a 4) (a 5) (a 6) (a 7) (a 8) (a 9) (a 10) g_ft g_er g_eb g_li g_st g_rd g_tu g_la g_dl g_sh g_tb, wG cI (a 11) (a 12) (a 13) (a 14) (a 15) (a 16) (a 17) (a 18) (a 19) (a 20) z_ft z_er z_eb z_li z_st z_rd z_tu z_la z_dl z_sh z_tb, wH cI cG (fun i => a (21 + i)) yc yp yg, wS cI (a 63) (a 64) (a 65) (a 66) (a 67) tx cm]) ⟨hx, hb, hml, hown, hts⟩ (cX1_fighterCount_ok l G cI cG (a 1) (a 2) (a 3) (a 4) (a 5) (a 6) (a 7) (a 8) (a 9) (a 10) g_ft g_er g_eb g_li g_st g_rd g_tu g_la g_dl g_sh g_tb x3 ex3) (cwV 0 hts gX5_add_X1_fighterCount rfl rfl rfl hdX1_fighterCount ⟨Nat.le_of_ble_eq_true rfl, Nat.le_of_ble_eq_true rfl⟩) hP hD hS hA hK 4 rfl rfl rfl [1] rfl rfl rfl rfl rfl rfl rfl rfl rfl hl.1 (Nat.le_of_ble_eq_true rfl) dX5_add_35 ⟨Nat.zero_le _, Nat.zero_le _⟩ (fun H locs hP hD hS => ?_)
      refine lv_bipush (v := 10) hx hb dX5_add_38 (by decide) ?_
      refine lv_icmp_lt (tgt := 53) hx hb dX5_add_40 (by decide) (fun hc => ?_) (fun hc => ?_)
      · have h := o_t h hc
        refine lv_aload_n hx hb dX5_add_53 rfl (lv_at hl 0 rfl) ?_
        refine va_get (D := G) (ci := 8) (v := .ref (a 21)) (C := RX5) (T := TX5) (N := 4) hx hb hts hin5 hown hK.1 hP 0 rfl rfl 2 (by decide) hw5 (fun _ h9 => h9) rfl dX5_add_54 ?_
        refine lv_aload_n hx hb dX5_add_57 rfl (lv_at hl 0 rfl) ?_
        refine va_get (D := G) (ci := 8) (v := .ref (a 1)) (C := RX5) (T := TX5) (N := 4) hx hb hts hin5 hown hK.1 hP 0 rfl rfl 0 (by decide) hw3 (fun _ h9 => h9) rfl dX5_add_58 ?_
        obtain ⟨x4, ex4, h⟩ := o_b h
        refine bcall_vV (As := [.ref (a 1)]) (rest := []) (c0 := [wH cI cG (fun i => a (21 + i)) yc yp yg, wG cI (a 1) (a 2) (a 3) (a 4) (a 5) (a 6) (a 7) (a 8) (a 9) (a 10) g_ft g_er g_eb g_li g_st g_rd g_tu g_la g_dl g_sh g_tb]) (c1 := [wH cI cG (fun i => a (21 + i)) x4.1 x4.2.1 x4.2.2, wG cI (a 1) (a 2) (a 3) (a 4) (a 5) (a 6) (a 7) (a 8) (a 9) (a 10) g_ft g_er g_eb g_li g_st g_rd g_tu g_la g_dl g_sh g_tb]) (bs2 := [[((a 0), .inr (8, [.ref (a 1), .ref (a 11), .ref (a 21), .ref (a 63)]))], wG cI (a 1) (a 2) (a 3) (a 4) (a 5) (a 6) (a 7) (a 8) (a 9) (a 10) g_ft g_er g_eb g_li g_st g_rd g_tu g_la g_dl g_sh g_tb, wG cI (a 11) (a 12) (a 13) (a 14) (a 15) (a 16) (a 17) (a 18) (a 19) (a 20) z_ft z_er z_eb z_li z_st z_rd z_tu z_la z_dl z_sh z_tb, wH cI cG (fun i => a (21 + i)) x4.1 x4.2.1 x4.2.2, wS cI (a 63) (a 64) (a 65) (a 66) (a 67) tx cm]) ⟨hx, hb, hml, hown, hts⟩ (cX2_save_ok l G cI cG (fun i => a (21 + i)) (a 1) (a 2) (a 3) (a 4) (a 5) (a 6) (a 7) (a 8) (a 9) (a 10) fu yc yp yg g_ft g_er g_eb g_li g_st g_rd g_tu g_la g_dl g_sh g_tb x4 ex4) (cwV 1 hts gX5_add_X2_save rfl rfl rfl hdX2_save ⟨Nat.le_of_ble_eq_true rfl, Nat.le_of_ble_eq_true rfl⟩) hP hD hS hA hK 5 rfl rfl rfl [3, 1] rfl rfl rfl rfl rfl rfl rfl rfl rfl hl.1 (Nat.le_of_ble_eq_true rfl) dX5_add_61 ⟨Nat.zero_le _, Nat.zero_le _⟩ (fun H locs hP hD hS => ?_)
        refine lv_aload_n hx hb dX5_add_64 rfl (lv_at hl 0 rfl) ?_
        refine va_get (D := G) (ci := 8) (v := .ref (a 1)) (C := RX5) (T := TX5) (N := 4) hx hb hts hin5 hown hK.1 hP 0 rfl rfl 0 (by decide) hw3 (fun _ h9 => h9) rfl dX5_add_65 ?_
        refine lv_iload_n hx hb dX5_add_68 rfl (lv_at hl 1 rfl) ?_
        refine lv_iload_n hx hb dX5_add_69 rfl (lv_at hl 2 rfl) ?_
        obtain ⟨x5, ex5, h⟩ := o_b h
        refine bcall_iV (As := [.int p1, .int p2]) (rest := []) (c0 := [wG cI (a 1) (a 2) (a 3) (a 4) (a 5) (a 6) (a 7) (a 8) (a 9) (a 10) g_ft g_er g_eb g_li g_st g_rd g_tu g_la g_dl g_sh g_tb]) (c1 := [wG cI (a 1) (a 2) (a 3) (a 4) (a 5) (a 6) (a 7) (a 8) (a 9) (a 10) x5.2 g_er g_eb g_li g_st g_rd g_tu g_la g_dl g_sh g_tb]) (bs2 := [[((a 0), .inr (8, [.ref (a 1), .ref (a 11), .ref (a 21), .ref (a 63)]))], wG cI (a 1) (a 2) (a 3) (a 4) (a 5) (a 6) (a 7) (a 8) (a 9) (a 10) x5.2 g_er g_eb g_li g_st g_rd g_tu g_la g_dl g_sh g_tb, wG cI (a 11) (a 12) (a 13) (a 14) (a 15) (a 16) (a 17) (a 18) (a 19) (a 20) z_ft z_er z_eb z_li z_st z_rd z_tu z_la z_dl z_sh z_tb, wH cI cG (fun i => a (21 + i)) x4.1 x4.2.1 x4.2.2, wS cI (a 63) (a 64) (a 65) (a 66) (a 67) tx cm]) ⟨hx, hb, hml, hown, hts⟩ (cX1_join_ok l G cI cG (a 1) (a 2) (a 3) (a 4) (a 5) (a 6) (a 7) (a 8) (a 9) (a 10) fu g_ft g_er g_eb g_li g_st g_rd g_tu g_la g_dl g_sh g_tb p1 p2 x5 ex5) (cwV 2 hts gX5_add_X1_join rfl rfl rfl hdX1_join ⟨Nat.le_of_ble_eq_true rfl, Nat.le_of_ble_eq_true rfl⟩) hP hD hS hA hK 4 rfl rfl rfl [1] rfl rfl rfl rfl rfl rfl rfl rfl rfl hl.1 (Nat.le_of_ble_eq_true rfl) dX5_add_70 ⟨Nat.zero_le _, Nat.zero_le _⟩ (fun H locs hP hD hS => ?_)
        obtain rfl := o_s h
        rw [hQ]
        exact xend_i hx hb hr rfl rfl hP hD hS dX5_add_73 hlocks (Nat.le_of_ble_eq_true rfl) (Nat.le_of_ble_eq_true rfl)
      · have h := o_f h hc
        obtain rfl := o_s h
        rw [hQ]
        exact x_throw (text := "there is no room for one more fighter") hx hb hlf hown xf_52 xn_52 hw6 hw7 hX.2.2.1 hat52 xg_48_52 hZ hP hD hS (by rw [hml]; exact hl.1) dX5_add_43 dX5_add_46 dX5_add_47 dX5_add_49 dX5_add_52 hnx (Nat.le_of_ble_eq_true rfl) (Nat.le_of_ble_eq_true rfl) (Nat.le_of_ble_eq_true rfl) (Nat.le_of_ble_eq_true rfl) hlocks rfl (Nat.le_of_ble_eq_true rfl) (Nat.le_of_ble_eq_true rfl)
    · have h := o_t h hc
      obtain rfl := o_s h
      rw [hQ]
      exact x_throw (text := "speed or life is out of range") hx hb hlf hown xf_41 xn_41 hw0 hw1 hX.2.1 hat41 xg_37_41 hZ hP hD hS (by rw [hml]; exact hl.1) dX5_add_21 dX5_add_24 dX5_add_25 dX5_add_27 dX5_add_30 hnx (Nat.le_of_ble_eq_true rfl) (Nat.le_of_ble_eq_true rfl) (Nat.le_of_ble_eq_true rfl) (Nat.le_of_ble_eq_true rfl) hlocks rfl (Nat.le_of_ble_eq_true rfl) (Nat.le_of_ble_eq_true rfl)
theorem hdX5_requireFighter : yX5_requireFighter.cls = RX5 ∧ yX5_requireFighter.cls ≠ "java/lang/invoke/MethodHandle" ∧ yX5_requireFighter.cls ≠ "java/lang/invoke/VarHandle" ∧ (parseMethodDescriptor yX5_requireFighter.desc).map (fun d => d.parameters.length) = some 1 := by decide +kernel
set_option maxHeartbeats 4000000 in
set_option maxRecDepth 100000 in
theorem cX5_requireFighter_ok (l : Launch) (hlf : l.stackTraces = false) (G : va_G) (cI cG : ClassId) (a : Nat → Nat) (g_ft : Tab) (g_er : Tab) (g_eb : Int32) (g_li : Tab) (g_st : Tab) (g_rd : Int32) (g_tu : Int32) (g_la : Int32) (g_dl : Bool) (g_sh : Int32) (g_tb : Int32) (z_ft : Tab) (z_er : Tab) (z_eb : Int32) (z_li : Tab) (z_st : Tab) (z_rd : Int32) (z_tu : Int32) (z_la : Int32) (z_dl : Bool) (z_sh : Int32) (z_tb : Int32) (yc : Int32) (yp : (Nat → Nat)) (yg : (Nat → GV)) (tx : Tab) (cm : Tab) (p1 : Int32) (out : String ⊕ (Unit)) (hf : fX5_requireFighter g_ft p1 = some out) : XV l G (tyz cI cG) yX5_requireFighter wsX5_requireFighter ({ frames := 6, cells := 1, slots := 6, locals := 100 } : Room) [.ref (a 0), .int p1] (([[((a 0), .inr (8, [.ref (a 1), .ref (a 11), .ref (a 21), .ref (a 63)]))], wG cI (a 1) (a 2) (a 3) (a 4) (a 5) (a 6) (a 7) (a 8) (a 9) (a 10) g_ft g_er g_eb g_li g_st g_rd g_tu g_la g_dl g_sh g_tb, wG cI (a 11) (a 12) (a 13) (a 14) (a 15) (a 16) (a 17) (a 18) (a 19) (a 20) z_ft z_er z_eb z_li z_st z_rd z_tu z_la z_dl z_sh z_tb, wH cI cG (fun i => a (21 + i)) yc yp yg, wS cI (a 63) (a 64) (a 65) (a 66) (a 67) tx cm] : List va_W).flatten) out ((fun u : Unit => ([[((a 0), .inr (8, [.ref (a 1), .ref (a 11), .ref (a 21), .ref (a 63)]))], wG cI (a 1) (a 2) (a 3) (a 4) (a 5) (a 6) (a 7) (a 8) (a 9) (a 10) g_ft g_er g_eb g_li g_st g_rd g_tu g_la g_dl g_sh g_tb, wG cI (a 11) (a 12) (a 13) (a 14) (a 15) (a 16) (a 17) (a 18) (a 19) (a 20) z_ft z_er z_eb z_li z_st z_rd z_tu z_la z_dl z_sh z_tb, wH cI cG (fun i => a (21 + i)) yc yp yg, wS cI (a 63) (a 64) (a 65) (a 66) (a 67) tx cm] : List va_W).flatten)) 1 6 := by
  intro sz
  refine vx_ofW (cc := cX5_requireFighter) (maxL := 2) (ret := none) (by decide) rfl ?_
  intro p e s m args below meth c s₁ B hml hnx hv
  obtain ⟨rfl, ⟨hsz, hP, hK, hD0⟩, hX, hZ⟩ := hv
  have hx := B.exec
  have hb := B.bytes
  have hr := B.returns
  have hts := atoms_spec (ws := wsX5_requireFighter) B.pre
  have hown : s.vm.findClass RX5 = some m.cls := findClass_of_methodNamed B.named
  have hlocks := B.notSynchronized
  subst hsz
  have hD := hD0.self (sz := s.heap.size)
  generalize hAe : va_A (([[((a 0), .inr (8, [.ref (a 1), .ref (a 11), .ref (a 21), .ref (a 63)]))], wG cI (a 1) (a 2) (a 3) (a 4) (a 5) (a 6) (a 7) (a 8) (a 9) (a 10) g_ft g_er g_eb g_li g_st g_rd g_tu g_la g_dl g_sh g_tb, wG cI (a 11) (a 12) (a 13) (a 14) (a 15) (a 16) (a 17) (a 18) (a 19) (a 20) z_ft z_er z_eb z_li z_st z_rd z_tu z_la z_dl z_sh z_tb, wH cI cG (fun i => a (21 + i)) yc yp yg, wS cI (a 63) (a 64) (a 65) (a 66) (a 67) tx cm] : List va_W).flatten) s.heap.size = A at hD hZ ⊢
  have hA : ∀ q : Nat, s.heap.size ≤ q → A q := fun q h => by rw [← hAe]; exact Or.inr h
  have hS : va_S A s.heap s.heap [] := va_S.rf
  have hw0 := hts (.fieldLink RX5 10 "SpeedTurns" "game" "LSpeedTurns$Game;") (List.mem_of_getElem? (i := 3) rfl)
  have hin5 : ∀ w ∈ u_ws RX5 TX5 4, w ∈ wsX5_requireFighter := by decide +kernel
  have hw2 := hts (.classLink RX5 91 "java/lang/IndexOutOfBoundsException") (List.mem_of_getElem? (i := 1) rfl)
  have hw3 := hts (.initialized "java/lang/IndexOutOfBoundsException") (List.mem_of_getElem? (i := 2) rfl)
  have hat95 : ∀ w ∈ vx_atS RX5 95 "java/lang/IndexOutOfBoundsException" ["java/lang/RuntimeException", "java/lang/Exception"], w.before _ s = true := vx_hat (fun w h => hts w (List.mem_cons_of_mem _ (List.mem_append_right _ h))) (B := [.castable "java/lang/IndexOutOfBoundsException" "java/lang/IndexOutOfBoundsException", .declares (Bundle.initS "java/lang/RuntimeException"), .declares (Bundle.initS "java/lang/Exception"), .declares (Bundle.initS Bundle.tN)]) xh_95 (vx_c (va_Nw.use rfl hX.1.2.2.1) (vx_c (va_Nw.use rfl hX.1.2.2.2.1) (vx_c (va_Nw.use rfl hX.1.2.2.2.2.1) (vx_c (va_Nw.use rfl hX.1.2.2.2.2.2) vx_n))))
  show W p l e ({ frames := 6, cells := 1, slots := 6, locals := 100 } : Room) s m _ below meth c s.heap [] 0 0 _ _
  refine W_genQ (fun Q hQ => ?_)
  have h := hf
  rw [fX5_requireFighter] at h
  have hl := lv_entry ([.ref (a 0), .int p1]) (n := 2) (Nat.le_of_ble_eq_true rfl)
  rw [lg_entry_eq]
  generalize (lg_sl ([.ref (a 0), .int p1]) ++ List.replicate (2 - (lg_sl ([.ref (a 0), .int p1])).length) Slot.unset).toArray = ls at hl ⊢
  have hl : lv_has ls 2 [(0, .ref (a 0)), (1, .int p1)] := hl
  refine lv_aload_n hx hb dX5_requireFighter_0 rfl (lv_at hl 0 rfl) ?_
  refine va_get (D := G) (ci := 8) (v := .ref (a 1)) (C := RX5) (T := TX5) (N := 4) hx hb hts hin5 hown hK.1 hP 0 rfl rfl 0 (by decide) hw0 (fun _ h9 => h9) rfl dX5_requireFighter_1 ?_
  refine lv_iload_n hx hb dX5_requireFighter_4 rfl (lv_at hl 1 rfl) ?_
  obtain ⟨x1, ex1, h⟩ := o_b h
  refine bcall_iV (As := [.int p1]) (rest := []) (c0 := [wG cI (a 1) (a 2) (a 3) (a 4) (a 5) (a 6) (a 7) (a 8) (a 9) (a 10) g_ft g_er g_eb g_li g_st g_rd g_tu g_la g_dl g_sh g_tb]) (c1 := [wG cI (a 1) (a 2) (a 3) (a 4) (a 5) (a 6) (a 7) (a 8) (a 9) (a 10) g_ft g_er g_eb g_li g_st g_rd g_tu g_la g_dl g_sh g_tb]) (bs2 := [[((a 0), .inr (8, [.ref (a 1), .ref (a 11), .ref (a 21), .ref (a 63)]))], wG cI (a 1) (a 2) (a 3) (a 4) (a 5) (a 6) (a 7) (a 8) (a 9) (a 10) g_ft g_er g_eb g_li g_st g_rd g_tu g_la g_dl g_sh g_tb, wG cI (a 11) (a 12) (a 13) (a 14) (a 15) (a 16) (a 17) (a 18) (a 19) (a 20) z_ft z_er z_eb z_li z_st z_rd z_tu z_la z_dl z_sh z_tb, wH cI cG (fun i => a (21 + i)) yc yp yg, wS cI (a 63) (a 64) (a 65) (a 66) (a 67) tx cm]) ⟨hx, hb, hml, hown, hts⟩ (cX1_isFighter_ok l G cI cG (a 1) (a 2) (a 3) (a 4) (a 5) (a 6) (a 7) (a 8) (a 9) (a 10) g_ft g_er g_eb g_li g_st g_rd g_tu g_la g_dl g_sh g_tb p1 x1 ex1) (cwV 1 hts gX5_requireFighter_X1_isFighter rfl rfl rfl hdX1_isFighter ⟨Nat.le_of_ble_eq_true rfl, Nat.le_of_ble_eq_true rfl⟩) hP hD hS hA hK 4 rfl rfl rfl [1] rfl rfl rfl rfl rfl rfl rfl rfl rfl hl.1 (Nat.le_of_ble_eq_true rfl) dX5_requireFighter_5 ⟨Nat.zero_le _, Nat.zero_le _⟩ (fun H locs hP hD hS => ?_)
  refine lv_if_ne (tgt := 21) hx hb dX5_requireFighter_8 (by decide) (fun hc => ?_) (fun hc => ?_)
  · have h := o_f h hc
    obtain rfl := o_s h
    rw [hQ]
    exact xend_v hx hb hr rfl hP hD hS dX5_requireFighter_21 hlocks (Nat.le_of_ble_eq_true rfl) (Nat.le_of_ble_eq_true rfl)
  · have h := o_t h hc
    obtain rfl := o_s h
    rw [hQ]
    exact x_throw (text := "no such fighter") hx hb hlf hown xf_95 xn_95 hw2 hw3 hX.2.2.2.2.2.2.1 hat95 xg_91_95 hZ hP hD hS (by rw [hml]; exact hl.1) dX5_requireFighter_11 dX5_requireFighter_14 dX5_requireFighter_15 dX5_requireFighter_17 dX5_requireFighter_20 hnx (Nat.le_of_ble_eq_true rfl) (Nat.le_of_ble_eq_true rfl) (Nat.le_of_ble_eq_true rfl) (Nat.le_of_ble_eq_true rfl) hlocks rfl (Nat.le_of_ble_eq_true rfl) (Nat.le_of_ble_eq_true rfl)
theorem hdX5_requireWithin : yX5_requireWithin.cls ≠ "java/lang/invoke/MethodHandle" ∧ yX5_requireWithin.cls ≠ "java/lang/invoke/VarHandle" ∧ (parseMethodDescriptor yX5_requireWithin.desc).map (fun d => d.parameters.length) = some 3 := by decide +kernel
set_option maxHeartbeats 4000000 in
set_option maxRecDepth 100000 in
theorem cX5_requireWithin_ok (l : Launch) (hlf : l.stackTraces = false) (G : va_G) (cI cG : ClassId) (p0 : Int32) (p1 : Int32) (p2 : Int32) (out : String ⊕ (Unit)) (hf : fX5_requireWithin p0 p1 p2 = some out) : XV l G (tyz cI cG) yX5_requireWithin wsX5_requireWithin ({ frames := 6, cells := 1, slots := 6, locals := 100 } : Room) [.int p0, .int p1, .int p2] (([] : List va_W).flatten) out ((fun u : Unit => ([] : List va_W).flatten)) 1 6 := by
  intro sz
  refine vx_ofW (cc := cX5_requireWithin) (maxL := 3) (ret := none) (by decide) rfl ?_
  intro p e s m args below meth c s₁ B hml hnx hv
  obtain ⟨rfl, ⟨hsz, hP, hK, hD0⟩, hX, hZ⟩ := hv
  have hx := B.exec
  have hb := B.bytes
  have hr := B.returns
  have hts := atoms_spec (ws := wsX5_requireWithin) B.pre
  have hown : s.vm.findClass RX5 = some m.cls := findClass_of_methodNamed B.named
  have hlocks := B.notSynchronized
  subst hsz
  have hD := hD0.self (sz := s.heap.size)
  generalize hAe : va_A (([] : List va_W).flatten) s.heap.size = A at hD hZ ⊢
  have hA : ∀ q : Nat, s.heap.size ≤ q → A q := fun q h => by rw [← hAe]; exact Or.inr h
  have hS : va_S A s.heap s.heap [] := va_S.rf
  have hw0 := hts (.classLink RX5 37 "java/lang/IllegalArgumentException") (List.mem_of_getElem? (i := 1) rfl)
  have hw1 := hts (.initialized "java/lang/IllegalArgumentException") (List.mem_of_getElem? (i := 2) rfl)
  have hat41 : ∀ w ∈ vx_atS RX5 41 "java/lang/IllegalArgumentException" ["java/lang/RuntimeException", "java/lang/Exception"], w.before _ s = true := vx_hat (fun w h => hts w (List.mem_cons_of_mem _ (List.mem_append_right _ h))) (B := [.castable "java/lang/IllegalArgumentException" "java/lang/IllegalArgumentException", .declares (Bundle.initS "java/lang/RuntimeException"), .declares (Bundle.initS "java/lang/Exception"), .declares (Bundle.initS Bundle.tN)]) xh_41 (vx_c (va_Nw.use rfl hX.1.1) (vx_c (va_Nw.use rfl hX.1.2.2.2.1) (vx_c (va_Nw.use rfl hX.1.2.2.2.2.1) (vx_c (va_Nw.use rfl hX.1.2.2.2.2.2) vx_n))))
  show W p l e ({ frames := 6, cells := 1, slots := 6, locals := 100 } : Room) s m _ below meth c s.heap [] 0 0 _ _
  refine W_genQ (fun Q hQ => ?_)
  have h := hf
  rw [fX5_requireWithin] at h
  have hl := lv_entry ([.int p0, .int p1, .int p2]) (n := 3) (Nat.le_of_ble_eq_true rfl)
  rw [lg_entry_eq]
  generalize (lg_sl ([.int p0, .int p1, .int p2]) ++ List.replicate (3 - (lg_sl ([.int p0, .int p1, .int p2])).length) Slot.unset).toArray = ls at hl ⊢
  have hl : lv_has ls 3 [(0, .int p0), (1, .int p1), (2, .int p2)] := hl
  refine lv_iload_n hx hb dX5_requireWithin_0 rfl (lv_at hl 0 rfl) ?_
  refine lv_iload_n hx hb dX5_requireWithin_1 rfl (lv_at hl 1 rfl) ?_
  refine lv_iload_n hx hb dX5_requireWithin_2 rfl (lv_at hl 2 rfl) ?_
  obtain ⟨x1, ex1, h⟩ := o_b h
  refine bcall_iS (As := [.int p0, .int p1, .int p2]) (rest := []) (c0 := []) (c1 := []) (bs2 := []) ⟨hx, hb, hml, hown, hts⟩ (cX5_within_ok l G cI cG p0 p1 p2 x1 ex1) (va_cwS 3 hts gX5_requireWithin_X5_within rfl rfl rfl hdX5_within ⟨Nat.le_of_ble_eq_true rfl, Nat.le_of_ble_eq_true rfl⟩) hP hD hS hA hK [] rfl rfl rfl rfl rfl rfl rfl rfl rfl hl.1 (Nat.le_of_ble_eq_true rfl) dX5_requireWithin_3 ⟨Nat.zero_le _, Nat.zero_le _⟩ (fun H locs hP hD hS => ?_)
  refine lv_if_ne (tgt := 19) hx hb dX5_requireWithin_6 (by decide) (fun hc => ?_) (fun hc => ?_)
  · have h := o_f h hc
    obtain rfl := o_s h
    rw [hQ]
    exact xend_v hx hb hr rfl hP hD hS dX5_requireWithin_19 hlocks (Nat.le_of_ble_eq_true rfl) (Nat.le_of_ble_eq_true rfl)
  · have h := o_t h hc
    obtain rfl := o_s h
    rw [hQ]
    exact x_throw (text := "an argument is out of range") hx hb hlf hown xf_41 xn_41 hw0 hw1 hX.2.2.2.2.2.2.2.2.1 hat41 xg_37_41 hZ hP hD hS (by rw [hml]; exact hl.1) dX5_requireWithin_9 dX5_requireWithin_12 dX5_requireWithin_13 dX5_requireWithin_15 dX5_requireWithin_18 hnx (Nat.le_of_ble_eq_true rfl) (Nat.le_of_ble_eq_true rfl) (Nat.le_of_ble_eq_true rfl) (Nat.le_of_ble_eq_true rfl) hlocks rfl (Nat.le_of_ble_eq_true rfl) (Nat.le_of_ble_eq_true rfl)
theorem hdX5_setSpeed : yX5_setSpeed.cls = RX5 ∧ yX5_setSpeed.cls ≠ "java/lang/invoke/MethodHandle" ∧ yX5_setSpeed.cls ≠ "java/lang/invoke/VarHandle" ∧ (parseMethodDescriptor yX5_setSpeed.desc).map (fun d => d.parameters.length) = some 2 := by decide +kernel
set_option maxHeartbeats 4000000 in
set_option maxRecDepth 100000 in
theorem cX5_setSpeed_ok (l : Launch) (hlf : l.stackTraces = false) (G : va_G) (cI cG : ClassId) (a : Nat → Nat) (fu : Nat) (g_ft : Tab) (g_er : Tab) (g_eb : Int32) (g_li : Tab) (g_st : Tab) (g_rd : Int32) (g_tu : Int32) (g_la : Int32) (g_dl : Bool) (g_sh : Int32) (g_tb : Int32) (z_ft : Tab) (z_er : Tab) (z_eb : Int32) (z_li : Tab) (z_st : Tab) (z_rd : Int32) (z_tu : Int32) (z_la : Int32) (z_dl : Bool) (z_sh : Int32) (z_tb : Int32) (yc : Int32) (yp : (Nat → Nat)) (yg : (Nat → GV)) (tx : Tab) (cm : Tab) (p1 : Int32) (p2 : Int32) (out : String ⊕ (Int32 × Tab × Int32 × (Nat → Nat) × (Nat → GV))) (hf : fX5_setSpeed fu g_ft g_er g_eb g_li g_st g_rd g_tu g_la g_dl g_sh g_tb yc yp yg p1 p2 = some out) : XI l G (tyz cI cG) yX5_setSpeed wsX5_setSpeed ({ frames := 7, cells := 2, slots := 12, locals := 145 } : Room) [.ref (a 0), .int p1, .int p2] (([[((a 0), .inr (8, [.ref (a 1), .ref (a 11), .ref (a 21), .ref (a 63)]))], wG cI (a 1) (a 2) (a 3) (a 4) (a 5) (a 6) (a 7) (a 8) (a 9) (a 10) g_ft g_er g_eb g_li g_st g_rd g_tu g_la g_dl g_sh g_tb, wG cI (a 11) (a 12) (a 13) (a 14) (a 15) (a 16) (a 17) (a 18) (a 19) (a 20) z_ft z_er z_eb z_li z_st z_rd z_tu z_la z_dl z_sh z_tb, wH cI cG (fun i => a (21 + i)) yc yp yg, wS cI (a 63) (a 64) (a 65) (a 66) (a 67) tx cm] : List va_W).flatten) out (fun u => u.1) ((fun u : Int32 × Tab × Int32 × (Nat → Nat) × (Nat → GV) => ([[((a 0), .inr (8, [.ref (a 1), .ref (a 11), .ref (a 21), .ref (a 63)]))], wG cI (a 1) (a 2) (a 3) (a 4) (a 5) (a 6) (a 7) (a 8) (a 9) (a 10) u.2.1 g_er g_eb g_li g_st g_rd g_tu g_la g_dl g_sh g_tb, wG cI (a 11) (a 12) (a 13) (a 14) (a 15) (a 16) (a 17) (a 18) (a 19) (a 20) z_ft z_er z_eb z_li z_st z_rd z_tu z_la z_dl z_sh z_tb, wH cI cG (fun i => a (21 + i)) u.2.2.1 u.2.2.2.1 u.2.2.2.2, wS cI (a 63) (a 64) (a 65) (a 66) (a 67) tx cm] : List va_W).flatten)) 2 12 := by
  intro sz
  refine vx_ofW (cc := cX5_setSpeed) (maxL := 3) (ret := (some .int)) (by decide) rfl ?_
  intro p e s m args below meth c s₁ B hml hnx hv
  obtain ⟨rfl, ⟨hsz, hP, hK, hD0⟩, hX, hZ⟩ := hv
  have hx := B.exec
  have hb := B.bytes
  have hr := B.returns
  have hts := atoms_spec (ws := wsX5_setSpeed) B.pre
  have hown : s.vm.findClass RX5 = some m.cls := findClass_of_methodNamed B.named
  have hlocks := B.notSynchronized
  subst hsz
  have hD := hD0.self (sz := s.heap.size)
  generalize hAe : va_A (([[((a 0), .inr (8, [.ref (a 1), .ref (a 11), .ref (a 21), .ref (a 63)]))], wG cI (a 1) (a 2) (a 3) (a 4) (a 5) (a 6) (a 7) (a 8) (a 9) (a 10) g_ft g_er g_eb g_li g_st g_rd g_tu g_la g_dl g_sh g_tb, wG cI (a 11) (a 12) (a 13) (a 14) (a 15) (a 16) (a 17) (a 18) (a 19) (a 20) z_ft z_er z_eb z_li z_st z_rd z_tu z_la z_dl z_sh z_tb, wH cI cG (fun i => a (21 + i)) yc yp yg, wS cI (a 63) (a 64) (a 65) (a 66) (a 67) tx cm] : List va_W).flatten) s.heap.size = A at hD hZ ⊢
  have hA : ∀ q : Nat, s.heap.size ≤ q → A q := fun q h => by rw [← hAe]; exact Or.inr h
  have hS : va_S A s.heap s.heap [] := va_S.rf
  have hw0 := hts (.fieldLink RX5 22 "SpeedTurns" "history" "LSpeedTurns$History;") (List.mem_of_getElem? (i := 1) rfl)
  have hin5 : ∀ w ∈ u_ws RX5 TX5 4, w ∈ wsX5_setSpeed := by decide +kernel
  have hw2 := hts (.fieldLink RX5 10 "SpeedTurns" "game" "LSpeedTurns$Game;") (List.mem_of_getElem? (i := 2) rfl)
  show W p l e ({ frames := 7, cells := 2, slots := 12, locals := 145 } : Room) s m _ below meth c s.heap [] 0 0 _ _
  refine W_genQ (fun Q hQ => ?_)
  have h := hf
  rw [fX5_setSpeed] at h
  have hl := lv_entry ([.ref (a 0), .int p1, .int p2]) (n := 3) (Nat.le_of_ble_eq_true rfl)
  rw [lg_entry_eq]
  generalize (lg_sl ([.ref (a 0), .int p1, .int p2]) ++ List.replicate (3 - (lg_sl ([.ref (a 0), .int p1, .int p2])).length) Slot.unset).toArray = ls at hl ⊢
  have hl : lv_has ls 3 [(0, .ref (a 0)), (1, .int p1), (2, .int p2)] := hl
  refine lv_aload_n hx hb dX5_setSpeed_0 rfl (lv_at hl 0 rfl) ?_
  refine lv_iload_n hx hb dX5_setSpeed_1 rfl (lv_at hl 1 rfl) ?_
  obtain ⟨x1, ex1, h⟩ := o_b h
  refine xcall_vV (As := [.int p1]) (rest := []) (c0 := [[((a 0), .inr (8, [.ref (a 1), .ref (a 11), .ref (a 21), .ref (a 63)]))], wG cI (a 1) (a 2) (a 3) (a 4) (a 5) (a 6) (a 7) (a 8) (a 9) (a 10) g_ft g_er g_eb g_li g_st g_rd g_tu g_la g_dl g_sh g_tb, wG cI (a 11) (a 12) (a 13) (a 14) (a 15) (a 16) (a 17) (a 18) (a 19) (a 20) z_ft z_er z_eb z_li z_st z_rd z_tu z_la z_dl z_sh z_tb, wH cI cG (fun i => a (21 + i)) yc yp yg, wS cI (a 63) (a 64) (a 65) (a 66) (a 67) tx cm]) ⟨hx, hb, hml, hown, hts⟩ (cX5_requireFighter_ok l hlf G cI cG a g_ft g_er g_eb g_li g_st g_rd g_tu g_la g_dl g_sh g_tb z_ft z_er z_eb z_li z_st z_rd z_tu z_la z_dl z_sh z_tb yc yp yg tx cm p1 x1 ex1) (cwV 1 hts gX5_setSpeed_X5_requireFighter rfl rfl rfl hdX5_requireFighter ⟨Nat.le_of_ble_eq_true rfl, Nat.le_of_ble_eq_true rfl⟩) hP hD hS hA hK hX hZ 8 rfl rfl rfl [0, 1, 2, 3, 4] rfl rfl rfl rfl rfl rfl rfl hl.1 (Nat.le_of_ble_eq_true rfl) dX5_setSpeed_2 ⟨Nat.le_of_ble_eq_true rfl, Nat.le_of_ble_eq_true rfl⟩ (fun E H locs ce q9 ho hP hD hS hcell hv hcl => ?_) (fun u H locs ho hP hD hS => ?_)
  · subst ho
    obtain rfl := o_e h
    rw [hQ]
    exact x_pass hP hD hS hnx hlocks hcell hv hcl rfl (Nat.le_of_ble_eq_true rfl) (Nat.le_of_ble_eq_true rfl)
  · subst ho
    have h := o_r h
    refine lv_iload_n hx hb dX5_setSpeed_5 rfl (lv_at hl 2 rfl) ?_
    refine lv_iconst (v := 1) hx hb dX5_setSpeed_6 (by decide) ?_
    refine lv_bipush (v := 30) hx hb dX5_setSpeed_7 (by decide) ?_
    obtain ⟨x2, ex2, h⟩ := o_b h
    refine xcall_vS (As := [.int p2, .int (1 : Int32), .int (30 : Int32)]) (rest := []) (c0 := []) ⟨hx, hb, hml, hown, hts⟩ (cX5_requireWithin_ok l hlf G cI cG p2 (1 : Int32) (30 : Int32) x2 ex2) (va_cwS 3 hts gX5_setSpeed_X5_requireWithin rfl rfl rfl hdX5_requireWithin ⟨Nat.le_of_ble_eq_true rfl, Nat.le_of_ble_eq_true rfl⟩) hP hD hS hA hK hX hZ [] rfl rfl rfl rfl rfl rfl rfl hl.1 (Nat.le_of_ble_eq_true rfl) dX5_setSpeed_9 ⟨Nat.le_of_ble_eq_true rfl, Nat.le_of_ble_eq_true rfl⟩ (fun E H locs ce q9 ho hP hD hS hcell hv hcl => ?_) (fun u H locs ho hP hD hS => ?_)
    · subst ho
      obtain rfl := o_e h
      rw [hQ]
      exact x_pass hP hD hS hnx hlocks hcell hv hcl rfl (Nat.le_of_ble_eq_true rfl) (Nat.le_of_ble_eq_true rfl)
    · subst ho
      have h := o_r h
      refine lv_aload_n hx hb dX5_setSpeed_12 rfl (lv_at hl 0 rfl) ?_
      refine va_get (D := G) (ci := 8) (v := .ref (a 21)) (C := RX5) (T := TX5) (N := 4) hx hb hts hin5 hown hK.1 hP 0 rfl rfl 2 (by decide) hw0 (fun _ h9 => h9) rfl dX5_setSpeed_13 ?_
      refine lv_aload_n hx hb dX5_setSpeed_16 rfl (lv_at hl 0 rfl) ?_
      refine va_get (D := G) (ci := 8) (v := .ref (a 1)) (C := RX5) (T := TX5) (N := 4) hx hb hts hin5 hown hK.1 hP 0 rfl rfl 0 (by decide) hw2 (fun _ h9 => h9) rfl dX5_setSpeed_17 ?_
      obtain ⟨x3, ex3, h⟩ := o_b h
      refine bcall_vV (As := [.ref (a 1)]) (rest := []) (c0 := [wH cI cG (fun i => a (21 + i)) yc yp yg, wG cI (a 1) (a 2) (a 3) (a 4) (a 5) (a 6) (a 7) (a 8) (a 9) (a 10) g_ft g_er g_eb g_li g_st g_rd g_tu g_la g_dl g_sh g_tb]) (c1 := [wH cI cG (fun i => a (21 + i)) x3.1 x3.2.1 x3.2.2, wG cI (a 1) (a 2) (a 3) (a 4) (a 5) (a 6) (a 7) (a 8) (a 9) (a 10) g_ft g_er g_eb g_li g_st g_rd g_tu g_la g_dl g_sh g_tb]) (bs2 := [[((a 0), .inr (8, [.ref (a 1), .ref (a 11), .ref (a 21), .ref (a 63)]))], wG cI (a 1) (a 2) (a 3) (a 4) (a 5) (a 6) (a 7) (a 8) (a 9) (a 10) g_ft g_er g_eb g_li g_st g_rd g_tu g_la g_dl g_sh g_tb, wG cI (a 11) (a 12) (a 13) (a 14) (a 15) (a 16) (a 17) (a 18) (a 19) (a 20) z_ft z_er z_eb z_li z_st z_rd z_tu z_la z_dl z_sh z_tb, wH cI cG (fun i => a (21 + i)) x3.1 x3.2.1 x3.2.2, wS cI (a 63) (a 64) (a 65) (a 66) (a 67) tx cm]) ⟨hx, hb, hml, hown, hts⟩ (cX2_save_ok l G cI cG (fun i => a (21 + i)) (a 1) (a 2) (a 3) (a 4) (a 5) (a 6) (a 7) (a 8) (a 9) (a 10) fu yc yp yg g_ft g_er g_eb g_li g_st g_rd g_tu g_la g_dl g_sh g_tb x3 ex3) (cwV 1 hts gX5_setSpeed_X2_save rfl rfl rfl hdX2_save ⟨Nat.le_of_ble_eq_true rfl, Nat.le_of_ble_eq_true rfl⟩) hP hD hS hA hK 5 rfl rfl rfl [3, 1] rfl rfl rfl rfl rfl rfl rfl rfl rfl hl.1 (Nat.le_of_ble_eq_true rfl) dX5_setSpeed_20 ⟨Nat.le_of_ble_eq_true rfl, Nat.le_of_ble_eq_true rfl⟩ (fun H locs hP hD hS => ?_)
      refine lv_aload_n hx hb dX5_setSpeed_23 rfl (lv_at hl 0 rfl) ?_
      refine va_get (D := G) (ci := 8) (v := .ref (a 1)) (C := RX5) (T := TX5) (N := 4) hx hb hts hin5 hown hK.1 hP 0 rfl rfl 0 (by decide) hw2 (fun _ h9 => h9) rfl dX5_setSpeed_24 ?_
      refine lv_iload_n hx hb dX5_setSpeed_27 rfl (lv_at hl 1 rfl) ?_
      refine lv_iload_n hx hb dX5_setSpeed_28 rfl (lv_at hl 2 rfl) ?_
      obtain ⟨x4, ex4, h⟩ := o_b h
      refine bcall_iV (As := [.int p1, .int p2]) (rest := []) (c0 := [wG cI (a 1) (a 2) (a 3) (a 4) (a 5) (a 6) (a 7) (a 8) (a 9) (a 10) g_ft g_er g_eb g_li g_st g_rd g_tu g_la g_dl g_sh g_tb]) (c1 := [wG cI (a 1) (a 2) (a 3) (a 4) (a 5) (a 6) (a 7) (a 8) (a 9) (a 10) x4.2 g_er g_eb g_li g_st g_rd g_tu g_la g_dl g_sh g_tb]) (bs2 := [[((a 0), .inr (8, [.ref (a 1), .ref (a 11), .ref (a 21), .ref (a 63)]))], wG cI (a 1) (a 2) (a 3) (a 4) (a 5) (a 6) (a 7) (a 8) (a 9) (a 10) x4.2 g_er g_eb g_li g_st g_rd g_tu g_la g_dl g_sh g_tb, wG cI (a 11) (a 12) (a 13) (a 14) (a 15) (a 16) (a 17) (a 18) (a 19) (a 20) z_ft z_er z_eb z_li z_st z_rd z_tu z_la z_dl z_sh z_tb, wH cI cG (fun i => a (21 + i)) x3.1 x3.2.1 x3.2.2, wS cI (a 63) (a 64) (a 65) (a 66) (a 67) tx cm]) ⟨hx, hb, hml, hown, hts⟩ (cX1_changeSpeed_ok l G cI cG (a 1) (a 2) (a 3) (a 4) (a 5) (a 6) (a 7) (a 8) (a 9) (a 10) g_ft g_er g_eb g_li g_st g_rd g_tu g_la g_dl g_sh g_tb p1 p2 x4 ex4) (cwV 2 hts gX5_setSpeed_X1_changeSpeed rfl rfl rfl hdX1_changeSpeed ⟨Nat.le_of_ble_eq_true rfl, Nat.le_of_ble_eq_true rfl⟩) hP hD hS hA hK 4 rfl rfl rfl [1] rfl rfl rfl rfl rfl rfl rfl rfl rfl hl.1 (Nat.le_of_ble_eq_true rfl) dX5_setSpeed_29 ⟨Nat.le_of_ble_eq_true rfl, Nat.le_of_ble_eq_true rfl⟩ (fun H locs hP hD hS => ?_)
      obtain rfl := o_s h
      rw [hQ]
      exact xend_i hx hb hr rfl rfl hP hD hS dX5_setSpeed_32 hlocks (Nat.le_of_ble_eq_true rfl) (Nat.le_of_ble_eq_true rfl)
