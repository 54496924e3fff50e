theorem hdX5_add : yX5_add.cls = RX5 ∧ yX5_add.cls ≠ "java/lang/invoke/MethodHandle" ∧ yX5_add.cls ≠ "java/lang/invoke/VarHandle" ∧ (parseMethodDescriptor yX5_add.desc).map (fun d => d.parameters.length) = some 2 := by decide +kernel
set_option maxHeartbeats 4000000 in
set_option maxRecDepth 100000 in
theorem cX5_add_ok (l : Launch) (G : va_G) (cI cG : ClassId) (a : Nat → Nat) (fu : Nat) (g_ft : Tab) (g_er : Tab) (g_eb : Int32) (g_li : Tab) (g_st : Tab) (g_rd : Int32) (g_tu : Int32) (g_la : Int32) (g_dl : Bool) (g_sh : Int32) (g_tb : Int32) (z_ft : Tab) (z_er : Tab) (z_eb : Int32) (z_li : Tab) (z_st : Tab) (z_rd : Int32) (z_tu : Int32) (z_la : Int32) (z_dl : Bool) (z_sh : Int32) (z_tb : Int32) (yc : Int32) (yp : (Nat → Nat)) (yg : (Nat → GV)) (tx : Tab) (cm : Tab) (p1 : Int32) (p2 : Int32) (out : Int32 × Tab × Int32 × (Nat → Nat) × (Nat → GV)) (hf : fX5_add fu g_ft g_er g_eb g_li g_st g_rd g_tu g_la g_dl g_sh g_tb yc yp yg p1 p2 = some out) : CI l G (tyz cI cG) yX5_add wsX5_add ({ frames := 5, cells := 0, slots := 0, locals := 145 } : Room) [.ref (a 0), .int p1, .int p2] (([[((a 0), .inr (5, [.ref (a 1), .ref (a 11), .ref (a 21), .ref (a 63)]))], wG cI (a 1) (a 2) (a 3) (a 4) (a 5) (a 6) (a 7) (a 8) (a 9) (a 10) g_ft g_er g_eb g_li g_st g_rd g_tu g_la g_dl g_sh g_tb, wG cI (a 11) (a 12) (a 13) (a 14) (a 15) (a 16) (a 17) (a 18) (a 19) (a 20) z_ft z_er z_eb z_li z_st z_rd z_tu z_la z_dl z_sh z_tb, wH cI cG (fun i => a (21 + i)) yc yp yg, wS cI (a 63) (a 64) (a 65) (a 66) (a 67) tx cm] : List va_W).flatten) out.1 (([[((a 0), .inr (5, [.ref (a 1), .ref (a 11), .ref (a 21), .ref (a 63)]))], wG cI (a 1) (a 2) (a 3) (a 4) (a 5) (a 6) (a 7) (a 8) (a 9) (a 10) out.2.1 g_er g_eb g_li g_st g_rd g_tu g_la g_dl g_sh g_tb, wG cI (a 11) (a 12) (a 13) (a 14) (a 15) (a 16) (a 17) (a 18) (a 19) (a 20) z_ft z_er z_eb z_li z_st z_rd z_tu z_la z_dl z_sh z_tb, wH cI cG (fun i => a (21 + i)) out.2.2.1 out.2.2.2.1 out.2.2.2.2, wS cI (a 63) (a 64) (a 65) (a 66) (a 67) tx cm] : List va_W).flatten) := by
  intro sz
  refine Met.ofW (cc := cX5_add) (maxL := 3) (ret := (some .int)) (by decide) rfl ?_
  intro p e s m args below meth c s₁ B hml hv
  obtain ⟨rfl, hsz, hP, hK, hD0⟩ := hv
  have hx := B.exec
  have hb := B.bytes
  have hr := B.returns
  have hts := atoms_spec (ws := wsX5_add) B.pre
  have hown : s.vm.findClass RX5 = some m.cls := findClass_of_methodNamed B.named
  have hlocks := B.notSynchronized
  subst hsz
  have hD := hD0.self (sz := s.heap.size)
  generalize hAe : va_A (([[((a 0), .inr (5, [.ref (a 1), .ref (a 11), .ref (a 21), .ref (a 63)]))], wG cI (a 1) (a 2) (a 3) (a 4) (a 5) (a 6) (a 7) (a 8) (a 9) (a 10) g_ft g_er g_eb g_li g_st g_rd g_tu g_la g_dl g_sh g_tb, wG cI (a 11) (a 12) (a 13) (a 14) (a 15) (a 16) (a 17) (a 18) (a 19) (a 20) z_ft z_er z_eb z_li z_st z_rd z_tu z_la z_dl z_sh z_tb, wH cI cG (fun i => a (21 + i)) yc yp yg, wS cI (a 63) (a 64) (a 65) (a 66) (a 67) tx cm] : List va_W).flatten) s.heap.size = A at hD ⊢
  have hA : ∀ q : Nat, s.heap.size ≤ q → A q := fun q h => by rw [← hAe]; exact Or.inr h
  have hS : va_S A s.heap s.heap [] := va_S.rf
  have hw0 := hts (.fieldLink RX5 10 "SpeedTurns" "game" "LSpeedTurns$Game;") (List.mem_of_getElem? (i := 4) rfl)
  have hw1 := hts (.fieldLink RX5 22 "SpeedTurns" "history" "LSpeedTurns$History;") (List.mem_of_getElem? (i := 9) rfl)
  show W p l e ({ frames := 5, cells := 0, slots := 0, locals := 145 } : Room) s m _ below meth c s.heap [] 0 0 _ _
  refine W_genQ (fun Q hQ => ?_)
  have h := hf
  rw [fX5_add] at h
  have hl := lv_entry ([.ref (a 0), .int p1, .int p2]) (n := 3) (Nat.le_of_ble_eq_true rfl)
  rw [lg_entry_eq]
  generalize (lg_sl ([.ref (a 0), .int p1, .int p2]) ++ List.replicate (3 - (lg_sl ([.ref (a 0), .int p1, .int p2])).length) Slot.unset).toArray = ls at hl ⊢
  have hl : lv_has ls 3 [(0, .ref (a 0)), (1, .int p1), (2, .int p2)] := hl
  refine lv_iload_n hx hb dX5_add_0 rfl (lv_at hl 1 rfl) ?_
  refine lv_iconst (v := 1) hx hb dX5_add_1 (by decide) ?_
  refine lv_bipush (v := 30) hx hb dX5_add_2 (by decide) ?_
  obtain ⟨x1, ex1, h⟩ := o_b h
  refine bcall_iS (As := [.int p1, .int (1 : Int32), .int (30 : Int32)]) (rest := []) (c0 := []) (c1 := []) (bs2 := [[((a 0), .inr (5, [.ref (a 1), .ref (a 11), .ref (a 21), .ref (a 63)]))], wG cI (a 1) (a 2) (a 3) (a 4) (a 5) (a 6) (a 7) (a 8) (a 9) (a 10) g_ft g_er g_eb g_li g_st g_rd g_tu g_la g_dl g_sh g_tb, wG cI (a 11) (a 12) (a 13) (a 14) (a 15) (a 16) (a 17) (a 18) (a 19) (a 20) z_ft z_er z_eb z_li z_st z_rd z_tu z_la z_dl z_sh z_tb, wH cI cG (fun i => a (21 + i)) yc yp yg, wS cI (a 63) (a 64) (a 65) (a 66) (a 67) tx cm]) ⟨hx, hb, hml, hown, hts⟩ (cX5_within_ok l G cI cG p1 (1 : Int32) (30 : Int32) x1 ex1) (va_cwS 3 hts gX5_add_X5_within_33 rfl rfl rfl hdX5_within ⟨Nat.le_of_ble_eq_true rfl, Nat.le_of_ble_eq_true rfl⟩) hP hD hS hA hK [] rfl rfl rfl rfl rfl rfl rfl rfl rfl hl.1 (Nat.le_of_ble_eq_true rfl) dX5_add_4 ⟨Nat.zero_le _, Nat.zero_le _⟩ (fun H locs hP hD hS => ?_)
  refine lv_if_eq (tgt := 21) hx hb dX5_add_7 (by decide) (fun hc => ?_) (fun hc => ?_)
  · have h := o_t h hc
    exact o_n h
  · have h := o_f h hc
    refine lv_iload_n hx hb dX5_add_10 rfl (lv_at hl 2 rfl) ?_
    refine lv_iconst (v := 1) hx hb dX5_add_11 (by decide) ?_
    refine lv_sipush (v := 200) hx hb dX5_add_12 (by decide) ?_
    obtain ⟨x2, ex2, h⟩ := o_b h
    refine bcall_iS (As := [.int p2, .int (1 : Int32), .int (200 : Int32)]) (rest := []) (c0 := []) (c1 := []) (bs2 := [[((a 0), .inr (5, [.ref (a 1), .ref (a 11), .ref (a 21), .ref (a 63)]))], wG cI (a 1) (a 2) (a 3) (a 4) (a 5) (a 6) (a 7) (a 8) (a 9) (a 10) g_ft g_er g_eb g_li g_st g_rd g_tu g_la g_dl g_sh g_tb, wG cI (a 11) (a 12) (a 13) (a 14) (a 15) (a 16) (a 17) (a 18) (a 19) (a 20) z_ft z_er z_eb z_li z_st z_rd z_tu z_la z_dl z_sh z_tb, wH cI cG (fun i => a (21 + i)) yc yp yg, wS cI (a 63) (a 64) (a 65) (a 66) (a 67) tx cm]) ⟨hx, hb, hml, hown, hts⟩ (cX5_within_ok l G cI cG p2 (1 : Int32) (200 : Int32) x2 ex2) (va_cwS 3 hts gX5_add_X5_within_33 rfl rfl rfl hdX5_within ⟨Nat.le_of_ble_eq_true rfl, Nat.le_of_ble_eq_true rfl⟩) hP hD hS hA hK [] rfl rfl rfl rfl rfl rfl rfl rfl rfl hl.1 (Nat.le_of_ble_eq_true rfl) dX5_add_15 ⟨Nat.zero_le _, Nat.zero_le _⟩ (fun H locs hP hD hS => ?_)
    refine lv_if_ne (tgt := 31) hx hb dX5_add_18 (by decide) (fun hc => ?_) (fun hc => ?_)
    · have h := o_f h hc
      refine lv_aload_n hx hb dX5_add_31 rfl (lv_at hl 0 rfl) ?_
      refine va_get (D := G) (ci := 5) (v := .ref (a 1)) (C := RX5) (T := TX5) (N := 4) hx hb hts huX5_add_X5 hown hK.1 hP 0 rfl rfl 0 (by decide) hw0 (fun _ h9 => h9) rfl dX5_add_32 ?_
      obtain ⟨x3, ex3, h⟩ := o_b h
      refine bcall_iV (As := []) (rest := []) (c0 := [wG cI (a 1) (a 2) (a 3) (a 4) (a 5) (a 6) (a 7) (a 8) (a 9) (a 10) g_ft g_er g_eb g_li g_st g_rd g_tu g_la g_dl g_sh g_tb]) (c1 := [wG cI (a 1) (a 2) (a 3) (a 4) (a 5) (a 6) (a 7) (a 8) (a 9) (a 10) g_ft g_er g_eb g_li g_st g_rd g_tu g_la g_dl g_sh g_tb]) (bs2 := [[((a 0), .inr (5, [.ref (a 1), .ref (a 11), .ref (a 21), .ref (a 63)]))], wG cI (a 1) (a 2) (a 3) (a 4) (a 5) (a 6) (a 7) (a 8) (a 9) (a 10) g_ft g_er g_eb g_li g_st g_rd g_tu g_la g_dl g_sh g_tb, wG cI (a 11) (a 12) (a 13) (a 14) (a 15) (a 16) (a 17) (a 18) (a 19) (a 20) z_ft z_er z_eb z_li z_st z_rd z_tu z_la z_dl z_sh z_tb, wH cI cG (fun i => a (21 + i)) yc yp yg, wS cI (a 63) (a 64) (a 65) (a 66) (a 67) tx cm]) ⟨hx, hb, hml, hown, hts⟩ (cX1_fighterCount_ok l G cI cG (a 1) (a 2) (a 3) (a 4) (a 5) (a 6) (a 7) (a 8) (a 9) (a 10) g_ft g_er g_eb g_li g_st g_rd g_tu g_la g_dl g_sh g_tb x3 ex3) (cwV 0 hts gX5_add_X1_fighterCount_44 rfl rfl rfl hdX1_fighterCount ⟨Nat.le_of_ble_eq_true rfl, Nat.le_of_ble_eq_true rfl⟩) hP hD hS hA hK 1 rfl rfl rfl [1] rfl rfl rfl rfl rfl rfl rfl rfl rfl hl.1 (Nat.le_of_ble_eq_true rfl) dX5_add_35 ⟨Nat.zero_le _, Nat.zero_le _⟩ (fun H locs hP hD hS => ?_)
      refine lv_bipush (v := 10) hx hb dX5_add_38 (by decide) ?_
      refine lv_icmp_lt (tgt := 53) hx hb dX5_add_40 (by decide) (fun hc => ?_) (fun hc => ?_)
      · have h := o_t h hc
        refine lv_aload_n hx hb dX5_add_53 rfl (lv_at hl 0 rfl) ?_
        refine va_get (D := G) (ci := 5) (v := .ref (a 21)) (C := RX5) (T := TX5) (N := 4) hx hb hts huX5_add_X5 hown hK.1 hP 0 rfl rfl 2 (by decide) hw1 (fun _ h9 => h9) rfl dX5_add_54 ?_
        refine lv_aload_n hx hb dX5_add_57 rfl (lv_at hl 0 rfl) ?_
        refine va_get (D := G) (ci := 5) (v := .ref (a 1)) (C := RX5) (T := TX5) (N := 4) hx hb hts huX5_add_X5 hown hK.1 hP 0 rfl rfl 0 (by decide) hw0 (fun _ h9 => h9) rfl dX5_add_58 ?_
        obtain ⟨x4, ex4, h⟩ := o_b h
        refine bcall_vV (As := [.ref (a 1)]) (rest := []) (c0 := [wH cI cG (fun i => a (21 + i)) yc yp yg, wG cI (a 1) (a 2) (a 3) (a 4) (a 5) (a 6) (a 7) (a 8) (a 9) (a 10) g_ft g_er g_eb g_li g_st g_rd g_tu g_la g_dl g_sh g_tb]) (c1 := [wH cI cG (fun i => a (21 + i)) x4.1 x4.2.1 x4.2.2, wG cI (a 1) (a 2) (a 3) (a 4) (a 5) (a 6) (a 7) (a 8) (a 9) (a 10) g_ft g_er g_eb g_li g_st g_rd g_tu g_la g_dl g_sh g_tb]) (bs2 := [[((a 0), .inr (5, [.ref (a 1), .ref (a 11), .ref (a 21), .ref (a 63)]))], wG cI (a 1) (a 2) (a 3) (a 4) (a 5) (a 6) (a 7) (a 8) (a 9) (a 10) g_ft g_er g_eb g_li g_st g_rd g_tu g_la g_dl g_sh g_tb, wG cI (a 11) (a 12) (a 13) (a 14) (a 15) (a 16) (a 17) (a 18) (a 19) (a 20) z_ft z_er z_eb z_li z_st z_rd z_tu z_la z_dl z_sh z_tb, wH cI cG (fun i => a (21 + i)) x4.1 x4.2.1 x4.2.2, wS cI (a 63) (a 64) (a 65) (a 66) (a 67) tx cm]) ⟨hx, hb, hml, hown, hts⟩ (cX2_save_ok l G cI cG (fun i => a (21 + i)) (a 1) (a 2) (a 3) (a 4) (a 5) (a 6) (a 7) (a 8) (a 9) (a 10) fu yc yp yg g_ft g_er g_eb g_li g_st g_rd g_tu g_la g_dl g_sh g_tb x4 ex4) (cwV 1 hts gX5_add_X2_save_53 rfl rfl rfl hdX2_save ⟨Nat.le_of_ble_eq_true rfl, Nat.le_of_ble_eq_true rfl⟩) hP hD hS hA hK 2 rfl rfl rfl [3, 1] rfl rfl rfl rfl rfl rfl rfl rfl rfl hl.1 (Nat.le_of_ble_eq_true rfl) dX5_add_61 ⟨Nat.zero_le _, Nat.zero_le _⟩ (fun H locs hP hD hS => ?_)
        refine lv_aload_n hx hb dX5_add_64 rfl (lv_at hl 0 rfl) ?_
        refine va_get (D := G) (ci := 5) (v := .ref (a 1)) (C := RX5) (T := TX5) (N := 4) hx hb hts huX5_add_X5 hown hK.1 hP 0 rfl rfl 0 (by decide) hw0 (fun _ h9 => h9) rfl dX5_add_65 ?_
        refine lv_iload_n hx hb dX5_add_68 rfl (lv_at hl 1 rfl) ?_
        refine lv_iload_n hx hb dX5_add_69 rfl (lv_at hl 2 rfl) ?_
        obtain ⟨x5, ex5, h⟩ := o_b h
        refine bcall_iV (As := [.int p1, .int p2]) (rest := []) (c0 := [wG cI (a 1) (a 2) (a 3) (a 4) (a 5) (a 6) (a 7) (a 8) (a 9) (a 10) g_ft g_er g_eb g_li g_st g_rd g_tu g_la g_dl g_sh g_tb]) (c1 := [wG cI (a 1) (a 2) (a 3) (a 4) (a 5) (a 6) (a 7) (a 8) (a 9) (a 10) x5.2 g_er g_eb g_li g_st g_rd g_tu g_la g_dl g_sh g_tb]) (bs2 := [[((a 0), .inr (5, [.ref (a 1), .ref (a 11), .ref (a 21), .ref (a 63)]))], wG cI (a 1) (a 2) (a 3) (a 4) (a 5) (a 6) (a 7) (a 8) (a 9) (a 10) x5.2 g_er g_eb g_li g_st g_rd g_tu g_la g_dl g_sh g_tb, wG cI (a 11) (a 12) (a 13) (a 14) (a 15) (a 16) (a 17) (a 18) (a 19) (a 20) z_ft z_er z_eb z_li z_st z_rd z_tu z_la z_dl z_sh z_tb, wH cI cG (fun i => a (21 + i)) x4.1 x4.2.1 x4.2.2, wS cI (a 63) (a 64) (a 65) (a 66) (a 67) tx cm]) ⟨hx, hb, hml, hown, hts⟩ (cX1_join_ok l G cI cG (a 1) (a 2) (a 3) (a 4) (a 5) (a 6) (a 7) (a 8) (a 9) (a 10) fu g_ft g_er g_eb g_li g_st g_rd g_tu g_la g_dl g_sh g_tb p1 p2 x5 ex5) (cwV 2 hts gX5_add_X1_join_57 rfl rfl rfl hdX1_join ⟨Nat.le_of_ble_eq_true rfl, Nat.le_of_ble_eq_true rfl⟩) hP hD hS hA hK 1 rfl rfl rfl [1] rfl rfl rfl rfl rfl rfl rfl rfl rfl hl.1 (Nat.le_of_ble_eq_true rfl) dX5_add_70 ⟨Nat.zero_le _, Nat.zero_le _⟩ (fun H locs hP hD hS => ?_)
        obtain rfl := o_s h
        rw [hQ]
        exact end_i hx hb hr rfl hP hD hS dX5_add_73 hlocks
      · have h := o_f h hc
        exact o_n h
    · have h := o_t h hc
      exact o_n h
theorem hdX5_requireFighter : yX5_requireFighter.cls = RX5 ∧ yX5_requireFighter.cls ≠ "java/lang/invoke/MethodHandle" ∧ yX5_requireFighter.cls ≠ "java/lang/invoke/VarHandle" ∧ (parseMethodDescriptor yX5_requireFighter.desc).map (fun d => d.parameters.length) = some 1 := by decide +kernel
set_option maxHeartbeats 4000000 in
set_option maxRecDepth 100000 in
theorem cX5_requireFighter_ok (l : Launch) (G : va_G) (cI cG : ClassId) (a : Nat → Nat) (g_ft : Tab) (g_er : Tab) (g_eb : Int32) (g_li : Tab) (g_st : Tab) (g_rd : Int32) (g_tu : Int32) (g_la : Int32) (g_dl : Bool) (g_sh : Int32) (g_tb : Int32) (z_ft : Tab) (z_er : Tab) (z_eb : Int32) (z_li : Tab) (z_st : Tab) (z_rd : Int32) (z_tu : Int32) (z_la : Int32) (z_dl : Bool) (z_sh : Int32) (z_tb : Int32) (yc : Int32) (yp : (Nat → Nat)) (yg : (Nat → GV)) (tx : Tab) (cm : Tab) (p1 : Int32) (out : Unit) (hf : fX5_requireFighter g_ft p1 = some out) : CV l G (tyz cI cG) yX5_requireFighter wsX5_requireFighter ({ frames := 2, cells := 0, slots := 0, locals := 41 } : Room) [.ref (a 0), .int p1] (([[((a 0), .inr (5, [.ref (a 1), .ref (a 11), .ref (a 21), .ref (a 63)]))], wG cI (a 1) (a 2) (a 3) (a 4) (a 5) (a 6) (a 7) (a 8) (a 9) (a 10) g_ft g_er g_eb g_li g_st g_rd g_tu g_la g_dl g_sh g_tb, wG cI (a 11) (a 12) (a 13) (a 14) (a 15) (a 16) (a 17) (a 18) (a 19) (a 20) z_ft z_er z_eb z_li z_st z_rd z_tu z_la z_dl z_sh z_tb, wH cI cG (fun i => a (21 + i)) yc yp yg, wS cI (a 63) (a 64) (a 65) (a 66) (a 67) tx cm] : List va_W).flatten) (([[((a 0), .inr (5, [.ref (a 1), .ref (a 11), .ref (a 21), .ref (a 63)]))], wG cI (a 1) (a 2) (a 3) (a 4) (a 5) (a 6) (a 7) (a 8) (a 9) (a 10) g_ft g_er g_eb g_li g_st g_rd g_tu g_la g_dl g_sh g_tb, wG cI (a 11) (a 12) (a 13) (a 14) (a 15) (a 16) (a 17) (a 18) (a 19) (a 20) z_ft z_er z_eb z_li z_st z_rd z_tu z_la z_dl z_sh z_tb, wH cI cG (fun i => a (21 + i)) yc yp yg, wS cI (a 63) (a 64) (a 65) (a 66) (a 67) tx cm] : List va_W).flatten) := by
  intro sz
  refine Met.ofW (cc := cX5_requireFighter) (maxL := 2) (ret := none) (by decide) rfl ?_
  intro p e s m args below meth c s₁ B hml hv
  obtain ⟨rfl, hsz, hP, hK, hD0⟩ := hv
  have hx := B.exec
  have hb := B.bytes
  have hr := B.returns
  have hts := atoms_spec (ws := wsX5_requireFighter) B.pre
  have hown : s.vm.findClass RX5 = some m.cls := findClass_of_methodNamed B.named
  have hlocks := B.notSynchronized
  subst hsz
  have hD := hD0.self (sz := s.heap.size)
  generalize hAe : va_A (([[((a 0), .inr (5, [.ref (a 1), .ref (a 11), .ref (a 21), .ref (a 63)]))], wG cI (a 1) (a 2) (a 3) (a 4) (a 5) (a 6) (a 7) (a 8) (a 9) (a 10) g_ft g_er g_eb g_li g_st g_rd g_tu g_la g_dl g_sh g_tb, wG cI (a 11) (a 12) (a 13) (a 14) (a 15) (a 16) (a 17) (a 18) (a 19) (a 20) z_ft z_er z_eb z_li z_st z_rd z_tu z_la z_dl z_sh z_tb, wH cI cG (fun i => a (21 + i)) yc yp yg, wS cI (a 63) (a 64) (a 65) (a 66) (a 67) tx cm] : List va_W).flatten) s.heap.size = A at hD ⊢
  have hA : ∀ q : Nat, s.heap.size ≤ q → A q := fun q h => by rw [← hAe]; exact Or.inr h
  have hS : va_S A s.heap s.heap [] := va_S.rf
  have hw0 := hts (.fieldLink RX5 10 "SpeedTurns" "game" "LSpeedTurns$Game;") (List.mem_of_getElem? (i := 1) rfl)
  show W p l e ({ frames := 2, cells := 0, slots := 0, locals := 41 } : Room) s m _ below meth c s.heap [] 0 0 _ _
  refine W_genQ (fun Q hQ => ?_)
  have h := hf
  rw [fX5_requireFighter] at h
  have hl := lv_entry ([.ref (a 0), .int p1]) (n := 2) (Nat.le_of_ble_eq_true rfl)
  rw [lg_entry_eq]
  generalize (lg_sl ([.ref (a 0), .int p1]) ++ List.replicate (2 - (lg_sl ([.ref (a 0), .int p1])).length) Slot.unset).toArray = ls at hl ⊢
  have hl : lv_has ls 2 [(0, .ref (a 0)), (1, .int p1)] := hl
  refine lv_aload_n hx hb dX5_requireFighter_0 rfl (lv_at hl 0 rfl) ?_
  refine va_get (D := G) (ci := 5) (v := .ref (a 1)) (C := RX5) (T := TX5) (N := 4) hx hb hts huX5_requireFighter_X5 hown hK.1 hP 0 rfl rfl 0 (by decide) hw0 (fun _ h9 => h9) rfl dX5_requireFighter_1 ?_
  refine lv_iload_n hx hb dX5_requireFighter_4 rfl (lv_at hl 1 rfl) ?_
  obtain ⟨x1, ex1, h⟩ := o_b h
  refine bcall_iV (As := [.int p1]) (rest := []) (c0 := [wG cI (a 1) (a 2) (a 3) (a 4) (a 5) (a 6) (a 7) (a 8) (a 9) (a 10) g_ft g_er g_eb g_li g_st g_rd g_tu g_la g_dl g_sh g_tb]) (c1 := [wG cI (a 1) (a 2) (a 3) (a 4) (a 5) (a 6) (a 7) (a 8) (a 9) (a 10) g_ft g_er g_eb g_li g_st g_rd g_tu g_la g_dl g_sh g_tb]) (bs2 := [[((a 0), .inr (5, [.ref (a 1), .ref (a 11), .ref (a 21), .ref (a 63)]))], wG cI (a 1) (a 2) (a 3) (a 4) (a 5) (a 6) (a 7) (a 8) (a 9) (a 10) g_ft g_er g_eb g_li g_st g_rd g_tu g_la g_dl g_sh g_tb, wG cI (a 11) (a 12) (a 13) (a 14) (a 15) (a 16) (a 17) (a 18) (a 19) (a 20) z_ft z_er z_eb z_li z_st z_rd z_tu z_la z_dl z_sh z_tb, wH cI cG (fun i => a (21 + i)) yc yp yg, wS cI (a 63) (a 64) (a 65) (a 66) (a 67) tx cm]) ⟨hx, hb, hml, hown, hts⟩ (cX1_isFighter_ok l G cI cG (a 1) (a 2) (a 3) (a 4) (a 5) (a 6) (a 7) (a 8) (a 9) (a 10) g_ft g_er g_eb g_li g_st g_rd g_tu g_la g_dl g_sh g_tb p1 x1 ex1) (cwV 1 hts gX5_requireFighter_X1_isFighter_219 rfl rfl rfl hdX1_isFighter ⟨Nat.le_of_ble_eq_true rfl, Nat.le_of_ble_eq_true rfl⟩) hP hD hS hA hK 1 rfl rfl rfl [1] rfl rfl rfl rfl rfl rfl rfl rfl rfl hl.1 (Nat.le_of_ble_eq_true rfl) dX5_requireFighter_5 ⟨Nat.zero_le _, Nat.zero_le _⟩ (fun H locs hP hD hS => ?_)
  refine lv_if_ne (tgt := 21) hx hb dX5_requireFighter_8 (by decide) (fun hc => ?_) (fun hc => ?_)
  · have h := o_f h hc
    obtain rfl := o_s h
    rw [hQ]
    exact end_v hx hb hr hP hD hS dX5_requireFighter_21 hlocks
  · have h := o_t h hc
    exact o_n h
theorem hdX5_requireWithin : yX5_requireWithin.cls ≠ "java/lang/invoke/MethodHandle" ∧ yX5_requireWithin.cls ≠ "java/lang/invoke/VarHandle" ∧ (parseMethodDescriptor yX5_requireWithin.desc).map (fun d => d.parameters.length) = some 3 := by decide +kernel
set_option maxHeartbeats 4000000 in
set_option maxRecDepth 100000 in
theorem cX5_requireWithin_ok (l : Launch) (G : va_G) (cI cG : ClassId) (p0 : Int32) (p1 : Int32) (p2 : Int32) (out : Unit) (hf : fX5_requireWithin p0 p1 p2 = some out) : CV l G (tyz cI cG) yX5_requireWithin wsX5_requireWithin ({ frames := 1, cells := 0, slots := 0, locals := 22 } : Room) [.int p0, .int p1, .int p2] (([] : List va_W).flatten) (([] : List va_W).flatten) := by
  intro sz
  refine Met.ofW (cc := cX5_requireWithin) (maxL := 3) (ret := none) (by decide) rfl ?_
  intro p e s m args below meth c s₁ B hml hv
  obtain ⟨rfl, hsz, hP, hK, hD0⟩ := hv
  have hx := B.exec
  have hb := B.bytes
  have hr := B.returns
  have hts := atoms_spec (ws := wsX5_requireWithin) B.pre
  have hown : s.vm.findClass RX5 = some m.cls := findClass_of_methodNamed B.named
  have hlocks := B.notSynchronized
  subst hsz
  have hD := hD0.self (sz := s.heap.size)
  generalize hAe : va_A (([] : List va_W).flatten) s.heap.size = A at hD ⊢
  have hA : ∀ q : Nat, s.heap.size ≤ q → A q := fun q h => by rw [← hAe]; exact Or.inr h
  have hS : va_S A s.heap s.heap [] := va_S.rf
  show W p l e ({ frames := 1, cells := 0, slots := 0, locals := 22 } : Room) s m _ below meth c s.heap [] 0 0 _ _
  refine W_genQ (fun Q hQ => ?_)
  have h := hf
  rw [fX5_requireWithin] at h
  have hl := lv_entry ([.int p0, .int p1, .int p2]) (n := 3) (Nat.le_of_ble_eq_true rfl)
  rw [lg_entry_eq]
  generalize (lg_sl ([.int p0, .int p1, .int p2]) ++ List.replicate (3 - (lg_sl ([.int p0, .int p1, .int p2])).length) Slot.unset).toArray = ls at hl ⊢
  have hl : lv_has ls 3 [(0, .int p0), (1, .int p1), (2, .int p2)] := hl
  refine lv_iload_n hx hb dX5_requireWithin_0 rfl (lv_at hl 0 rfl) ?_
  refine lv_iload_n hx hb dX5_requireWithin_1 rfl (lv_at hl 1 rfl) ?_
  refine lv_iload_n hx hb dX5_requireWithin_2 rfl (lv_at hl 2 rfl) ?_
  obtain ⟨x1, ex1, h⟩ := o_b h
  refine bcall_iS (As := [.int p0, .int p1, .int p2]) (rest := []) (c0 := []) (c1 := []) (bs2 := []) ⟨hx, hb, hml, hown, hts⟩ (cX5_within_ok l G cI cG p0 p1 p2 x1 ex1) (va_cwS 3 hts gX5_requireWithin_X5_within_33 rfl rfl rfl hdX5_within ⟨Nat.le_of_ble_eq_true rfl, Nat.le_of_ble_eq_true rfl⟩) hP hD hS hA hK [] rfl rfl rfl rfl rfl rfl rfl rfl rfl hl.1 (Nat.le_of_ble_eq_true rfl) dX5_requireWithin_3 ⟨Nat.zero_le _, Nat.zero_le _⟩ (fun H locs hP hD hS => ?_)
  refine lv_if_ne (tgt := 19) hx hb dX5_requireWithin_6 (by decide) (fun hc => ?_) (fun hc => ?_)
  · have h := o_f h hc
    obtain rfl := o_s h
    rw [hQ]
    exact end_v hx hb hr hP hD hS dX5_requireWithin_19 hlocks
  · have h := o_t h hc
    exact o_n h
theorem hdX5_setSpeed : yX5_setSpeed.cls = RX5 ∧ yX5_setSpeed.cls ≠ "java/lang/invoke/MethodHandle" ∧ yX5_setSpeed.cls ≠ "java/lang/invoke/VarHandle" ∧ (parseMethodDescriptor yX5_setSpeed.desc).map (fun d => d.parameters.length) = some 2 := by decide +kernel
set_option maxHeartbeats 4000000 in
set_option maxRecDepth 100000 in
theorem cX5_setSpeed_ok (l : Launch) (G : va_G) (cI cG : ClassId) (a : Nat → Nat) (fu : Nat) (g_ft : Tab) (g_er : Tab) (g_eb : Int32) (g_li : Tab) (g_st : Tab) (g_rd : Int32) (g_tu : Int32) (g_la : Int32) (g_dl : Bool) (g_sh : Int32) (g_tb : Int32) (z_ft : Tab) (z_er : Tab) (z_eb : Int32) (z_li : Tab) (z_st : Tab) (z_rd : Int32) (z_tu : Int32) (z_la : Int32) (z_dl : Bool) (z_sh : Int32) (z_tb : Int32) (yc : Int32) (yp : (Nat → Nat)) (yg : (Nat → GV)) (tx : Tab) (cm : Tab) (p1 : Int32) (p2 : Int32) (out : Int32 × Tab × Int32 × (Nat → Nat) × (Nat → GV)) (hf : fX5_setSpeed fu g_ft g_er g_eb g_li g_st g_rd g_tu g_la g_dl g_sh g_tb yc yp yg p1 p2 = some out) : CI l G (tyz cI cG) yX5_setSpeed wsX5_setSpeed ({ frames := 5, cells := 0, slots := 0, locals := 145 } : Room) [.ref (a 0), .int p1, .int p2] (([[((a 0), .inr (5, [.ref (a 1), .ref (a 11), .ref (a 21), .ref (a 63)]))], wG cI (a 1) (a 2) (a 3) (a 4) (a 5) (a 6) (a 7) (a 8) (a 9) (a 10) g_ft g_er g_eb g_li g_st g_rd g_tu g_la g_dl g_sh g_tb, wG cI (a 11) (a 12) (a 13) (a 14) (a 15) (a 16) (a 17) (a 18) (a 19) (a 20) z_ft z_er z_eb z_li z_st z_rd z_tu z_la z_dl z_sh z_tb, wH cI cG (fun i => a (21 + i)) yc yp yg, wS cI (a 63) (a 64) (a 65) (a 66) (a 67) tx cm] : List va_W).flatten) out.1 (([[((a 0), .inr (5, [.ref (a 1), .ref (a 11), .ref (a 21), .ref (a 63)]))], wG cI (a 1) (a 2) (a 3) (a 4) (a 5) (a 6) (a 7) (a 8) (a 9) (a 10) out.2.1 g_er g_eb g_li g_st g_rd g_tu g_la g_dl g_sh g_tb, wG cI (a 11) (a 12) (a 13) (a 14) (a 15) (a 16) (a 17) (a 18) (a 19) (a 20) z_ft z_er z_eb z_li z_st z_rd z_tu z_la z_dl z_sh z_tb, wH cI cG (fun i => a (21 + i)) out.2.2.1 out.2.2.2.1 out.2.2.2.2, wS cI (a 63) (a 64) (a 65) (a 66) (a 67) tx cm] : List va_W).flatten) := by
  intro sz
  refine Met.ofW (cc := cX5_setSpeed) (maxL := 3) (ret := (some .int)) (by decide) rfl ?_
  intro p e s m args below meth c s₁ B hml hv
  obtain ⟨rfl, hsz, hP, hK, hD0⟩ := hv
  have hx := B.exec
  have hb := B.bytes
  have hr := B.returns
  have hts := atoms_spec (ws := wsX5_setSpeed) B.pre
  have hown : s.vm.findClass RX5 = some m.cls := findClass_of_methodNamed B.named
  have hlocks := B.notSynchronized
  subst hsz
  have hD := hD0.self (sz := s.heap.size)
  generalize hAe : va_A (([[((a 0), .inr (5, [.ref (a 1), .ref (a 11), .ref (a 21), .ref (a 63)]))], wG cI (a 1) (a 2) (a 3) (a 4) (a 5) (a 6) (a 7) (a 8) (a 9) (a 10) g_ft g_er g_eb g_li g_st g_rd g_tu g_la g_dl g_sh g_tb, wG cI (a 11) (a 12) (a 13) (a 14) (a 15) (a 16) (a 17) (a 18) (a 19) (a 20) z_ft z_er z_eb z_li z_st z_rd z_tu z_la z_dl z_sh z_tb, wH cI cG (fun i => a (21 + i)) yc yp yg, wS cI (a 63) (a 64) (a 65) (a 66) (a 67) tx cm] : List va_W).flatten) s.heap.size = A at hD ⊢
  have hA : ∀ q : Nat, s.heap.size ≤ q → A q := fun q h => by rw [← hAe]; exact Or.inr h
  have hS : va_S A s.heap s.heap [] := va_S.rf
  have hw0 := hts (.fieldLink RX5 22 "SpeedTurns" "history" "LSpeedTurns$History;") (List.mem_of_getElem? (i := 7) rfl)
  have hw1 := hts (.fieldLink RX5 10 "SpeedTurns" "game" "LSpeedTurns$Game;") (List.mem_of_getElem? (i := 8) rfl)
  show W p l e ({ frames := 5, cells := 0, slots := 0, locals := 145 } : Room) s m _ below meth c s.heap [] 0 0 _ _
  refine W_genQ (fun Q hQ => ?_)
  have h := hf
  rw [fX5_setSpeed] at h
  have hl := lv_entry ([.ref (a 0), .int p1, .int p2]) (n := 3) (Nat.le_of_ble_eq_true rfl)
  rw [lg_entry_eq]
  generalize (lg_sl ([.ref (a 0), .int p1, .int p2]) ++ List.replicate (3 - (lg_sl ([.ref (a 0), .int p1, .int p2])).length) Slot.unset).toArray = ls at hl ⊢
  have hl : lv_has ls 3 [(0, .ref (a 0)), (1, .int p1), (2, .int p2)] := hl
  refine lv_aload_n hx hb dX5_setSpeed_0 rfl (lv_at hl 0 rfl) ?_
  refine lv_iload_n hx hb dX5_setSpeed_1 rfl (lv_at hl 1 rfl) ?_
  obtain ⟨x1, ex1, h⟩ := o_b h
  refine bcall_vV (As := [.int p1]) (rest := []) (c0 := [[((a 0), .inr (5, [.ref (a 1), .ref (a 11), .ref (a 21), .ref (a 63)]))], wG cI (a 1) (a 2) (a 3) (a 4) (a 5) (a 6) (a 7) (a 8) (a 9) (a 10) g_ft g_er g_eb g_li g_st g_rd g_tu g_la g_dl g_sh g_tb, wG cI (a 11) (a 12) (a 13) (a 14) (a 15) (a 16) (a 17) (a 18) (a 19) (a 20) z_ft z_er z_eb z_li z_st z_rd z_tu z_la z_dl z_sh z_tb, wH cI cG (fun i => a (21 + i)) yc yp yg, wS cI (a 63) (a 64) (a 65) (a 66) (a 67) tx cm]) (c1 := [[((a 0), .inr (5, [.ref (a 1), .ref (a 11), .ref (a 21), .ref (a 63)]))], wG cI (a 1) (a 2) (a 3) (a 4) (a 5) (a 6) (a 7) (a 8) (a 9) (a 10) g_ft g_er g_eb g_li g_st g_rd g_tu g_la g_dl g_sh g_tb, wG cI (a 11) (a 12) (a 13) (a 14) (a 15) (a 16) (a 17) (a 18) (a 19) (a 20) z_ft z_er z_eb z_li z_st z_rd z_tu z_la z_dl z_sh z_tb, wH cI cG (fun i => a (21 + i)) yc yp yg, wS cI (a 63) (a 64) (a 65) (a 66) (a 67) tx cm]) (bs2 := [[((a 0), .inr (5, [.ref (a 1), .ref (a 11), .ref (a 21), .ref (a 63)]))], wG cI (a 1) (a 2) (a 3) (a 4) (a 5) (a 6) (a 7) (a 8) (a 9) (a 10) g_ft g_er g_eb g_li g_st g_rd g_tu g_la g_dl g_sh g_tb, wG cI (a 11) (a 12) (a 13) (a 14) (a 15) (a 16) (a 17) (a 18) (a 19) (a 20) z_ft z_er z_eb z_li z_st z_rd z_tu z_la z_dl z_sh z_tb, wH cI cG (fun i => a (21 + i)) yc yp yg, wS cI (a 63) (a 64) (a 65) (a 66) (a 67) tx cm]) ⟨hx, hb, hml, hown, hts⟩ (cX5_requireFighter_ok l G cI cG a g_ft g_er g_eb g_li g_st g_rd g_tu g_la g_dl g_sh g_tb z_ft z_er z_eb z_li z_st z_rd z_tu z_la z_dl z_sh z_tb yc yp yg tx cm p1 x1 ex1) (cwV 1 hts gX5_setSpeed_X5_requireFighter_61 rfl rfl rfl hdX5_requireFighter ⟨Nat.le_of_ble_eq_true rfl, Nat.le_of_ble_eq_true rfl⟩) hP hD hS hA hK 5 rfl rfl rfl [0, 1, 2, 3, 4] rfl rfl rfl rfl rfl rfl rfl rfl rfl hl.1 (Nat.le_of_ble_eq_true rfl) dX5_setSpeed_2 ⟨Nat.zero_le _, Nat.zero_le _⟩ (fun H locs hP hD hS => ?_)
  refine lv_iload_n hx hb dX5_setSpeed_5 rfl (lv_at hl 2 rfl) ?_
  refine lv_iconst (v := 1) hx hb dX5_setSpeed_6 (by decide) ?_
  refine lv_bipush (v := 30) hx hb dX5_setSpeed_7 (by decide) ?_
  obtain ⟨x2, ex2, h⟩ := o_b h
  refine bcall_vS (As := [.int p2, .int (1 : Int32), .int (30 : Int32)]) (rest := []) (c0 := []) (c1 := []) (bs2 := [[((a 0), .inr (5, [.ref (a 1), .ref (a 11), .ref (a 21), .ref (a 63)]))], wG cI (a 1) (a 2) (a 3) (a 4) (a 5) (a 6) (a 7) (a 8) (a 9) (a 10) g_ft g_er g_eb g_li g_st g_rd g_tu g_la g_dl g_sh g_tb, wG cI (a 11) (a 12) (a 13) (a 14) (a 15) (a 16) (a 17) (a 18) (a 19) (a 20) z_ft z_er z_eb z_li z_st z_rd z_tu z_la z_dl z_sh z_tb, wH cI cG (fun i => a (21 + i)) yc yp yg, wS cI (a 63) (a 64) (a 65) (a 66) (a 67) tx cm]) ⟨hx, hb, hml, hown, hts⟩ (cX5_requireWithin_ok l G cI cG p2 (1 : Int32) (30 : Int32) x2 ex2) (va_cwS 3 hts gX5_setSpeed_X5_requireWithin_65 rfl rfl rfl hdX5_requireWithin ⟨Nat.le_of_ble_eq_true rfl, Nat.le_of_ble_eq_true rfl⟩) hP hD hS hA hK [] rfl rfl rfl rfl rfl rfl rfl rfl rfl hl.1 (Nat.le_of_ble_eq_true rfl) dX5_setSpeed_9 ⟨Nat.zero_le _, Nat.zero_le _⟩ (fun H locs hP hD hS => ?_)
  refine lv_aload_n hx hb dX5_setSpeed_12 rfl (lv_at hl 0 rfl) ?_
  refine va_get (D := G) (ci := 5) (v := .ref (a 21)) (C := RX5) (T := TX5) (N := 4) hx hb hts huX5_setSpeed_X5 hown hK.1 hP 0 rfl rfl 2 (by decide) hw0 (fun _ h9 => h9) rfl dX5_setSpeed_13 ?_
  refine lv_aload_n hx hb dX5_setSpeed_16 rfl (lv_at hl 0 rfl) ?_
  refine va_get (D := G) (ci := 5) (v := .ref (a 1)) (C := RX5) (T := TX5) (N := 4) hx hb hts huX5_setSpeed_X5 hown hK.1 hP 0 rfl rfl 0 (by decide) hw1 (fun _ h9 => h9) rfl dX5_setSpeed_17 ?_
  obtain ⟨x3, ex3, h⟩ := o_b h
  refine bcall_vV (As := [.ref (a 1)]) (rest := []) (c0 := [wH cI cG (fun i => a (21 + i)) yc yp yg, wG cI (a 1) (a 2) (a 3) (a 4) (a 5) (a 6) (a 7) (a 8) (a 9) (a 10) g_ft g_er g_eb g_li g_st g_rd g_tu g_la g_dl g_sh g_tb]) (c1 := [wH cI cG (fun i => a (21 + i)) x3.1 x3.2.1 x3.2.2, wG cI (a 1) (a 2) (a 3) (a 4) (a 5) (a 6) (a 7) (a 8) (a 9) (a 10) g_ft g_er g_eb g_li g_st g_rd g_tu g_la g_dl g_sh g_tb]) (bs2 := [[((a 0), .inr (5, [.ref (a 1), .ref (a 11), .ref (a 21), .ref (a 63)]))], wG cI (a 1) (a 2) (a 3) (a 4) (a 5) (a 6) (a 7) (a 8) (a 9) (a 10) g_ft g_er g_eb g_li g_st g_rd g_tu g_la g_dl g_sh g_tb, wG cI (a 11) (a 12) (a 13) (a 14) (a 15) (a 16) (a 17) (a 18) (a 19) (a 20) z_ft z_er z_eb z_li z_st z_rd z_tu z_la z_dl z_sh z_tb, wH cI cG (fun i => a (21 + i)) x3.1 x3.2.1 x3.2.2, wS cI (a 63) (a 64) (a 65) (a 66) (a 67) tx cm]) ⟨hx, hb, hml, hown, hts⟩ (cX2_save_ok l G cI cG (fun i => a (21 + i)) (a 1) (a 2) (a 3) (a 4) (a 5) (a 6) (a 7) (a 8) (a 9) (a 10) fu yc yp yg g_ft g_er g_eb g_li g_st g_rd g_tu g_la g_dl g_sh g_tb x3 ex3) (cwV 1 hts gX5_setSpeed_X2_save_53 rfl rfl rfl hdX2_save ⟨Nat.le_of_ble_eq_true rfl, Nat.le_of_ble_eq_true rfl⟩) hP hD hS hA hK 2 rfl rfl rfl [3, 1] rfl rfl rfl rfl rfl rfl rfl rfl rfl hl.1 (Nat.le_of_ble_eq_true rfl) dX5_setSpeed_20 ⟨Nat.zero_le _, Nat.zero_le _⟩ (fun H locs hP hD hS => ?_)
  refine lv_aload_n hx hb dX5_setSpeed_23 rfl (lv_at hl 0 rfl) ?_
  refine va_get (D := G) (ci := 5) (v := .ref (a 1)) (C := RX5) (T := TX5) (N := 4) hx hb hts huX5_setSpeed_X5 hown hK.1 hP 0 rfl rfl 0 (by decide) hw1 (fun _ h9 => h9) rfl dX5_setSpeed_24 ?_
  refine lv_iload_n hx hb dX5_setSpeed_27 rfl (lv_at hl 1 rfl) ?_
  refine lv_iload_n hx hb dX5_setSpeed_28 rfl (lv_at hl 2 rfl) ?_
  obtain ⟨x4, ex4, h⟩ := o_b h
  refine bcall_iV (As := [.int p1, .int p2]) (rest := []) (c0 := [wG cI (a 1) (a 2) (a 3) (a 4) (a 5) (a 6) (a 7) (a 8) (a 9) (a 10) g_ft g_er g_eb g_li g_st g_rd g_tu g_la g_dl g_sh g_tb]) (c1 := [wG cI (a 1) (a 2) (a 3) (a 4) (a 5) (a 6) (a 7) (a 8) (a 9) (a 10) x4.2 g_er g_eb g_li g_st g_rd g_tu g_la g_dl g_sh g_tb]) (bs2 := [[((a 0), .inr (5, [.ref (a 1), .ref (a 11), .ref (a 21), .ref (a 63)]))], wG cI (a 1) (a 2) (a 3) (a 4) (a 5) (a 6) (a 7) (a 8) (a 9) (a 10) x4.2 g_er g_eb g_li g_st g_rd g_tu g_la g_dl g_sh g_tb, wG cI (a 11) (a 12) (a 13) (a 14) (a 15) (a 16) (a 17) (a 18) (a 19) (a 20) z_ft z_er z_eb z_li z_st z_rd z_tu z_la z_dl z_sh z_tb, wH cI cG (fun i => a (21 + i)) x3.1 x3.2.1 x3.2.2, wS cI (a 63) (a 64) (a 65) (a 66) (a 67) tx cm]) ⟨hx, hb, hml, hown, hts⟩ (cX1_changeSpeed_ok l G cI cG (a 1) (a 2) (a 3) (a 4) (a 5) (a 6) (a 7) (a 8) (a 9) (a 10) g_ft g_er g_eb g_li g_st g_rd g_tu g_la g_dl g_sh g_tb p1 p2 x4 ex4) (cwV 2 hts gX5_setSpeed_X1_changeSpeed_69 rfl rfl rfl hdX1_changeSpeed ⟨Nat.le_of_ble_eq_true rfl, Nat.le_of_ble_eq_true rfl⟩) hP hD hS hA hK 1 rfl rfl rfl [1] rfl rfl rfl rfl rfl rfl rfl rfl rfl hl.1 (Nat.le_of_ble_eq_true rfl) dX5_setSpeed_29 ⟨Nat.zero_le _, Nat.zero_le _⟩ (fun H locs hP hD hS => ?_)
  obtain rfl := o_s h
  rw [hQ]
  exact end_i hx hb hr rfl hP hD hS dX5_setSpeed_32 hlocks
theorem hdX5_setShock : yX5_setShock.cls = RX5 ∧ yX5_setShock.cls ≠ "java/lang/invoke/MethodHandle" ∧ yX5_setShock.cls ≠ "java/lang/invoke/VarHandle" ∧ (parseMethodDescriptor yX5_setShock.desc).map (fun d => d.parameters.length) = some 1 := by decide +kernel
set_option maxHeartbeats 4000000 in
set_option maxRecDepth 100000 in
theorem cX5_setShock_ok (l : Launch) (G : va_G) (cI cG : ClassId) (a : Nat → Nat) (fu : Nat) (g_ft : Tab) (g_er : Tab) (g_eb : Int32) (g_li : Tab) (g_st : Tab) (g_rd : Int32) (g_tu : Int32) (g_la : Int32) (g_dl : Bool) (g_sh : Int32) (g_tb : Int32) (z_ft : Tab) (z_er : Tab) (z_eb : Int32) (z_li : Tab) (z_st : Tab) (z_rd : Int32) (z_tu : Int32) (z_la : Int32) (z_dl : Bool) (z_sh : Int32) (z_tb : Int32) (yc : Int32) (yp : (Nat → Nat)) (yg : (Nat → GV)) (tx : Tab) (cm : Tab) (p1 : Int32) (out : Int32 × Int32 × Int32 × (Nat → Nat) × (Nat → GV)) (hf : fX5_setShock fu g_ft g_er g_eb g_li g_st g_rd g_tu g_la g_dl g_sh g_tb yc yp yg p1 = some out) : CI l G (tyz cI cG) yX5_setShock wsX5_setShock ({ frames := 5, cells := 0, slots := 0, locals := 145 } : Room) [.ref (a 0), .int p1] (([[((a 0), .inr (5, [.ref (a 1), .ref (a 11), .ref (a 21), .ref (a 63)]))], wG cI (a 1) (a 2) (a 3) (a 4) (a 5) (a 6) (a 7) (a 8) (a 9) (a 10) g_ft g_er g_eb g_li g_st g_rd g_tu g_la g_dl g_sh g_tb, wG cI (a 11) (a 12) (a 13) (a 14) (a 15) (a 16) (a 17) (a 18) (a 19) (a 20) z_ft z_er z_eb z_li z_st z_rd z_tu z_la z_dl z_sh z_tb, wH cI cG (fun i => a (21 + i)) yc yp yg, wS cI (a 63) (a 64) (a 65) (a 66) (a 67) tx cm] : List va_W).flatten) out.1 (([[((a 0), .inr (5, [.ref (a 1), .ref (a 11), .ref (a 21), .ref (a 63)]))], wG cI (a 1) (a 2) (a 3) (a 4) (a 5) (a 6) (a 7) (a 8) (a 9) (a 10) g_ft g_er g_eb g_li g_st g_rd g_tu g_la g_dl out.2.1 g_tb, wG cI (a 11) (a 12) (a 13) (a 14) (a 15) (a 16) (a 17) (a 18) (a 19) (a 20) z_ft z_er z_eb z_li z_st z_rd z_tu z_la z_dl z_sh z_tb, wH cI cG (fun i => a (21 + i)) out.2.2.1 out.2.2.2.1 out.2.2.2.2, wS cI (a 63) (a 64) (a 65) (a 66) (a 67) tx cm] : List va_W).flatten) := by
  intro sz
  refine Met.ofW (cc := cX5_setShock) (maxL := 2) (ret := (some .int)) (by decide) rfl ?_
  intro p e s m args below meth c s₁ B hml hv
  obtain ⟨rfl, hsz, hP, hK, hD0⟩ := hv
  have hx := B.exec
  have hb := B.bytes
  have hr := B.returns
  have hts := atoms_spec (ws := wsX5_setShock) B.pre
  have hown : s.vm.findClass RX5 = some m.cls := findClass_of_methodNamed B.named
  have hlocks := B.notSynchronized
  subst hsz
  have hD := hD0.self (sz := s.heap.size)
  generalize hAe : va_A (([[((a 0), .inr (5, [.ref (a 1), .ref (a 11), .ref (a 21), .ref (a 63)]))], wG cI (a 1) (a 2) (a 3) (a 4) (a 5) (a 6) (a 7) (a 8) (a 9) (a 10) g_ft g_er g_eb g_li g_st g_rd g_tu g_la g_dl g_sh g_tb, wG cI (a 11) (a 12) (a 13) (a 14) (a 15) (a 16) (a 17) (a 18) (a 19) (a 20) z_ft z_er z_eb z_li z_st z_rd z_tu z_la z_dl z_sh z_tb, wH cI cG (fun i => a (21 + i)) yc yp yg, wS cI (a 63) (a 64) (a 65) (a 66) (a 67) tx cm] : List va_W).flatten) s.heap.size = A at hD ⊢
  have hA : ∀ q : Nat, s.heap.size ≤ q → A q := fun q h => by rw [← hAe]; exact Or.inr h
  have hS : va_S A s.heap s.heap [] := va_S.rf
  have hw0 := hts (.fieldLink RX5 22 "SpeedTurns" "history" "LSpeedTurns$History;") (List.mem_of_getElem? (i := 4) rfl)
  have hw1 := hts (.fieldLink RX5 10 "SpeedTurns" "game" "LSpeedTurns$Game;") (List.mem_of_getElem? (i := 5) rfl)
  show W p l e ({ frames := 5, cells := 0, slots := 0, locals := 145 } : Room) s m _ below meth c s.heap [] 0 0 _ _
  refine W_genQ (fun Q hQ => ?_)
  have h := hf
  rw [fX5_setShock] at h
  have hl := lv_entry ([.ref (a 0), .int p1]) (n := 2) (Nat.le_of_ble_eq_true rfl)
  rw [lg_entry_eq]
  generalize (lg_sl ([.ref (a 0), .int p1]) ++ List.replicate (2 - (lg_sl ([.ref (a 0), .int p1])).length) Slot.unset).toArray = ls at hl ⊢
  have hl : lv_has ls 2 [(0, .ref (a 0)), (1, .int p1)] := hl
  refine lv_iload_n hx hb dX5_setShock_0 rfl (lv_at hl 1 rfl) ?_
  refine lv_iconst (v := 1) hx hb dX5_setShock_1 (by decide) ?_
  refine lv_sipush (v := 200) hx hb dX5_setShock_2 (by decide) ?_
  obtain ⟨x1, ex1, h⟩ := o_b h
  refine bcall_vS (As := [.int p1, .int (1 : Int32), .int (200 : Int32)]) (rest := []) (c0 := []) (c1 := []) (bs2 := [[((a 0), .inr (5, [.ref (a 1), .ref (a 11), .ref (a 21), .ref (a 63)]))], wG cI (a 1) (a 2) (a 3) (a 4) (a 5) (a 6) (a 7) (a 8) (a 9) (a 10) g_ft g_er g_eb g_li g_st g_rd g_tu g_la g_dl g_sh g_tb, wG cI (a 11) (a 12) (a 13) (a 14) (a 15) (a 16) (a 17) (a 18) (a 19) (a 20) z_ft z_er z_eb z_li z_st z_rd z_tu z_la z_dl z_sh z_tb, wH cI cG (fun i => a (21 + i)) yc yp yg, wS cI (a 63) (a 64) (a 65) (a 66) (a 67) tx cm]) ⟨hx, hb, hml, hown, hts⟩ (cX5_requireWithin_ok l G cI cG p1 (1 : Int32) (200 : Int32) x1 ex1) (va_cwS 3 hts gX5_setShock_X5_requireWithin_65 rfl rfl rfl hdX5_requireWithin ⟨Nat.le_of_ble_eq_true rfl, Nat.le_of_ble_eq_true rfl⟩) hP hD hS hA hK [] rfl rfl rfl rfl rfl rfl rfl rfl rfl hl.1 (Nat.le_of_ble_eq_true rfl) dX5_setShock_5 ⟨Nat.zero_le _, Nat.zero_le _⟩ (fun H locs hP hD hS => ?_)
  refine lv_aload_n hx hb dX5_setShock_8 rfl (lv_at hl 0 rfl) ?_
  refine va_get (D := G) (ci := 5) (v := .ref (a 21)) (C := RX5) (T := TX5) (N := 4) hx hb hts huX5_setShock_X5 hown hK.1 hP 0 rfl rfl 2 (by decide) hw0 (fun _ h9 => h9) rfl dX5_setShock_9 ?_
  refine lv_aload_n hx hb dX5_setShock_12 rfl (lv_at hl 0 rfl) ?_
  refine va_get (D := G) (ci := 5) (v := .ref (a 1)) (C := RX5) (T := TX5) (N := 4) hx hb hts huX5_setShock_X5 hown hK.1 hP 0 rfl rfl 0 (by decide) hw1 (fun _ h9 => h9) rfl dX5_setShock_13 ?_
  obtain ⟨x2, ex2, h⟩ := o_b h
  refine bcall_vV (As := [.ref (a 1)]) (rest := []) (c0 := [wH cI cG (fun i => a (21 + i)) yc yp yg, wG cI (a 1) (a 2) (a 3) (a 4) (a 5) (a 6) (a 7) (a 8) (a 9) (a 10) g_ft g_er g_eb g_li g_st g_rd g_tu g_la g_dl g_sh g_tb]) (c1 := [wH cI cG (fun i => a (21 + i)) x2.1 x2.2.1 x2.2.2, wG cI (a 1) (a 2) (a 3) (a 4) (a 5) (a 6) (a 7) (a 8) (a 9) (a 10) g_ft g_er g_eb g_li g_st g_rd g_tu g_la g_dl g_sh g_tb]) (bs2 := [[((a 0), .inr (5, [.ref (a 1), .ref (a 11), .ref (a 21), .ref (a 63)]))], wG cI (a 1) (a 2) (a 3) (a 4) (a 5) (a 6) (a 7) (a 8) (a 9) (a 10) g_ft g_er g_eb g_li g_st g_rd g_tu g_la g_dl g_sh g_tb, wG cI (a 11) (a 12) (a 13) (a 14) (a 15) (a 16) (a 17) (a 18) (a 19) (a 20) z_ft z_er z_eb z_li z_st z_rd z_tu z_la z_dl z_sh z_tb, wH cI cG (fun i => a (21 + i)) x2.1 x2.2.1 x2.2.2, wS cI (a 63) (a 64) (a 65) (a 66) (a 67) tx cm]) ⟨hx, hb, hml, hown, hts⟩ (cX2_save_ok l G cI cG (fun i => a (21 + i)) (a 1) (a 2) (a 3) (a 4) (a 5) (a 6) (a 7) (a 8) (a 9) (a 10) fu yc yp yg g_ft g_er g_eb g_li g_st g_rd g_tu g_la g_dl g_sh g_tb x2 ex2) (cwV 1 hts gX5_setShock_X2_save_53 rfl rfl rfl hdX2_save ⟨Nat.le_of_ble_eq_true rfl, Nat.le_of_ble_eq_true rfl⟩) hP hD hS hA hK 2 rfl rfl rfl [3, 1] rfl rfl rfl rfl rfl rfl rfl rfl rfl hl.1 (Nat.le_of_ble_eq_true rfl) dX5_setShock_16 ⟨Nat.zero_le _, Nat.zero_le _⟩ (fun H locs hP hD hS => ?_)
  refine lv_aload_n hx hb dX5_setShock_19 rfl (lv_at hl 0 rfl) ?_
  refine va_get (D := G) (ci := 5) (v := .ref (a 1)) (C := RX5) (T := TX5) (N := 4) hx hb hts huX5_setShock_X5 hown hK.1 hP 0 rfl rfl 0 (by decide) hw1 (fun _ h9 => h9) rfl dX5_setShock_20 ?_
  refine lv_iload_n hx hb dX5_setShock_23 rfl (lv_at hl 1 rfl) ?_
  obtain ⟨x3, ex3, h⟩ := o_b h
  refine bcall_iV (As := [.int p1]) (rest := []) (c0 := [wG cI (a 1) (a 2) (a 3) (a 4) (a 5) (a 6) (a 7) (a 8) (a 9) (a 10) g_ft g_er g_eb g_li g_st g_rd g_tu g_la g_dl g_sh g_tb]) (c1 := [wG cI (a 1) (a 2) (a 3) (a 4) (a 5) (a 6) (a 7) (a 8) (a 9) (a 10) g_ft g_er g_eb g_li g_st g_rd g_tu g_la g_dl x3.2 g_tb]) (bs2 := [[((a 0), .inr (5, [.ref (a 1), .ref (a 11), .ref (a 21), .ref (a 63)]))], wG cI (a 1) (a 2) (a 3) (a 4) (a 5) (a 6) (a 7) (a 8) (a 9) (a 10) g_ft g_er g_eb g_li g_st g_rd g_tu g_la g_dl x3.2 g_tb, wG cI (a 11) (a 12) (a 13) (a 14) (a 15) (a 16) (a 17) (a 18) (a 19) (a 20) z_ft z_er z_eb z_li z_st z_rd z_tu z_la z_dl z_sh z_tb, wH cI cG (fun i => a (21 + i)) x2.1 x2.2.1 x2.2.2, wS cI (a 63) (a 64) (a 65) (a 66) (a 67) tx cm]) ⟨hx, hb, hml, hown, hts⟩ (cX1_changeShock_ok l G cI cG (a 1) (a 2) (a 3) (a 4) (a 5) (a 6) (a 7) (a 8) (a 9) (a 10) g_ft g_er g_eb g_li g_st g_rd g_tu g_la g_dl g_sh g_tb p1 x3 ex3) (cwV 1 hts gX5_setShock_X1_changeShock_72 rfl rfl rfl hdX1_changeShock ⟨Nat.le_of_ble_eq_true rfl, Nat.le_of_ble_eq_true rfl⟩) hP hD hS hA hK 1 rfl rfl rfl [1] rfl rfl rfl rfl rfl rfl rfl rfl rfl hl.1 (Nat.le_of_ble_eq_true rfl) dX5_setShock_24 ⟨Nat.zero_le _, Nat.zero_le _⟩ (fun H locs hP hD hS => ?_)
  obtain rfl := o_s h
  rw [hQ]
  exact end_i hx hb hr rfl hP hD hS dX5_setShock_27 hlocks
theorem hdX5_fighter : yX5_fighter.cls = RX5 ∧ yX5_fighter.cls ≠ "java/lang/invoke/MethodHandle" ∧ yX5_fighter.cls ≠ "java/lang/invoke/VarHandle" ∧ (parseMethodDescriptor yX5_fighter.desc).map (fun d => d.parameters.length) = some 2 := by decide +kernel
set_option maxHeartbeats 4000000 in
set_option maxRecDepth 100000 in
theorem cX5_fighter_ok (l : Launch) (G : va_G) (cI cG : ClassId) (a : Nat → Nat) (fu : Nat) (g_ft : Tab) (g_er : Tab) (g_eb : Int32) (g_li : Tab) (g_st : Tab) (g_rd : Int32) (g_tu : Int32) (g_la : Int32) (g_dl : Bool) (g_sh : Int32) (g_tb : Int32) (z_ft : Tab) (z_er : Tab) (z_eb : Int32) (z_li : Tab) (z_st : Tab) (z_rd : Int32) (z_tu : Int32) (z_la : Int32) (z_dl : Bool) (z_sh : Int32) (z_tb : Int32) (yc : Int32) (yp : (Nat → Nat)) (yg : (Nat → GV)) (tx : Tab) (cm : Tab) (p1 : Int32) (p2 : Int32) (out : Int32) (hf : fX5_fighter fu g_ft g_er g_li p1 p2 = some out) : CI l G (tyz cI cG) yX5_fighter wsX5_fighter ({ frames := 4, cells := 0, slots := 0, locals := 92 } : Room) [.ref (a 0), .int p1, .int p2] (([[((a 0), .inr (5, [.ref (a 1), .ref (a 11), .ref (a 21), .ref (a 63)]))], wG cI (a 1) (a 2) (a 3) (a 4) (a 5) (a 6) (a 7) (a 8) (a 9) (a 10) g_ft g_er g_eb g_li g_st g_rd g_tu g_la g_dl g_sh g_tb, wG cI (a 11) (a 12) (a 13) (a 14) (a 15) (a 16) (a 17) (a 18) (a 19) (a 20) z_ft z_er z_eb z_li z_st z_rd z_tu z_la z_dl z_sh z_tb, wH cI cG (fun i => a (21 + i)) yc yp yg, wS cI (a 63) (a 64) (a 65) (a 66) (a 67) tx cm] : List va_W).flatten) out (([[((a 0), .inr (5, [.ref (a 1), .ref (a 11), .ref (a 21), .ref (a 63)]))], wG cI (a 1) (a 2) (a 3) (a 4) (a 5) (a 6) (a 7) (a 8) (a 9) (a 10) g_ft g_er g_eb g_li g_st g_rd g_tu g_la g_dl g_sh g_tb, wG cI (a 11) (a 12) (a 13) (a 14) (a 15) (a 16) (a 17) (a 18) (a 19) (a 20) z_ft z_er z_eb z_li z_st z_rd z_tu z_la z_dl z_sh z_tb, wH cI cG (fun i => a (21 + i)) yc yp yg, wS cI (a 63) (a 64) (a 65) (a 66) (a 67) tx cm] : List va_W).flatten) := by
  intro sz
  refine Met.ofW (cc := cX5_fighter) (maxL := 3) (ret := (some .int)) (by decide) rfl ?_
  intro p e s m args below meth c s₁ B hml hv
  obtain ⟨rfl, hsz, hP, hK, hD0⟩ := hv
  have hx := B.exec
  have hb := B.bytes
  have hr := B.returns
  have hts := atoms_spec (ws := wsX5_fighter) B.pre
  have hown : s.vm.findClass RX5 = some m.cls := findClass_of_methodNamed B.named
  have hlocks := B.notSynchronized
  subst hsz
  have hD := hD0.self (sz := s.heap.size)
  generalize hAe : va_A (([[((a 0), .inr (5, [.ref (a 1), .ref (a 11), .ref (a 21), .ref (a 63)]))], wG cI (a 1) (a 2) (a 3) (a 4) (a 5) (a 6) (a 7) (a 8) (a 9) (a 10) g_ft g_er g_eb g_li g_st g_rd g_tu g_la g_dl g_sh g_tb, wG cI (a 11) (a 12) (a 13) (a 14) (a 15) (a 16) (a 17) (a 18) (a 19) (a 20) z_ft z_er z_eb z_li z_st z_rd z_tu z_la z_dl z_sh z_tb, wH cI cG (fun i => a (21 + i)) yc yp yg, wS cI (a 63) (a 64) (a 65) (a 66) (a 67) tx cm] : List va_W).flatten) s.heap.size = A at hD ⊢
  have hA : ∀ q : Nat, s.heap.size ≤ q → A q := fun q h => by rw [← hAe]; exact Or.inr h
  have hS : va_S A s.heap s.heap [] := va_S.rf
  have hw0 := hts (.fieldLink RX5 10 "SpeedTurns" "game" "LSpeedTurns$Game;") (List.mem_of_getElem? (i := 7) rfl)
  show W p l e ({ frames := 4, cells := 0, slots := 0, locals := 92 } : Room) s m _ below meth c s.heap [] 0 0 _ _
  refine W_genQ (fun Q hQ => ?_)
  have h := hf
  rw [fX5_fighter] at h
  have hl := lv_entry ([.ref (a 0), .int p1, .int p2]) (n := 3) (Nat.le_of_ble_eq_true rfl)
  rw [lg_entry_eq]
  generalize (lg_sl ([.ref (a 0), .int p1, .int p2]) ++ List.replicate (3 - (lg_sl ([.ref (a 0), .int p1, .int p2])).length) Slot.unset).toArray = ls at hl ⊢
  have hl : lv_has ls 3 [(0, .ref (a 0)), (1, .int p1), (2, .int p2)] := hl
  refine lv_aload_n hx hb dX5_fighter_0 rfl (lv_at hl 0 rfl) ?_
  refine lv_iload_n hx hb dX5_fighter_1 rfl (lv_at hl 1 rfl) ?_
  obtain ⟨x1, ex1, h⟩ := o_b h
  refine bcall_vV (As := [.int p1]) (rest := []) (c0 := [[((a 0), .inr (5, [.ref (a 1), .ref (a 11), .ref (a 21), .ref (a 63)]))], wG cI (a 1) (a 2) (a 3) (a 4) (a 5) (a 6) (a 7) (a 8) (a 9) (a 10) g_ft g_er g_eb g_li g_st g_rd g_tu g_la g_dl g_sh g_tb, wG cI (a 11) (a 12) (a 13) (a 14) (a 15) (a 16) (a 17) (a 18) (a 19) (a 20) z_ft z_er z_eb z_li z_st z_rd z_tu z_la z_dl z_sh z_tb, wH cI cG (fun i => a (21 + i)) yc yp yg, wS cI (a 63) (a 64) (a 65) (a 66) (a 67) tx cm]) (c1 := [[((a 0), .inr (5, [.ref (a 1), .ref (a 11), .ref (a 21), .ref (a 63)]))], wG cI (a 1) (a 2) (a 3) (a 4) (a 5) (a 6) (a 7) (a 8) (a 9) (a 10) g_ft g_er g_eb g_li g_st g_rd g_tu g_la g_dl g_sh g_tb, wG cI (a 11) (a 12) (a 13) (a 14) (a 15) (a 16) (a 17) (a 18) (a 19) (a 20) z_ft z_er z_eb z_li z_st z_rd z_tu z_la z_dl z_sh z_tb, wH cI cG (fun i => a (21 + i)) yc yp yg, wS cI (a 63) (a 64) (a 65) (a 66) (a 67) tx cm]) (bs2 := [[((a 0), .inr (5, [.ref (a 1), .ref (a 11), .ref (a 21), .ref (a 63)]))], wG cI (a 1) (a 2) (a 3) (a 4) (a 5) (a 6) (a 7) (a 8) (a 9) (a 10) g_ft g_er g_eb g_li g_st g_rd g_tu g_la g_dl g_sh g_tb, wG cI (a 11) (a 12) (a 13) (a 14) (a 15) (a 16) (a 17) (a 18) (a 19) (a 20) z_ft z_er z_eb z_li z_st z_rd z_tu z_la z_dl z_sh z_tb, wH cI cG (fun i => a (21 + i)) yc yp yg, wS cI (a 63) (a 64) (a 65) (a 66) (a 67) tx cm]) ⟨hx, hb, hml, hown, hts⟩ (cX5_requireFighter_ok l G cI cG a g_ft g_er g_eb g_li g_st g_rd g_tu g_la g_dl g_sh g_tb z_ft z_er z_eb z_li z_st z_rd z_tu z_la z_dl z_sh z_tb yc yp yg tx cm p1 x1 ex1) (cwV 1 hts gX5_fighter_X5_requireFighter_61 rfl rfl rfl hdX5_requireFighter ⟨Nat.le_of_ble_eq_true rfl, Nat.le_of_ble_eq_true rfl⟩) hP hD hS hA hK 5 rfl rfl rfl [0, 1, 2, 3, 4] rfl rfl rfl rfl rfl rfl rfl rfl rfl hl.1 (Nat.le_of_ble_eq_true rfl) dX5_fighter_2 ⟨Nat.zero_le _, Nat.zero_le _⟩ (fun H locs hP hD hS => ?_)
  refine lv_iload_n hx hb dX5_fighter_5 rfl (lv_at hl 2 rfl) ?_
  refine lv_iconst (v := 0) hx hb dX5_fighter_6 (by decide) ?_
  refine lv_bipush (v := 8) hx hb dX5_fighter_7 (by decide) ?_
  obtain ⟨x2, ex2, h⟩ := o_b h
  refine bcall_vS (As := [.int p2, .int (0 : Int32), .int (8 : Int32)]) (rest := []) (c0 := []) (c1 := []) (bs2 := [[((a 0), .inr (5, [.ref (a 1), .ref (a 11), .ref (a 21), .ref (a 63)]))], wG cI (a 1) (a 2) (a 3) (a 4) (a 5) (a 6) (a 7) (a 8) (a 9) (a 10) g_ft g_er g_eb g_li g_st g_rd g_tu g_la g_dl g_sh g_tb, wG cI (a 11) (a 12) (a 13) (a 14) (a 15) (a 16) (a 17) (a 18) (a 19) (a 20) z_ft z_er z_eb z_li z_st z_rd z_tu z_la z_dl z_sh z_tb, wH cI cG (fun i => a (21 + i)) yc yp yg, wS cI (a 63) (a 64) (a 65) (a 66) (a 67) tx cm]) ⟨hx, hb, hml, hown, hts⟩ (cX5_requireWithin_ok l G cI cG p2 (0 : Int32) (8 : Int32) x2 ex2) (va_cwS 3 hts gX5_fighter_X5_requireWithin_65 rfl rfl rfl hdX5_requireWithin ⟨Nat.le_of_ble_eq_true rfl, Nat.le_of_ble_eq_true rfl⟩) hP hD hS hA hK [] rfl rfl rfl rfl rfl rfl rfl rfl rfl hl.1 (Nat.le_of_ble_eq_true rfl) dX5_fighter_9 ⟨Nat.zero_le _, Nat.zero_le _⟩ (fun H locs hP hD hS => ?_)
  refine lv_aload_n hx hb dX5_fighter_12 rfl (lv_at hl 0 rfl) ?_
  refine va_get (D := G) (ci := 5) (v := .ref (a 1)) (C := RX5) (T := TX5) (N := 4) hx hb hts huX5_fighter_X5 hown hK.1 hP 0 rfl rfl 0 (by decide) hw0 (fun _ h9 => h9) rfl dX5_fighter_13 ?_
  refine lv_iload_n hx hb dX5_fighter_16 rfl (lv_at hl 1 rfl) ?_
  refine lv_iload_n hx hb dX5_fighter_17 rfl (lv_at hl 2 rfl) ?_
  obtain ⟨x3, ex3, h⟩ := o_b h
  refine bcall_iV (As := [.int p1, .int p2]) (rest := []) (c0 := [wG cI (a 1) (a 2) (a 3) (a 4) (a 5) (a 6) (a 7) (a 8) (a 9) (a 10) g_ft g_er g_eb g_li g_st g_rd g_tu g_la g_dl g_sh g_tb]) (c1 := [wG cI (a 1) (a 2) (a 3) (a 4) (a 5) (a 6) (a 7) (a 8) (a 9) (a 10) g_ft g_er g_eb g_li g_st g_rd g_tu g_la g_dl g_sh g_tb]) (bs2 := [[((a 0), .inr (5, [.ref (a 1), .ref (a 11), .ref (a 21), .ref (a 63)]))], wG cI (a 1) (a 2) (a 3) (a 4) (a 5) (a 6) (a 7) (a 8) (a 9) (a 10) g_ft g_er g_eb g_li g_st g_rd g_tu g_la g_dl g_sh g_tb, wG cI (a 11) (a 12) (a 13) (a 14) (a 15) (a 16) (a 17) (a 18) (a 19) (a 20) z_ft z_er z_eb z_li z_st z_rd z_tu z_la z_dl z_sh z_tb, wH cI cG (fun i => a (21 + i)) yc yp yg, wS cI (a 63) (a 64) (a 65) (a 66) (a 67) tx cm]) ⟨hx, hb, hml, hown, hts⟩ (cX1_aboutFighter_ok l G cI cG (a 1) (a 2) (a 3) (a 4) (a 5) (a 6) (a 7) (a 8) (a 9) (a 10) fu g_ft g_er g_eb g_li g_st g_rd g_tu g_la g_dl g_sh g_tb p1 p2 x3 ex3) (cwV 2 hts gX5_fighter_X1_aboutFighter_76 rfl rfl rfl hdX1_aboutFighter ⟨Nat.le_of_ble_eq_true rfl, Nat.le_of_ble_eq_true rfl⟩) hP hD hS hA hK 1 rfl rfl rfl [1] rfl rfl rfl rfl rfl rfl rfl rfl rfl hl.1 (Nat.le_of_ble_eq_true rfl) dX5_fighter_18 ⟨Nat.zero_le _, Nat.zero_le _⟩ (fun H locs hP hD hS => ?_)
  obtain rfl := o_s h
  rw [hQ]
  exact end_i hx hb hr rfl hP hD hS dX5_fighter_21 hlocks
theorem hdX5_requireEffect : yX5_requireEffect.cls = RX5 ∧ yX5_requireEffect.cls ≠ "java/lang/invoke/MethodHandle" ∧ yX5_requireEffect.cls ≠ "java/lang/invoke/VarHandle" ∧ (parseMethodDescriptor yX5_requireEffect.desc).map (fun d => d.parameters.length) = some 1 := by decide +kernel
set_option maxHeartbeats 4000000 in
set_option maxRecDepth 100000 in
theorem cX5_requireEffect_ok (l : Launch) (G : va_G) (cI cG : ClassId) (a : Nat → Nat) (g_ft : Tab) (g_er : Tab) (g_eb : Int32) (g_li : Tab) (g_st : Tab) (g_rd : Int32) (g_tu : Int32) (g_la : Int32) (g_dl : Bool) (g_sh : Int32) (g_tb : Int32) (z_ft : Tab) (z_er : Tab) (z_eb : Int32) (z_li : Tab) (z_st : Tab) (z_rd : Int32) (z_tu : Int32) (z_la : Int32) (z_dl : Bool) (z_sh : Int32) (z_tb : Int32) (yc : Int32) (yp : (Nat → Nat)) (yg : (Nat → GV)) (tx : Tab) (cm : Tab) (p1 : Int32) (out : Unit) (hf : fX5_requireEffect g_er p1 = some out) : CV l G (tyz cI cG) yX5_requireEffect wsX5_requireEffect ({ frames := 3, cells := 0, slots := 0, locals := 60 } : Room) [.ref (a 0), .int p1] (([[((a 0), .inr (5, [.ref (a 1), .ref (a 11), .ref (a 21), .ref (a 63)]))], wG cI (a 1) (a 2) (a 3) (a 4) (a 5) (a 6) (a 7) (a 8) (a 9) (a 10) g_ft g_er g_eb g_li g_st g_rd g_tu g_la g_dl g_sh g_tb, wG cI (a 11) (a 12) (a 13) (a 14) (a 15) (a 16) (a 17) (a 18) (a 19) (a 20) z_ft z_er z_eb z_li z_st z_rd z_tu z_la z_dl z_sh z_tb, wH cI cG (fun i => a (21 + i)) yc yp yg, wS cI (a 63) (a 64) (a 65) (a 66) (a 67) tx cm] : List va_W).flatten) (([[((a 0), .inr (5, [.ref (a 1), .ref (a 11), .ref (a 21), .ref (a 63)]))], wG cI (a 1) (a 2) (a 3) (a 4) (a 5) (a 6) (a 7) (a 8) (a 9) (a 10) g_ft g_er g_eb g_li g_st g_rd g_tu g_la g_dl g_sh g_tb, wG cI (a 11) (a 12) (a 13) (a 14) (a 15) (a 16) (a 17) (a 18) (a 19) (a 20) z_ft z_er z_eb z_li z_st z_rd z_tu z_la z_dl z_sh z_tb, wH cI cG (fun i => a (21 + i)) yc yp yg, wS cI (a 63) (a 64) (a 65) (a 66) (a 67) tx cm] : List va_W).flatten) := by
  intro sz
  refine Met.ofW (cc := cX5_requireEffect) (maxL := 2) (ret := none) (by decide) rfl ?_
  intro p e s m args below meth c s₁ B hml hv
  obtain ⟨rfl, hsz, hP, hK, hD0⟩ := hv
  have hx := B.exec
  have hb := B.bytes
  have hr := B.returns
  have hts := atoms_spec (ws := wsX5_requireEffect) B.pre
  have hown : s.vm.findClass RX5 = some m.cls := findClass_of_methodNamed B.named
  have hlocks := B.notSynchronized
  subst hsz
  have hD := hD0.self (sz := s.heap.size)
  generalize hAe : va_A (([[((a 0), .inr (5, [.ref (a 1), .ref (a 11), .ref (a 21), .ref (a 63)]))], wG cI (a 1) (a 2) (a 3) (a 4) (a 5) (a 6) (a 7) (a 8) (a 9) (a 10) g_ft g_er g_eb g_li g_st g_rd g_tu g_la g_dl g_sh g_tb, wG cI (a 11) (a 12) (a 13) (a 14) (a 15) (a 16) (a 17) (a 18) (a 19) (a 20) z_ft z_er z_eb z_li z_st z_rd z_tu z_la z_dl z_sh z_tb, wH cI cG (fun i => a (21 + i)) yc yp yg, wS cI (a 63) (a 64) (a 65) (a 66) (a 67) tx cm] : List va_W).flatten) s.heap.size = A at hD ⊢
  have hA : ∀ q : Nat, s.heap.size ≤ q → A q := fun q h => by rw [← hAe]; exact Or.inr h
  have hS : va_S A s.heap s.heap [] := va_S.rf
  have hw0 := hts (.fieldLink RX5 10 "SpeedTurns" "game" "LSpeedTurns$Game;") (List.mem_of_getElem? (i := 1) rfl)
  show W p l e ({ frames := 3, cells := 0, slots := 0, locals := 60 } : Room) s m _ below meth c s.heap [] 0 0 _ _
  refine W_genQ (fun Q hQ => ?_)
  have h := hf
  rw [fX5_requireEffect] at h
  have hl := lv_entry ([.ref (a 0), .int p1]) (n := 2) (Nat.le_of_ble_eq_true rfl)
  rw [lg_entry_eq]
  generalize (lg_sl ([.ref (a 0), .int p1]) ++ List.replicate (2 - (lg_sl ([.ref (a 0), .int p1])).length) Slot.unset).toArray = ls at hl ⊢
  have hl : lv_has ls 2 [(0, .ref (a 0)), (1, .int p1)] := hl
  refine lv_iload_n hx hb dX5_requireEffect_0 rfl (lv_at hl 1 rfl) ?_
  refine lv_iconst (v := 0) hx hb dX5_requireEffect_1 (by decide) ?_
  refine lv_aload_n hx hb dX5_requireEffect_2 rfl (lv_at hl 0 rfl) ?_
  refine va_get (D := G) (ci := 5) (v := .ref (a 1)) (C := RX5) (T := TX5) (N := 4) hx hb hts huX5_requireEffect_X5 hown hK.1 hP 0 rfl rfl 0 (by decide) hw0 (fun _ h9 => h9) rfl dX5_requireEffect_3 ?_
  obtain ⟨x1, ex1, h⟩ := o_b h
  refine bcall_iV (As := []) (rest := [.int (0 : Int32), .int p1]) (c0 := [wG cI (a 1) (a 2) (a 3) (a 4) (a 5) (a 6) (a 7) (a 8) (a 9) (a 10) g_ft g_er g_eb g_li g_st g_rd g_tu g_la g_dl g_sh g_tb]) (c1 := [wG cI (a 1) (a 2) (a 3) (a 4) (a 5) (a 6) (a 7) (a 8) (a 9) (a 10) g_ft g_er g_eb g_li g_st g_rd g_tu g_la g_dl g_sh g_tb]) (bs2 := [[((a 0), .inr (5, [.ref (a 1), .ref (a 11), .ref (a 21), .ref (a 63)]))], wG cI (a 1) (a 2) (a 3) (a 4) (a 5) (a 6) (a 7) (a 8) (a 9) (a 10) g_ft g_er g_eb g_li g_st g_rd g_tu g_la g_dl g_sh g_tb, wG cI (a 11) (a 12) (a 13) (a 14) (a 15) (a 16) (a 17) (a 18) (a 19) (a 20) z_ft z_er z_eb z_li z_st z_rd z_tu z_la z_dl z_sh z_tb, wH cI cG (fun i => a (21 + i)) yc yp yg, wS cI (a 63) (a 64) (a 65) (a 66) (a 67) tx cm]) ⟨hx, hb, hml, hown, hts⟩ (cX1_effectCount_ok l G cI cG (a 1) (a 2) (a 3) (a 4) (a 5) (a 6) (a 7) (a 8) (a 9) (a 10) g_ft g_er g_eb g_li g_st g_rd g_tu g_la g_dl g_sh g_tb x1 ex1) (cwV 0 hts gX5_requireEffect_X1_effectCount_216 rfl rfl rfl hdX1_effectCount ⟨Nat.le_of_ble_eq_true rfl, Nat.le_of_ble_eq_true rfl⟩) hP hD hS hA hK 1 rfl rfl rfl [1] rfl rfl rfl rfl rfl rfl rfl rfl rfl hl.1 (Nat.le_of_ble_eq_true rfl) dX5_requireEffect_6 ⟨Nat.zero_le _, Nat.zero_le _⟩ (fun H locs hP hD hS => ?_)
  refine lv_iconst (v := 1) hx hb dX5_requireEffect_9 (by decide) ?_
  refine lv_isub hx hb dX5_requireEffect_10 ?_
  obtain ⟨x2, ex2, h⟩ := o_b h
  refine bcall_iS (As := [.int p1, .int (0 : Int32), .int (x1 - (1 : Int32))]) (rest := []) (c0 := []) (c1 := []) (bs2 := [[((a 0), .inr (5, [.ref (a 1), .ref (a 11), .ref (a 21), .ref (a 63)]))], wG cI (a 1) (a 2) (a 3) (a 4) (a 5) (a 6) (a 7) (a 8) (a 9) (a 10) g_ft g_er g_eb g_li g_st g_rd g_tu g_la g_dl g_sh g_tb, wG cI (a 11) (a 12) (a 13) (a 14) (a 15) (a 16) (a 17) (a 18) (a 19) (a 20) z_ft z_er z_eb z_li z_st z_rd z_tu z_la z_dl z_sh z_tb, wH cI cG (fun i => a (21 + i)) yc yp yg, wS cI (a 63) (a 64) (a 65) (a 66) (a 67) tx cm]) ⟨hx, hb, hml, hown, hts⟩ (cX5_within_ok l G cI cG p1 (0 : Int32) (x1 - (1 : Int32)) x2 ex2) (va_cwS 3 hts gX5_requireEffect_X5_within_33 rfl rfl rfl hdX5_within ⟨Nat.le_of_ble_eq_true rfl, Nat.le_of_ble_eq_true rfl⟩) hP hD hS hA hK [] rfl rfl rfl rfl rfl rfl rfl rfl rfl hl.1 (Nat.le_of_ble_eq_true rfl) dX5_requireEffect_11 ⟨Nat.zero_le _, Nat.zero_le _⟩ (fun H locs hP hD hS => ?_)
  refine lv_if_ne (tgt := 27) hx hb dX5_requireEffect_14 (by decide) (fun hc => ?_) (fun hc => ?_)
  · have h := o_f h hc
    obtain rfl := o_s h
    rw [hQ]
    exact end_v hx hb hr hP hD hS dX5_requireEffect_27 hlocks
  · have h := o_t h hc
    exact o_n h
theorem hdX5_effect : yX5_effect.cls = RX5 ∧ yX5_effect.cls ≠ "java/lang/invoke/MethodHandle" ∧ yX5_effect.cls ≠ "java/lang/invoke/VarHandle" ∧ (parseMethodDescriptor yX5_effect.desc).map (fun d => d.parameters.length) = some 2 := by decide +kernel
set_option maxHeartbeats 4000000 in
set_option maxRecDepth 100000 in
theorem cX5_effect_ok (l : Launch) (G : va_G) (cI cG : ClassId) (a : Nat → Nat) (g_ft : Tab) (g_er : Tab) (g_eb : Int32) (g_li : Tab) (g_st : Tab) (g_rd : Int32) (g_tu : Int32) (g_la : Int32) (g_dl : Bool) (g_sh : Int32) (g_tb : Int32) (z_ft : Tab) (z_er : Tab) (z_eb : Int32) (z_li : Tab) (z_st : Tab) (z_rd : Int32) (z_tu : Int32) (z_la : Int32) (z_dl : Bool) (z_sh : Int32) (z_tb : Int32) (yc : Int32) (yp : (Nat → Nat)) (yg : (Nat → GV)) (tx : Tab) (cm : Tab) (p1 : Int32) (p2 : Int32) (out : Int32) (hf : fX5_effect g_er p1 p2 = some out) : CI l G (tyz cI cG) yX5_effect wsX5_effect ({ frames := 4, cells := 0, slots := 0, locals := 81 } : Room) [.ref (a 0), .int p1, .int p2] (([[((a 0), .inr (5, [.ref (a 1), .ref (a 11), .ref (a 21), .ref (a 63)]))], wG cI (a 1) (a 2) (a 3) (a 4) (a 5) (a 6) (a 7) (a 8) (a 9) (a 10) g_ft g_er g_eb g_li g_st g_rd g_tu g_la g_dl g_sh g_tb, wG cI (a 11) (a 12) (a 13) (a 14) (a 15) (a 16) (a 17) (a 18) (a 19) (a 20) z_ft z_er z_eb z_li z_st z_rd z_tu z_la z_dl z_sh z_tb, wH cI cG (fun i => a (21 + i)) yc yp yg, wS cI (a 63) (a 64) (a 65) (a 66) (a 67) tx cm] : List va_W).flatten) out (([[((a 0), .inr (5, [.ref (a 1), .ref (a 11), .ref (a 21), .ref (a 63)]))], wG cI (a 1) (a 2) (a 3) (a 4) (a 5) (a 6) (a 7) (a 8) (a 9) (a 10) g_ft g_er g_eb g_li g_st g_rd g_tu g_la g_dl g_sh g_tb, wG cI (a 11) (a 12) (a 13) (a 14) (a 15) (a 16) (a 17) (a 18) (a 19) (a 20) z_ft z_er z_eb z_li z_st z_rd z_tu z_la z_dl z_sh z_tb, wH cI cG (fun i => a (21 + i)) yc yp yg, wS cI (a 63) (a 64) (a 65) (a 66) (a 67) tx cm] : List va_W).flatten) := by
  intro sz
  refine Met.ofW (cc := cX5_effect) (maxL := 3) (ret := (some .int)) (by decide) rfl ?_
  intro p e s m args below meth c s₁ B hml hv
  obtain ⟨rfl, hsz, hP, hK, hD0⟩ := hv
  have hx := B.exec
  have hb := B.bytes
  have hr := B.returns
  have hts := atoms_spec (ws := wsX5_effect) B.pre
  have hown : s.vm.findClass RX5 = some m.cls := findClass_of_methodNamed B.named
  have hlocks := B.notSynchronized
  subst hsz
  have hD := hD0.self (sz := s.heap.size)
  generalize hAe : va_A (([[((a 0), .inr (5, [.ref (a 1), .ref (a 11), .ref (a 21), .ref (a 63)]))], wG cI (a 1) (a 2) (a 3) (a 4) (a 5) (a 6) (a 7) (a 8) (a 9) (a 10) g_ft g_er g_eb g_li g_st g_rd g_tu g_la g_dl g_sh g_tb, wG cI (a 11) (a 12) (a 13) (a 14) (a 15) (a 16) (a 17) (a 18) (a 19) (a 20) z_ft z_er z_eb z_li z_st z_rd z_tu z_la z_dl z_sh z_tb, wH cI cG (fun i => a (21 + i)) yc yp yg, wS cI (a 63) (a 64) (a 65) (a 66) (a 67) tx cm] : List va_W).flatten) s.heap.size = A at hD ⊢
  have hA : ∀ q : Nat, s.heap.size ≤ q → A q := fun q h => by rw [← hAe]; exact Or.inr h
  have hS : va_S A s.heap s.heap [] := va_S.rf
  have hw0 := hts (.fieldLink RX5 10 "SpeedTurns" "game" "LSpeedTurns$Game;") (List.mem_of_getElem? (i := 7) rfl)
  show W p l e ({ frames := 4, cells := 0, slots := 0, locals := 81 } : Room) s m _ below meth c s.heap [] 0 0 _ _
  refine W_genQ (fun Q hQ => ?_)
  have h := hf
  rw [fX5_effect] at h
  have hl := lv_entry ([.ref (a 0), .int p1, .int p2]) (n := 3) (Nat.le_of_ble_eq_true rfl)
  rw [lg_entry_eq]
  generalize (lg_sl ([.ref (a 0), .int p1, .int p2]) ++ List.replicate (3 - (lg_sl ([.ref (a 0), .int p1, .int p2])).length) Slot.unset).toArray = ls at hl ⊢
  have hl : lv_has ls 3 [(0, .ref (a 0)), (1, .int p1), (2, .int p2)] := hl
  refine lv_aload_n hx hb dX5_effect_0 rfl (lv_at hl 0 rfl) ?_
  refine lv_iload_n hx hb dX5_effect_1 rfl (lv_at hl 1 rfl) ?_
  obtain ⟨x1, ex1, h⟩ := o_b h
  refine bcall_vV (As := [.int p1]) (rest := []) (c0 := [[((a 0), .inr (5, [.ref (a 1), .ref (a 11), .ref (a 21), .ref (a 63)]))], wG cI (a 1) (a 2) (a 3) (a 4) (a 5) (a 6) (a 7) (a 8) (a 9) (a 10) g_ft g_er g_eb g_li g_st g_rd g_tu g_la g_dl g_sh g_tb, wG cI (a 11) (a 12) (a 13) (a 14) (a 15) (a 16) (a 17) (a 18) (a 19) (a 20) z_ft z_er z_eb z_li z_st z_rd z_tu z_la z_dl z_sh z_tb, wH cI cG (fun i => a (21 + i)) yc yp yg, wS cI (a 63) (a 64) (a 65) (a 66) (a 67) tx cm]) (c1 := [[((a 0), .inr (5, [.ref (a 1), .ref (a 11), .ref (a 21), .ref (a 63)]))], wG cI (a 1) (a 2) (a 3) (a 4) (a 5) (a 6) (a 7) (a 8) (a 9) (a 10) g_ft g_er g_eb g_li g_st g_rd g_tu g_la g_dl g_sh g_tb, wG cI (a 11) (a 12) (a 13) (a 14) (a 15) (a 16) (a 17) (a 18) (a 19) (a 20) z_ft z_er z_eb z_li z_st z_rd z_tu z_la z_dl z_sh z_tb, wH cI cG (fun i => a (21 + i)) yc yp yg, wS cI (a 63) (a 64) (a 65) (a 66) (a 67) tx cm]) (bs2 := [[((a 0), .inr (5, [.ref (a 1), .ref (a 11), .ref (a 21), .ref (a 63)]))], wG cI (a 1) (a 2) (a 3) (a 4) (a 5) (a 6) (a 7) (a 8) (a 9) (a 10) g_ft g_er g_eb g_li g_st g_rd g_tu g_la g_dl g_sh g_tb, wG cI (a 11) (a 12) (a 13) (a 14) (a 15) (a 16) (a 17) (a 18) (a 19) (a 20) z_ft z_er z_eb z_li z_st z_rd z_tu z_la z_dl z_sh z_tb, wH cI cG (fun i => a (21 + i)) yc yp yg, wS cI (a 63) (a 64) (a 65) (a 66) (a 67) tx cm]) ⟨hx, hb, hml, hown, hts⟩ (cX5_requireEffect_ok l G cI cG a g_ft g_er g_eb g_li g_st g_rd g_tu g_la g_dl g_sh g_tb z_ft z_er z_eb z_li z_st z_rd z_tu z_la z_dl z_sh z_tb yc yp yg tx cm p1 x1 ex1) (cwV 1 hts gX5_effect_X5_requireEffect_79 rfl rfl rfl hdX5_requireEffect ⟨Nat.le_of_ble_eq_true rfl, Nat.le_of_ble_eq_true rfl⟩) hP hD hS hA hK 5 rfl rfl rfl [0, 1, 2, 3, 4] rfl rfl rfl rfl rfl rfl rfl rfl rfl hl.1 (Nat.le_of_ble_eq_true rfl) dX5_effect_2 ⟨Nat.zero_le _, Nat.zero_le _⟩ (fun H locs hP hD hS => ?_)
  refine lv_iload_n hx hb dX5_effect_5 rfl (lv_at hl 2 rfl) ?_
  refine lv_iconst (v := 0) hx hb dX5_effect_6 (by decide) ?_
  refine lv_bipush (v := 6) hx hb dX5_effect_7 (by decide) ?_
  obtain ⟨x2, ex2, h⟩ := o_b h
  refine bcall_vS (As := [.int p2, .int (0 : Int32), .int (6 : Int32)]) (rest := []) (c0 := []) (c1 := []) (bs2 := [[((a 0), .inr (5, [.ref (a 1), .ref (a 11), .ref (a 21), .ref (a 63)]))], wG cI (a 1) (a 2) (a 3) (a 4) (a 5) (a 6) (a 7) (a 8) (a 9) (a 10) g_ft g_er g_eb g_li g_st g_rd g_tu g_la g_dl g_sh g_tb, wG cI (a 11) (a 12) (a 13) (a 14) (a 15) (a 16) (a 17) (a 18) (a 19) (a 20) z_ft z_er z_eb z_li z_st z_rd z_tu z_la z_dl z_sh z_tb, wH cI cG (fun i => a (21 + i)) yc yp yg, wS cI (a 63) (a 64) (a 65) (a 66) (a 67) tx cm]) ⟨hx, hb, hml, hown, hts⟩ (cX5_requireWithin_ok l G cI cG p2 (0 : Int32) (6 : Int32) x2 ex2) (va_cwS 3 hts gX5_effect_X5_requireWithin_65 rfl rfl rfl hdX5_requireWithin ⟨Nat.le_of_ble_eq_true rfl, Nat.le_of_ble_eq_true rfl⟩) hP hD hS hA hK [] rfl rfl rfl rfl rfl rfl rfl rfl rfl hl.1 (Nat.le_of_ble_eq_true rfl) dX5_effect_9 ⟨Nat.zero_le _, Nat.zero_le _⟩ (fun H locs hP hD hS => ?_)
  refine lv_aload_n hx hb dX5_effect_12 rfl (lv_at hl 0 rfl) ?_
  refine va_get (D := G) (ci := 5) (v := .ref (a 1)) (C := RX5) (T := TX5) (N := 4) hx hb hts huX5_effect_X5 hown hK.1 hP 0 rfl rfl 0 (by decide) hw0 (fun _ h9 => h9) rfl dX5_effect_13 ?_
  refine lv_iload_n hx hb dX5_effect_16 rfl (lv_at hl 1 rfl) ?_
  refine lv_iload_n hx hb dX5_effect_17 rfl (lv_at hl 2 rfl) ?_
  obtain ⟨x3, ex3, h⟩ := o_b h
  refine bcall_iV (As := [.int p1, .int p2]) (rest := []) (c0 := [wG cI (a 1) (a 2) (a 3) (a 4) (a 5) (a 6) (a 7) (a 8) (a 9) (a 10) g_ft g_er g_eb g_li g_st g_rd g_tu g_la g_dl g_sh g_tb]) (c1 := [wG cI (a 1) (a 2) (a 3) (a 4) (a 5) (a 6) (a 7) (a 8) (a 9) (a 10) g_ft g_er g_eb g_li g_st g_rd g_tu g_la g_dl g_sh g_tb]) (bs2 := [[((a 0), .inr (5, [.ref (a 1), .ref (a 11), .ref (a 21), .ref (a 63)]))], wG cI (a 1) (a 2) (a 3) (a 4) (a 5) (a 6) (a 7) (a 8) (a 9) (a 10) g_ft g_er g_eb g_li g_st g_rd g_tu g_la g_dl g_sh g_tb, wG cI (a 11) (a 12) (a 13) (a 14) (a 15) (a 16) (a 17) (a 18) (a 19) (a 20) z_ft z_er z_eb z_li z_st z_rd z_tu z_la z_dl z_sh z_tb, wH cI cG (fun i => a (21 + i)) yc yp yg, wS cI (a 63) (a 64) (a 65) (a 66) (a 67) tx cm]) ⟨hx, hb, hml, hown, hts⟩ (cX1_aboutEffect_ok l G cI cG (a 1) (a 2) (a 3) (a 4) (a 5) (a 6) (a 7) (a 8) (a 9) (a 10) g_ft g_er g_eb g_li g_st g_rd g_tu g_la g_dl g_sh g_tb p1 p2 x3 ex3) (cwV 2 hts gX5_effect_X1_aboutEffect_82 rfl rfl rfl hdX1_aboutEffect ⟨Nat.le_of_ble_eq_true rfl, Nat.le_of_ble_eq_true rfl⟩) hP hD hS hA hK 1 rfl rfl rfl [1] rfl rfl rfl rfl rfl rfl rfl rfl rfl hl.1 (Nat.le_of_ble_eq_true rfl) dX5_effect_18 ⟨Nat.zero_le _, Nat.zero_le _⟩ (fun H locs hP hD hS => ?_)
  obtain rfl := o_s h
  rw [hQ]
  exact end_i hx hb hr rfl hP hD hS dX5_effect_21 hlocks
theorem hdX5_value : yX5_value.cls = RX5 ∧ yX5_value.cls ≠ "java/lang/invoke/MethodHandle" ∧ yX5_value.cls ≠ "java/lang/invoke/VarHandle" ∧ (parseMethodDescriptor yX5_value.desc).map (fun d => d.parameters.length) = some 1 := by decide +kernel
set_option maxHeartbeats 4000000 in
set_option maxRecDepth 100000 in
theorem cX5_value_ok (l : Launch) (G : va_G) (cI cG : ClassId) (a : Nat → Nat) (fu : Nat) (g_ft : Tab) (g_er : Tab) (g_eb : Int32) (g_li : Tab) (g_st : Tab) (g_rd : Int32) (g_tu : Int32) (g_la : Int32) (g_dl : Bool) (g_sh : Int32) (g_tb : Int32) (z_ft : Tab) (z_er : Tab) (z_eb : Int32) (z_li : Tab) (z_st : Tab) (z_rd : Int32) (z_tu : Int32) (z_la : Int32) (z_dl : Bool) (z_sh : Int32) (z_tb : Int32) (yc : Int32) (yp : (Nat → Nat)) (yg : (Nat → GV)) (tx : Tab) (cm : Tab) (p1 : Int32) (out : Int32) (hf : fX5_value fu g_ft g_er g_eb g_st g_rd g_tu g_sh g_tb p1 = some out) : CI l G (tyz cI cG) yX5_value wsX5_value ({ frames := 4, cells := 0, slots := 0, locals := 87 } : Room) [.ref (a 0), .int p1] (([[((a 0), .inr (5, [.ref (a 1), .ref (a 11), .ref (a 21), .ref (a 63)]))], wG cI (a 1) (a 2) (a 3) (a 4) (a 5) (a 6) (a 7) (a 8) (a 9) (a 10) g_ft g_er g_eb g_li g_st g_rd g_tu g_la g_dl g_sh g_tb, wG cI (a 11) (a 12) (a 13) (a 14) (a 15) (a 16) (a 17) (a 18) (a 19) (a 20) z_ft z_er z_eb z_li z_st z_rd z_tu z_la z_dl z_sh z_tb, wH cI cG (fun i => a (21 + i)) yc yp yg, wS cI (a 63) (a 64) (a 65) (a 66) (a 67) tx cm] : List va_W).flatten) out (([[((a 0), .inr (5, [.ref (a 1), .ref (a 11), .ref (a 21), .ref (a 63)]))], wG cI (a 1) (a 2) (a 3) (a 4) (a 5) (a 6) (a 7) (a 8) (a 9) (a 10) g_ft g_er g_eb g_li g_st g_rd g_tu g_la g_dl g_sh g_tb, wG cI (a 11) (a 12) (a 13) (a 14) (a 15) (a 16) (a 17) (a 18) (a 19) (a 20) z_ft z_er z_eb z_li z_st z_rd z_tu z_la z_dl z_sh z_tb, wH cI cG (fun i => a (21 + i)) yc yp yg, wS cI (a 63) (a 64) (a 65) (a 66) (a 67) tx cm] : List va_W).flatten) := by
  intro sz
  refine Met.ofW (cc := cX5_value) (maxL := 2) (ret := (some .int)) (by decide) rfl ?_
  intro p e s m args below meth c s₁ B hml hv
  obtain ⟨rfl, hsz, hP, hK, hD0⟩ := hv
  have hx := B.exec
  have hb := B.bytes
  have hr := B.returns
  have hts := atoms_spec (ws := wsX5_value) B.pre
  have hown : s.vm.findClass RX5 = some m.cls := findClass_of_methodNamed B.named
  have hlocks := B.notSynchronized
  subst hsz
  have hD := hD0.self (sz := s.heap.size)
  generalize hAe : va_A (([[((a 0), .inr (5, [.ref (a 1), .ref (a 11), .ref (a 21), .ref (a 63)]))], wG cI (a 1) (a 2) (a 3) (a 4) (a 5) (a 6) (a 7) (a 8) (a 9) (a 10) g_ft g_er g_eb g_li g_st g_rd g_tu g_la g_dl g_sh g_tb, wG cI (a 11) (a 12) (a 13) (a 14) (a 15) (a 16) (a 17) (a 18) (a 19) (a 20) z_ft z_er z_eb z_li z_st z_rd z_tu z_la z_dl z_sh z_tb, wH cI cG (fun i => a (21 + i)) yc yp yg, wS cI (a 63) (a 64) (a 65) (a 66) (a 67) tx cm] : List va_W).flatten) s.heap.size = A at hD ⊢
  have hA : ∀ q : Nat, s.heap.size ≤ q → A q := fun q h => by rw [← hAe]; exact Or.inr h
  have hS : va_S A s.heap s.heap [] := va_S.rf
  have hw0 := hts (.fieldLink RX5 10 "SpeedTurns" "game" "LSpeedTurns$Game;") (List.mem_of_getElem? (i := 4) rfl)
  show W p l e ({ frames := 4, cells := 0, slots := 0, locals := 87 } : Room) s m _ below meth c s.heap [] 0 0 _ _
  refine W_genQ (fun Q hQ => ?_)
  have h := hf
  rw [fX5_value] at h
  have hl := lv_entry ([.ref (a 0), .int p1]) (n := 2) (Nat.le_of_ble_eq_true rfl)
  rw [lg_entry_eq]
  generalize (lg_sl ([.ref (a 0), .int p1]) ++ List.replicate (2 - (lg_sl ([.ref (a 0), .int p1])).length) Slot.unset).toArray = ls at hl ⊢
  have hl : lv_has ls 2 [(0, .ref (a 0)), (1, .int p1)] := hl
  refine lv_iload_n hx hb dX5_value_0 rfl (lv_at hl 1 rfl) ?_
  refine lv_iconst (v := 0) hx hb dX5_value_1 (by decide) ?_
  refine lv_bipush (v := 8) hx hb dX5_value_2 (by decide) ?_
  obtain ⟨x1, ex1, h⟩ := o_b h
  refine bcall_vS (As := [.int p1, .int (0 : Int32), .int (8 : Int32)]) (rest := []) (c0 := []) (c1 := []) (bs2 := [[((a 0), .inr (5, [.ref (a 1), .ref (a 11), .ref (a 21), .ref (a 63)]))], wG cI (a 1) (a 2) (a 3) (a 4) (a 5) (a 6) (a 7) (a 8) (a 9) (a 10) g_ft g_er g_eb g_li g_st g_rd g_tu g_la g_dl g_sh g_tb, wG cI (a 11) (a 12) (a 13) (a 14) (a 15) (a 16) (a 17) (a 18) (a 19) (a 20) z_ft z_er z_eb z_li z_st z_rd z_tu z_la z_dl z_sh z_tb, wH cI cG (fun i => a (21 + i)) yc yp yg, wS cI (a 63) (a 64) (a 65) (a 66) (a 67) tx cm]) ⟨hx, hb, hml, hown, hts⟩ (cX5_requireWithin_ok l G cI cG p1 (0 : Int32) (8 : Int32) x1 ex1) (va_cwS 3 hts gX5_value_X5_requireWithin_65 rfl rfl rfl hdX5_requireWithin ⟨Nat.le_of_ble_eq_true rfl, Nat.le_of_ble_eq_true rfl⟩) hP hD hS hA hK [] rfl rfl rfl rfl rfl rfl rfl rfl rfl hl.1 (Nat.le_of_ble_eq_true rfl) dX5_value_4 ⟨Nat.zero_le _, Nat.zero_le _⟩ (fun H locs hP hD hS => ?_)
  refine lv_aload_n hx hb dX5_value_7 rfl (lv_at hl 0 rfl) ?_
  refine va_get (D := G) (ci := 5) (v := .ref (a 1)) (C := RX5) (T := TX5) (N := 4) hx hb hts huX5_value_X5 hown hK.1 hP 0 rfl rfl 0 (by decide) hw0 (fun _ h9 => h9) rfl dX5_value_8 ?_
  refine lv_iload_n hx hb dX5_value_11 rfl (lv_at hl 1 rfl) ?_
  obtain ⟨x2, ex2, h⟩ := o_b h
  refine bcall_iV (As := [.int p1]) (rest := []) (c0 := [wG cI (a 1) (a 2) (a 3) (a 4) (a 5) (a 6) (a 7) (a 8) (a 9) (a 10) g_ft g_er g_eb g_li g_st g_rd g_tu g_la g_dl g_sh g_tb]) (c1 := [wG cI (a 1) (a 2) (a 3) (a 4) (a 5) (a 6) (a 7) (a 8) (a 9) (a 10) g_ft g_er g_eb g_li g_st g_rd g_tu g_la g_dl g_sh g_tb]) (bs2 := [[((a 0), .inr (5, [.ref (a 1), .ref (a 11), .ref (a 21), .ref (a 63)]))], wG cI (a 1) (a 2) (a 3) (a 4) (a 5) (a 6) (a 7) (a 8) (a 9) (a 10) g_ft g_er g_eb g_li g_st g_rd g_tu g_la g_dl g_sh g_tb, wG cI (a 11) (a 12) (a 13) (a 14) (a 15) (a 16) (a 17) (a 18) (a 19) (a 20) z_ft z_er z_eb z_li z_st z_rd z_tu z_la z_dl z_sh z_tb, wH cI cG (fun i => a (21 + i)) yc yp yg, wS cI (a 63) (a 64) (a 65) (a 66) (a 67) tx cm]) ⟨hx, hb, hml, hown, hts⟩ (cX1_number_ok l G cI cG (a 1) (a 2) (a 3) (a 4) (a 5) (a 6) (a 7) (a 8) (a 9) (a 10) fu g_ft g_er g_eb g_li g_st g_rd g_tu g_la g_dl g_sh g_tb p1 x2 ex2) (cwV 1 hts gX5_value_X1_number_85 rfl rfl rfl hdX1_number ⟨Nat.le_of_ble_eq_true rfl, Nat.le_of_ble_eq_true rfl⟩) hP hD hS hA hK 1 rfl rfl rfl [1] rfl rfl rfl rfl rfl rfl rfl rfl rfl hl.1 (Nat.le_of_ble_eq_true rfl) dX5_value_12 ⟨Nat.zero_le _, Nat.zero_le _⟩ (fun H locs hP hD hS => ?_)
  obtain rfl := o_s h
  rw [hQ]
  exact end_i hx hb hr rfl hP hD hS dX5_value_15 hlocks
theorem hdX5_inList : yX5_inList.cls = RX5 ∧ yX5_inList.cls ≠ "java/lang/invoke/MethodHandle" ∧ yX5_inList.cls ≠ "java/lang/invoke/VarHandle" ∧ (parseMethodDescriptor yX5_inList.desc).map (fun d => d.parameters.length) = some 1 := by decide +kernel
set_option maxHeartbeats 4000000 in
set_option maxRecDepth 100000 in
theorem cX5_inList_ok (l : Launch) (G : va_G) (cI cG : ClassId) (a : Nat → Nat) (g_ft : Tab) (g_er : Tab) (g_eb : Int32) (g_li : Tab) (g_st : Tab) (g_rd : Int32) (g_tu : Int32) (g_la : Int32) (g_dl : Bool) (g_sh : Int32) (g_tb : Int32) (z_ft : Tab) (z_er : Tab) (z_eb : Int32) (z_li : Tab) (z_st : Tab) (z_rd : Int32) (z_tu : Int32) (z_la : Int32) (z_dl : Bool) (z_sh : Int32) (z_tb : Int32) (yc : Int32) (yp : (Nat → Nat)) (yg : (Nat → GV)) (tx : Tab) (cm : Tab) (p1 : Int32) (out : Int32) (hf : fX5_inList g_li p1 = some out) : CI l G (tyz cI cG) yX5_inList wsX5_inList ({ frames := 2, cells := 0, slots := 0, locals := 44 } : Room) [.ref (a 0), .int p1] (([[((a 0), .inr (5, [.ref (a 1), .ref (a 11), .ref (a 21), .ref (a 63)]))], wG cI (a 1) (a 2) (a 3) (a 4) (a 5) (a 6) (a 7) (a 8) (a 9) (a 10) g_ft g_er g_eb g_li g_st g_rd g_tu g_la g_dl g_sh g_tb, wG cI (a 11) (a 12) (a 13) (a 14) (a 15) (a 16) (a 17) (a 18) (a 19) (a 20) z_ft z_er z_eb z_li z_st z_rd z_tu z_la z_dl z_sh z_tb, wH cI cG (fun i => a (21 + i)) yc yp yg, wS cI (a 63) (a 64) (a 65) (a 66) (a 67) tx cm] : List va_W).flatten) out (([[((a 0), .inr (5, [.ref (a 1), .ref (a 11), .ref (a 21), .ref (a 63)]))], wG cI (a 1) (a 2) (a 3) (a 4) (a 5) (a 6) (a 7) (a 8) (a 9) (a 10) g_ft g_er g_eb g_li g_st g_rd g_tu g_la g_dl g_sh g_tb, wG cI (a 11) (a 12) (a 13) (a 14) (a 15) (a 16) (a 17) (a 18) (a 19) (a 20) z_ft z_er z_eb z_li z_st z_rd z_tu z_la z_dl z_sh z_tb, wH cI cG (fun i => a (21 + i)) yc yp yg, wS cI (a 63) (a 64) (a 65) (a 66) (a 67) tx cm] : List va_W).flatten) := by
  intro sz
  refine Met.ofW (cc := cX5_inList) (maxL := 2) (ret := (some .int)) (by decide) rfl ?_
  intro p e s m args below meth c s₁ B hml hv
  obtain ⟨rfl, hsz, hP, hK, hD0⟩ := hv
  have hx := B.exec
  have hb := B.bytes
  have hr := B.returns
  have hts := atoms_spec (ws := wsX5_inList) B.pre
  have hown : s.vm.findClass RX5 = some m.cls := findClass_of_methodNamed B.named
  have hlocks := B.notSynchronized
  subst hsz
  have hD := hD0.self (sz := s.heap.size)
  generalize hAe : va_A (([[((a 0), .inr (5, [.ref (a 1), .ref (a 11), .ref (a 21), .ref (a 63)]))], wG cI (a 1) (a 2) (a 3) (a 4) (a 5) (a 6) (a 7) (a 8) (a 9) (a 10) g_ft g_er g_eb g_li g_st g_rd g_tu g_la g_dl g_sh g_tb, wG cI (a 11) (a 12) (a 13) (a 14) (a 15) (a 16) (a 17) (a 18) (a 19) (a 20) z_ft z_er z_eb z_li z_st z_rd z_tu z_la z_dl z_sh z_tb, wH cI cG (fun i => a (21 + i)) yc yp yg, wS cI (a 63) (a 64) (a 65) (a 66) (a 67) tx cm] : List va_W).flatten) s.heap.size = A at hD ⊢
  have hA : ∀ q : Nat, s.heap.size ≤ q → A q := fun q h => by rw [← hAe]; exact Or.inr h
  have hS : va_S A s.heap s.heap [] := va_S.rf
  have hw0 := hts (.fieldLink RX5 10 "SpeedTurns" "game" "LSpeedTurns$Game;") (List.mem_of_getElem? (i := 1) rfl)
  show W p l e ({ frames := 2, cells := 0, slots := 0, locals := 44 } : Room) s m _ below meth c s.heap [] 0 0 _ _
  refine W_genQ (fun Q hQ => ?_)
  have h := hf
  rw [fX5_inList] at h
  have hl := lv_entry ([.ref (a 0), .int p1]) (n := 2) (Nat.le_of_ble_eq_true rfl)
  rw [lg_entry_eq]
  generalize (lg_sl ([.ref (a 0), .int p1]) ++ List.replicate (2 - (lg_sl ([.ref (a 0), .int p1])).length) Slot.unset).toArray = ls at hl ⊢
  have hl : lv_has ls 2 [(0, .ref (a 0)), (1, .int p1)] := hl
  refine lv_iload_n hx hb dX5_inList_0 rfl (lv_at hl 1 rfl) ?_
  refine lv_iconst (v := 0) hx hb dX5_inList_1 (by decide) ?_
  refine lv_aload_n hx hb dX5_inList_2 rfl (lv_at hl 0 rfl) ?_
  refine va_get (D := G) (ci := 5) (v := .ref (a 1)) (C := RX5) (T := TX5) (N := 4) hx hb hts huX5_inList_X5 hown hK.1 hP 0 rfl rfl 0 (by decide) hw0 (fun _ h9 => h9) rfl dX5_inList_3 ?_
  obtain ⟨x1, ex1, h⟩ := o_b h
  refine bcall_iV (As := []) (rest := [.int (0 : Int32), .int p1]) (c0 := [wG cI (a 1) (a 2) (a 3) (a 4) (a 5) (a 6) (a 7) (a 8) (a 9) (a 10) g_ft g_er g_eb g_li g_st g_rd g_tu g_la g_dl g_sh g_tb]) (c1 := [wG cI (a 1) (a 2) (a 3) (a 4) (a 5) (a 6) (a 7) (a 8) (a 9) (a 10) g_ft g_er g_eb g_li g_st g_rd g_tu g_la g_dl g_sh g_tb]) (bs2 := [[((a 0), .inr (5, [.ref (a 1), .ref (a 11), .ref (a 21), .ref (a 63)]))], wG cI (a 1) (a 2) (a 3) (a 4) (a 5) (a 6) (a 7) (a 8) (a 9) (a 10) g_ft g_er g_eb g_li g_st g_rd g_tu g_la g_dl g_sh g_tb, wG cI (a 11) (a 12) (a 13) (a 14) (a 15) (a 16) (a 17) (a 18) (a 19) (a 20) z_ft z_er z_eb z_li z_st z_rd z_tu z_la z_dl z_sh z_tb, wH cI cG (fun i => a (21 + i)) yc yp yg, wS cI (a 63) (a 64) (a 65) (a 66) (a 67) tx cm]) ⟨hx, hb, hml, hown, hts⟩ (cX1_listLength_ok l G cI cG (a 1) (a 2) (a 3) (a 4) (a 5) (a 6) (a 7) (a 8) (a 9) (a 10) g_ft g_er g_eb g_li g_st g_rd g_tu g_la g_dl g_sh g_tb x1 ex1) (cwV 0 hts gX5_inList_X1_listLength_88 rfl rfl rfl hdX1_listLength ⟨Nat.le_of_ble_eq_true rfl, Nat.le_of_ble_eq_true rfl⟩) hP hD hS hA hK 1 rfl rfl rfl [1] rfl rfl rfl rfl rfl rfl rfl rfl rfl hl.1 (Nat.le_of_ble_eq_true rfl) dX5_inList_6 ⟨Nat.zero_le _, Nat.zero_le _⟩ (fun H locs hP hD hS => ?_)
  refine lv_iconst (v := 1) hx hb dX5_inList_9 (by decide) ?_
  refine lv_isub hx hb dX5_inList_10 ?_
  obtain ⟨x2, ex2, h⟩ := o_b h
  refine bcall_iS (As := [.int p1, .int (0 : Int32), .int (x1 - (1 : Int32))]) (rest := []) (c0 := []) (c1 := []) (bs2 := [[((a 0), .inr (5, [.ref (a 1), .ref (a 11), .ref (a 21), .ref (a 63)]))], wG cI (a 1) (a 2) (a 3) (a 4) (a 5) (a 6) (a 7) (a 8) (a 9) (a 10) g_ft g_er g_eb g_li g_st g_rd g_tu g_la g_dl g_sh g_tb, wG cI (a 11) (a 12) (a 13) (a 14) (a 15) (a 16) (a 17) (a 18) (a 19) (a 20) z_ft z_er z_eb z_li z_st z_rd z_tu z_la z_dl z_sh z_tb, wH cI cG (fun i => a (21 + i)) yc yp yg, wS cI (a 63) (a 64) (a 65) (a 66) (a 67) tx cm]) ⟨hx, hb, hml, hown, hts⟩ (cX5_within_ok l G cI cG p1 (0 : Int32) (x1 - (1 : Int32)) x2 ex2) (va_cwS 3 hts gX5_inList_X5_within_33 rfl rfl rfl hdX5_within ⟨Nat.le_of_ble_eq_true rfl, Nat.le_of_ble_eq_true rfl⟩) hP hD hS hA hK [] rfl rfl rfl rfl rfl rfl rfl rfl rfl hl.1 (Nat.le_of_ble_eq_true rfl) dX5_inList_11 ⟨Nat.zero_le _, Nat.zero_le _⟩ (fun H locs hP hD hS => ?_)
  refine lv_if_ne (tgt := 27) hx hb dX5_inList_14 (by decide) (fun hc => ?_) (fun hc => ?_)
  · have h := o_f h hc
    refine lv_aload_n hx hb dX5_inList_27 rfl (lv_at hl 0 rfl) ?_
    refine va_get (D := G) (ci := 5) (v := .ref (a 1)) (C := RX5) (T := TX5) (N := 4) hx hb hts huX5_inList_X5 hown hK.1 hP 0 rfl rfl 0 (by decide) hw0 (fun _ h9 => h9) rfl dX5_inList_28 ?_
    refine lv_iload_n hx hb dX5_inList_31 rfl (lv_at hl 1 rfl) ?_
    obtain ⟨x3, ex3, h⟩ := o_b h
    refine bcall_iV (As := [.int p1]) (rest := []) (c0 := [wG cI (a 1) (a 2) (a 3) (a 4) (a 5) (a 6) (a 7) (a 8) (a 9) (a 10) g_ft g_er g_eb g_li g_st g_rd g_tu g_la g_dl g_sh g_tb]) (c1 := [wG cI (a 1) (a 2) (a 3) (a 4) (a 5) (a 6) (a 7) (a 8) (a 9) (a 10) g_ft g_er g_eb g_li g_st g_rd g_tu g_la g_dl g_sh g_tb]) (bs2 := [[((a 0), .inr (5, [.ref (a 1), .ref (a 11), .ref (a 21), .ref (a 63)]))], wG cI (a 1) (a 2) (a 3) (a 4) (a 5) (a 6) (a 7) (a 8) (a 9) (a 10) g_ft g_er g_eb g_li g_st g_rd g_tu g_la g_dl g_sh g_tb, wG cI (a 11) (a 12) (a 13) (a 14) (a 15) (a 16) (a 17) (a 18) (a 19) (a 20) z_ft z_er z_eb z_li z_st z_rd z_tu z_la z_dl z_sh z_tb, wH cI cG (fun i => a (21 + i)) yc yp yg, wS cI (a 63) (a 64) (a 65) (a 66) (a 67) tx cm]) ⟨hx, hb, hml, hown, hts⟩ (cX1_listed_ok l G cI cG (a 1) (a 2) (a 3) (a 4) (a 5) (a 6) (a 7) (a 8) (a 9) (a 10) g_ft g_er g_eb g_li g_st g_rd g_tu g_la g_dl g_sh g_tb p1 x3 ex3) (cwV 1 hts gX5_inList_X1_listed_96 rfl rfl rfl hdX1_listed ⟨Nat.le_of_ble_eq_true rfl, Nat.le_of_ble_eq_true rfl⟩) hP hD hS hA hK 1 rfl rfl rfl [1] rfl rfl rfl rfl rfl rfl rfl rfl rfl hl.1 (Nat.le_of_ble_eq_true rfl) dX5_inList_32 ⟨Nat.zero_le _, Nat.zero_le _⟩ (fun H locs hP hD hS => ?_)
    obtain rfl := o_s h
    rw [hQ]
    exact end_i hx hb hr rfl hP hD hS dX5_inList_35 hlocks
  · have h := o_t h hc
    exact o_n h
theorem hdX5_requirePossible : yX5_requirePossible.cls ≠ "java/lang/invoke/MethodHandle" ∧ yX5_requirePossible.cls ≠ "java/lang/invoke/VarHandle" ∧ (parseMethodDescriptor yX5_requirePossible.desc).map (fun d => d.parameters.length) = some 1 := by decide +kernel
set_option maxHeartbeats 4000000 in
set_option maxRecDepth 100000 in
theorem cX5_requirePossible_ok (l : Launch) (G : va_G) (cI cG : ClassId) (p0 : Bool) (out : Unit) (hf : fX5_requirePossible p0 = some out) : CV l G (tyz cI cG) yX5_requirePossible wsX5_requirePossible ({ frames := 0, cells := 0, slots := 0, locals := 0 } : Room) [.int (bI p0)] (([] : List va_W).flatten) (([] : List va_W).flatten) := by
  intro sz
  refine Met.ofW (cc := cX5_requirePossible) (maxL := 1) (ret := none) (by decide) rfl ?_
  intro p e s m args below meth c s₁ B hml hv
  obtain ⟨rfl, hsz, hP, hK, hD0⟩ := hv
  have hx := B.exec
  have hb := B.bytes
  have hr := B.returns
  have hts := atoms_spec (ws := wsX5_requirePossible) B.pre
  have hown : s.vm.findClass RX5 = some m.cls := findClass_of_methodNamed B.named
  have hlocks := B.notSynchronized
  subst hsz
  have hD := hD0.self (sz := s.heap.size)
  generalize hAe : va_A (([] : List va_W).flatten) s.heap.size = A at hD ⊢
  have hA : ∀ q : Nat, s.heap.size ≤ q → A q := fun q h => by rw [← hAe]; exact Or.inr h
  have hS : va_S A s.heap s.heap [] := va_S.rf
  show W p l e ({ frames := 0, cells := 0, slots := 0, locals := 0 } : Room) s m _ below meth c s.heap [] 0 0 _ _
  refine W_genQ (fun Q hQ => ?_)
  have h := hf
  rw [fX5_requirePossible] at h
  have hl := lv_entry ([.int (bI p0)]) (n := 1) (Nat.le_of_ble_eq_true rfl)
  rw [lg_entry_eq]
  generalize (lg_sl ([.int (bI p0)]) ++ List.replicate (1 - (lg_sl ([.int (bI p0)])).length) Slot.unset).toArray = ls at hl ⊢
  have hl : lv_has ls 1 [(0, .int (bI p0))] := hl
  refine lv_iload_n hx hb dX5_requirePossible_0 rfl (lv_at hl 0 rfl) ?_
  refine lv_if_ne (tgt := 14) hx hb dX5_requirePossible_1 (by decide) (fun hc => ?_) (fun hc => ?_)
  · have h := o_f h hc
    obtain rfl := o_s h
    rw [hQ]
    exact end_v hx hb hr hP hD hS dX5_requirePossible_14 hlocks
  · have h := o_t h hc
    exact o_n h
theorem hdX5_next : yX5_next.cls = RX5 ∧ yX5_next.cls ≠ "java/lang/invoke/MethodHandle" ∧ yX5_next.cls ≠ "java/lang/invoke/VarHandle" ∧ (parseMethodDescriptor yX5_next.desc).map (fun d => d.parameters.length) = some 0 := by decide +kernel
set_option maxHeartbeats 4000000 in
set_option maxRecDepth 100000 in
theorem cX5_next_ok (l : Launch) (G : va_G) (cI cG : ClassId) (a : Nat → Nat) (fu : Nat) (g_ft : Tab) (g_er : Tab) (g_eb : Int32) (g_li : Tab) (g_st : Tab) (g_rd : Int32) (g_tu : Int32) (g_la : Int32) (g_dl : Bool) (g_sh : Int32) (g_tb : Int32) (z_ft : Tab) (z_er : Tab) (z_eb : Int32) (z_li : Tab) (z_st : Tab) (z_rd : Int32) (z_tu : Int32) (z_la : Int32) (z_dl : Bool) (z_sh : Int32) (z_tb : Int32) (yc : Int32) (yp : (Nat → Nat)) (yg : (Nat → GV)) (tx : Tab) (cm : Tab) (out : Int32 × Tab × Tab × Tab × Int32 × Int32 × Int32 × Bool × Int32 × Int32 × (Nat → Nat) × (Nat → GV)) (hf : fX5_next fu g_ft g_er g_eb g_li g_st g_rd g_tu g_la g_dl g_sh g_tb yc yp yg = some out) : CI l G (tyz cI cG) yX5_next wsX5_next ({ frames := 6, cells := 0, slots := 0, locals := 175 } : Room) [.ref (a 0)] (([[((a 0), .inr (5, [.ref (a 1), .ref (a 11), .ref (a 21), .ref (a 63)]))], wG cI (a 1) (a 2) (a 3) (a 4) (a 5) (a 6) (a 7) (a 8) (a 9) (a 10) g_ft g_er g_eb g_li g_st g_rd g_tu g_la g_dl g_sh g_tb, wG cI (a 11) (a 12) (a 13) (a 14) (a 15) (a 16) (a 17) (a 18) (a 19) (a 20) z_ft z_er z_eb z_li z_st z_rd z_tu z_la z_dl z_sh z_tb, wH cI cG (fun i => a (21 + i)) yc yp yg, wS cI (a 63) (a 64) (a 65) (a 66) (a 67) tx cm] : List va_W).flatten) out.1 (([[((a 0), .inr (5, [.ref (a 1), .ref (a 11), .ref (a 21), .ref (a 63)]))], wG cI (a 1) (a 2) (a 3) (a 4) (a 5) (a 6) (a 7) (a 8) (a 9) (a 10) out.2.1 out.2.2.1 g_eb out.2.2.2.1 g_st out.2.2.2.2.1 out.2.2.2.2.2.1 out.2.2.2.2.2.2.1 out.2.2.2.2.2.2.2.1 g_sh out.2.2.2.2.2.2.2.2.1, wG cI (a 11) (a 12) (a 13) (a 14) (a 15) (a 16) (a 17) (a 18) (a 19) (a 20) z_ft z_er z_eb z_li z_st z_rd z_tu z_la z_dl z_sh z_tb, wH cI cG (fun i => a (21 + i)) out.2.2.2.2.2.2.2.2.2.1 out.2.2.2.2.2.2.2.2.2.2.1 out.2.2.2.2.2.2.2.2.2.2.2, wS cI (a 63) (a 64) (a 65) (a 66) (a 67) tx cm] : List va_W).flatten) := by
  intro sz
  refine Met.ofW (cc := cX5_next) (maxL := 1) (ret := (some .int)) (by decide) rfl ?_
  intro p e s m args below meth c s₁ B hml hv
  obtain ⟨rfl, hsz, hP, hK, hD0⟩ := hv
  have hx := B.exec
  have hb := B.bytes
  have hr := B.returns
  have hts := atoms_spec (ws := wsX5_next) B.pre
  have hown : s.vm.findClass RX5 = some m.cls := findClass_of_methodNamed B.named
  have hlocks := B.notSynchronized
  subst hsz
  have hD := hD0.self (sz := s.heap.size)
  generalize hAe : va_A (([[((a 0), .inr (5, [.ref (a 1), .ref (a 11), .ref (a 21), .ref (a 63)]))], wG cI (a 1) (a 2) (a 3) (a 4) (a 5) (a 6) (a 7) (a 8) (a 9) (a 10) g_ft g_er g_eb g_li g_st g_rd g_tu g_la g_dl g_sh g_tb, wG cI (a 11) (a 12) (a 13) (a 14) (a 15) (a 16) (a 17) (a 18) (a 19) (a 20) z_ft z_er z_eb z_li z_st z_rd z_tu z_la z_dl z_sh z_tb, wH cI cG (fun i => a (21 + i)) yc yp yg, wS cI (a 63) (a 64) (a 65) (a 66) (a 67) tx cm] : List va_W).flatten) s.heap.size = A at hD ⊢
  have hA : ∀ q : Nat, s.heap.size ≤ q → A q := fun q h => by rw [← hAe]; exact Or.inr h
  have hS : va_S A s.heap s.heap [] := va_S.rf
  have hw0 := hts (.fieldLink RX5 10 "SpeedTurns" "game" "LSpeedTurns$Game;") (List.mem_of_getElem? (i := 1) rfl)
  have hw1 := hts (.fieldLink RX5 22 "SpeedTurns" "history" "LSpeedTurns$History;") (List.mem_of_getElem? (i := 9) rfl)
  show W p l e ({ frames := 6, cells := 0, slots := 0, locals := 175 } : Room) s m _ below meth c s.heap [] 0 0 _ _
  refine W_genQ (fun Q hQ => ?_)
  have h := hf
  rw [fX5_next] at h
  have hl := lv_entry ([.ref (a 0)]) (n := 1) (Nat.le_of_ble_eq_true rfl)
  rw [lg_entry_eq]
  generalize (lg_sl ([.ref (a 0)]) ++ List.replicate (1 - (lg_sl ([.ref (a 0)])).length) Slot.unset).toArray = ls at hl ⊢
  have hl : lv_has ls 1 [(0, .ref (a 0))] := hl
  refine lv_aload_n hx hb dX5_next_0 rfl (lv_at hl 0 rfl) ?_
  refine va_get (D := G) (ci := 5) (v := .ref (a 1)) (C := RX5) (T := TX5) (N := 4) hx hb hts huX5_next_X5 hown hK.1 hP 0 rfl rfl 0 (by decide) hw0 (fun _ h9 => h9) rfl dX5_next_1 ?_
  obtain ⟨x1, ex1, h⟩ := o_b h
  refine bcall_iV (As := []) (rest := []) (c0 := [wG cI (a 1) (a 2) (a 3) (a 4) (a 5) (a 6) (a 7) (a 8) (a 9) (a 10) g_ft g_er g_eb g_li g_st g_rd g_tu g_la g_dl g_sh g_tb]) (c1 := [wG cI (a 1) (a 2) (a 3) (a 4) (a 5) (a 6) (a 7) (a 8) (a 9) (a 10) g_ft g_er g_eb g_li g_st g_rd g_tu g_la g_dl g_sh g_tb]) (bs2 := [[((a 0), .inr (5, [.ref (a 1), .ref (a 11), .ref (a 21), .ref (a 63)]))], wG cI (a 1) (a 2) (a 3) (a 4) (a 5) (a 6) (a 7) (a 8) (a 9) (a 10) g_ft g_er g_eb g_li g_st g_rd g_tu g_la g_dl g_sh g_tb, wG cI (a 11) (a 12) (a 13) (a 14) (a 15) (a 16) (a 17) (a 18) (a 19) (a 20) z_ft z_er z_eb z_li z_st z_rd z_tu z_la z_dl z_sh z_tb, wH cI cG (fun i => a (21 + i)) yc yp yg, wS cI (a 63) (a 64) (a 65) (a 66) (a 67) tx cm]) ⟨hx, hb, hml, hown, hts⟩ (cX1_mayBeginTurn_ok l G cI cG (a 1) (a 2) (a 3) (a 4) (a 5) (a 6) (a 7) (a 8) (a 9) (a 10) g_ft g_er g_eb g_li g_st g_rd g_tu g_la g_dl g_sh g_tb x1 ex1) (cwV 0 hts gX5_next_X1_mayBeginTurn_99 rfl rfl rfl hdX1_mayBeginTurn ⟨Nat.le_of_ble_eq_true rfl, Nat.le_of_ble_eq_true rfl⟩) hP hD hS hA hK 1 rfl rfl rfl [1] rfl rfl rfl rfl rfl rfl rfl rfl rfl hl.1 (Nat.le_of_ble_eq_true rfl) dX5_next_4 ⟨Nat.zero_le _, Nat.zero_le _⟩ (fun H locs hP hD hS => ?_)
  obtain ⟨x2, ex2, h⟩ := o_b h
  refine bcall_vS (As := [.int (bI x1)]) (rest := []) (c0 := []) (c1 := []) (bs2 := [[((a 0), .inr (5, [.ref (a 1), .ref (a 11), .ref (a 21), .ref (a 63)]))], wG cI (a 1) (a 2) (a 3) (a 4) (a 5) (a 6) (a 7) (a 8) (a 9) (a 10) g_ft g_er g_eb g_li g_st g_rd g_tu g_la g_dl g_sh g_tb, wG cI (a 11) (a 12) (a 13) (a 14) (a 15) (a 16) (a 17) (a 18) (a 19) (a 20) z_ft z_er z_eb z_li z_st z_rd z_tu z_la z_dl z_sh z_tb, wH cI cG (fun i => a (21 + i)) yc yp yg, wS cI (a 63) (a 64) (a 65) (a 66) (a 67) tx cm]) ⟨hx, hb, hml, hown, hts⟩ (cX5_requirePossible_ok l G cI cG x1 x2 ex2) (va_cwS 1 hts gX5_next_X5_requirePossible_103 rfl rfl rfl hdX5_requirePossible ⟨Nat.le_of_ble_eq_true rfl, Nat.le_of_ble_eq_true rfl⟩) hP hD hS hA hK [] rfl rfl rfl rfl rfl rfl rfl rfl rfl hl.1 (Nat.le_of_ble_eq_true rfl) dX5_next_7 ⟨Nat.zero_le _, Nat.zero_le _⟩ (fun H locs hP hD hS => ?_)
  refine lv_aload_n hx hb dX5_next_10 rfl (lv_at hl 0 rfl) ?_
  refine va_get (D := G) (ci := 5) (v := .ref (a 21)) (C := RX5) (T := TX5) (N := 4) hx hb hts huX5_next_X5 hown hK.1 hP 0 rfl rfl 2 (by decide) hw1 (fun _ h9 => h9) rfl dX5_next_11 ?_
  refine lv_aload_n hx hb dX5_next_14 rfl (lv_at hl 0 rfl) ?_
  refine va_get (D := G) (ci := 5) (v := .ref (a 1)) (C := RX5) (T := TX5) (N := 4) hx hb hts huX5_next_X5 hown hK.1 hP 0 rfl rfl 0 (by decide) hw0 (fun _ h9 => h9) rfl dX5_next_15 ?_
  obtain ⟨x3, ex3, h⟩ := o_b h
  refine bcall_vV (As := [.ref (a 1)]) (rest := []) (c0 := [wH cI cG (fun i => a (21 + i)) yc yp yg, wG cI (a 1) (a 2) (a 3) (a 4) (a 5) (a 6) (a 7) (a 8) (a 9) (a 10) g_ft g_er g_eb g_li g_st g_rd g_tu g_la g_dl g_sh g_tb]) (c1 := [wH cI cG (fun i => a (21 + i)) x3.1 x3.2.1 x3.2.2, wG cI (a 1) (a 2) (a 3) (a 4) (a 5) (a 6) (a 7) (a 8) (a 9) (a 10) g_ft g_er g_eb g_li g_st g_rd g_tu g_la g_dl g_sh g_tb]) (bs2 := [[((a 0), .inr (5, [.ref (a 1), .ref (a 11), .ref (a 21), .ref (a 63)]))], wG cI (a 1) (a 2) (a 3) (a 4) (a 5) (a 6) (a 7) (a 8) (a 9) (a 10) g_ft g_er g_eb g_li g_st g_rd g_tu g_la g_dl g_sh g_tb, wG cI (a 11) (a 12) (a 13) (a 14) (a 15) (a 16) (a 17) (a 18) (a 19) (a 20) z_ft z_er z_eb z_li z_st z_rd z_tu z_la z_dl z_sh z_tb, wH cI cG (fun i => a (21 + i)) x3.1 x3.2.1 x3.2.2, wS cI (a 63) (a 64) (a 65) (a 66) (a 67) tx cm]) ⟨hx, hb, hml, hown, hts⟩ (cX2_save_ok l G cI cG (fun i => a (21 + i)) (a 1) (a 2) (a 3) (a 4) (a 5) (a 6) (a 7) (a 8) (a 9) (a 10) fu yc yp yg g_ft g_er g_eb g_li g_st g_rd g_tu g_la g_dl g_sh g_tb x3 ex3) (cwV 1 hts gX5_next_X2_save_53 rfl rfl rfl hdX2_save ⟨Nat.le_of_ble_eq_true rfl, Nat.le_of_ble_eq_true rfl⟩) hP hD hS hA hK 2 rfl rfl rfl [3, 1] rfl rfl rfl rfl rfl rfl rfl rfl rfl hl.1 (Nat.le_of_ble_eq_true rfl) dX5_next_18 ⟨Nat.zero_le _, Nat.zero_le _⟩ (fun H locs hP hD hS => ?_)
  refine lv_aload_n hx hb dX5_next_21 rfl (lv_at hl 0 rfl) ?_
  refine va_get (D := G) (ci := 5) (v := .ref (a 1)) (C := RX5) (T := TX5) (N := 4) hx hb hts huX5_next_X5 hown hK.1 hP 0 rfl rfl 0 (by decide) hw0 (fun _ h9 => h9) rfl dX5_next_22 ?_
  obtain ⟨x4, ex4, h⟩ := o_b h
  refine bcall_iV (As := []) (rest := []) (c0 := [wG cI (a 1) (a 2) (a 3) (a 4) (a 5) (a 6) (a 7) (a 8) (a 9) (a 10) g_ft g_er g_eb g_li g_st g_rd g_tu g_la g_dl g_sh g_tb]) (c1 := [wG cI (a 1) (a 2) (a 3) (a 4) (a 5) (a 6) (a 7) (a 8) (a 9) (a 10) x4.2.1 x4.2.2.1 g_eb x4.2.2.2.1 g_st x4.2.2.2.2.1 x4.2.2.2.2.2.1 x4.2.2.2.2.2.2.1 x4.2.2.2.2.2.2.2.1 g_sh x4.2.2.2.2.2.2.2.2]) (bs2 := [[((a 0), .inr (5, [.ref (a 1), .ref (a 11), .ref (a 21), .ref (a 63)]))], wG cI (a 1) (a 2) (a 3) (a 4) (a 5) (a 6) (a 7) (a 8) (a 9) (a 10) x4.2.1 x4.2.2.1 g_eb x4.2.2.2.1 g_st x4.2.2.2.2.1 x4.2.2.2.2.2.1 x4.2.2.2.2.2.2.1 x4.2.2.2.2.2.2.2.1 g_sh x4.2.2.2.2.2.2.2.2, wG cI (a 11) (a 12) (a 13) (a 14) (a 15) (a 16) (a 17) (a 18) (a 19) (a 20) z_ft z_er z_eb z_li z_st z_rd z_tu z_la z_dl z_sh z_tb, wH cI cG (fun i => a (21 + i)) x3.1 x3.2.1 x3.2.2, wS cI (a 63) (a 64) (a 65) (a 66) (a 67) tx cm]) ⟨hx, hb, hml, hown, hts⟩ (cX1_beginTurn_ok l G cI cG (a 1) (a 2) (a 3) (a 4) (a 5) (a 6) (a 7) (a 8) (a 9) (a 10) fu g_ft g_er g_eb g_li g_st g_rd g_tu g_la g_dl g_sh g_tb x4 ex4) (cwV 0 hts gX5_next_X1_beginTurn_107 rfl rfl rfl hdX1_beginTurn ⟨Nat.le_of_ble_eq_true rfl, Nat.le_of_ble_eq_true rfl⟩) hP hD hS hA hK 1 rfl rfl rfl [1] rfl rfl rfl rfl rfl rfl rfl rfl rfl hl.1 (Nat.le_of_ble_eq_true rfl) dX5_next_25 ⟨Nat.zero_le _, Nat.zero_le _⟩ (fun H locs hP hD hS => ?_)
  obtain rfl := o_s h
  rw [hQ]
  exact end_i hx hb hr rfl hP hD hS dX5_next_28 hlocks
theorem hdX5_end : yX5_end.cls = RX5 ∧ yX5_end.cls ≠ "java/lang/invoke/MethodHandle" ∧ yX5_end.cls ≠ "java/lang/invoke/VarHandle" ∧ (parseMethodDescriptor yX5_end.desc).map (fun d => d.parameters.length) = some 0 := by decide +kernel
set_option maxHeartbeats 4000000 in
set_option maxRecDepth 100000 in
theorem cX5_end_ok (l : Launch) (G : va_G) (cI cG : ClassId) (a : Nat → Nat) (fu : Nat) (g_ft : Tab) (g_er : Tab) (g_eb : Int32) (g_li : Tab) (g_st : Tab) (g_rd : Int32) (g_tu : Int32) (g_la : Int32) (g_dl : Bool) (g_sh : Int32) (g_tb : Int32) (z_ft : Tab) (z_er : Tab) (z_eb : Int32) (z_li : Tab) (z_st : Tab) (z_rd : Int32) (z_tu : Int32) (z_la : Int32) (z_dl : Bool) (z_sh : Int32) (z_tb : Int32) (yc : Int32) (yp : (Nat → Nat)) (yg : (Nat → GV)) (tx : Tab) (cm : Tab) (out : Int32 × Tab × Int32 × Int32 × (Nat → Nat) × (Nat → GV)) (hf : fX5_end fu g_ft g_er g_eb g_li g_st g_rd g_tu g_la g_dl g_sh g_tb yc yp yg = some out) : CI l G (tyz cI cG) yX5_end wsX5_end ({ frames := 5, cells := 0, slots := 0, locals := 145 } : Room) [.ref (a 0)] (([[((a 0), .inr (5, [.ref (a 1), .ref (a 11), .ref (a 21), .ref (a 63)]))], wG cI (a 1) (a 2) (a 3) (a 4) (a 5) (a 6) (a 7) (a 8) (a 9) (a 10) g_ft g_er g_eb g_li g_st g_rd g_tu g_la g_dl g_sh g_tb, wG cI (a 11) (a 12) (a 13) (a 14) (a 15) (a 16) (a 17) (a 18) (a 19) (a 20) z_ft z_er z_eb z_li z_st z_rd z_tu z_la z_dl z_sh z_tb, wH cI cG (fun i => a (21 + i)) yc yp yg, wS cI (a 63) (a 64) (a 65) (a 66) (a 67) tx cm] : List va_W).flatten) out.1 (([[((a 0), .inr (5, [.ref (a 1), .ref (a 11), .ref (a 21), .ref (a 63)]))], wG cI (a 1) (a 2) (a 3) (a 4) (a 5) (a 6) (a 7) (a 8) (a 9) (a 10) g_ft out.2.1 g_eb g_li g_st g_rd out.2.2.1 g_la g_dl g_sh g_tb, wG cI (a 11) (a 12) (a 13) (a 14) (a 15) (a 16) (a 17) (a 18) (a 19) (a 20) z_ft z_er z_eb z_li z_st z_rd z_tu z_la z_dl z_sh z_tb, wH cI cG (fun i => a (21 + i)) out.2.2.2.1 out.2.2.2.2.1 out.2.2.2.2.2, wS cI (a 63) (a 64) (a 65) (a 66) (a 67) tx cm] : List va_W).flatten) := by
  intro sz
  refine Met.ofW (cc := cX5_end) (maxL := 1) (ret := (some .int)) (by decide) rfl ?_
  intro p e s m args below meth c s₁ B hml hv
  obtain ⟨rfl, hsz, hP, hK, hD0⟩ := hv
  have hx := B.exec
  have hb := B.bytes
  have hr := B.returns
  have hts := atoms_spec (ws := wsX5_end) B.pre
  have hown : s.vm.findClass RX5 = some m.cls := findClass_of_methodNamed B.named
  have hlocks := B.notSynchronized
  subst hsz
  have hD := hD0.self (sz := s.heap.size)
  generalize hAe : va_A (([[((a 0), .inr (5, [.ref (a 1), .ref (a 11), .ref (a 21), .ref (a 63)]))], wG cI (a 1) (a 2) (a 3) (a 4) (a 5) (a 6) (a 7) (a 8) (a 9) (a 10) g_ft g_er g_eb g_li g_st g_rd g_tu g_la g_dl g_sh g_tb, wG cI (a 11) (a 12) (a 13) (a 14) (a 15) (a 16) (a 17) (a 18) (a 19) (a 20) z_ft z_er z_eb z_li z_st z_rd z_tu z_la z_dl z_sh z_tb, wH cI cG (fun i => a (21 + i)) yc yp yg, wS cI (a 63) (a 64) (a 65) (a 66) (a 67) tx cm] : List va_W).flatten) s.heap.size = A at hD ⊢
  have hA : ∀ q : Nat, s.heap.size ≤ q → A q := fun q h => by rw [← hAe]; exact Or.inr h
  have hS : va_S A s.heap s.heap [] := va_S.rf
  have hw0 := hts (.fieldLink RX5 10 "SpeedTurns" "game" "LSpeedTurns$Game;") (List.mem_of_getElem? (i := 1) rfl)
  have hw1 := hts (.fieldLink RX5 22 "SpeedTurns" "history" "LSpeedTurns$History;") (List.mem_of_getElem? (i := 9) rfl)
  show W p l e ({ frames := 5, cells := 0, slots := 0, locals := 145 } : Room) s m _ below meth c s.heap [] 0 0 _ _
  refine W_genQ (fun Q hQ => ?_)
  have h := hf
  rw [fX5_end] at h
  have hl := lv_entry ([.ref (a 0)]) (n := 1) (Nat.le_of_ble_eq_true rfl)
  rw [lg_entry_eq]
  generalize (lg_sl ([.ref (a 0)]) ++ List.replicate (1 - (lg_sl ([.ref (a 0)])).length) Slot.unset).toArray = ls at hl ⊢
  have hl : lv_has ls 1 [(0, .ref (a 0))] := hl
  refine lv_aload_n hx hb dX5_end_0 rfl (lv_at hl 0 rfl) ?_
  refine va_get (D := G) (ci := 5) (v := .ref (a 1)) (C := RX5) (T := TX5) (N := 4) hx hb hts huX5_end_X5 hown hK.1 hP 0 rfl rfl 0 (by decide) hw0 (fun _ h9 => h9) rfl dX5_end_1 ?_
  obtain ⟨x1, ex1, h⟩ := o_b h
  refine bcall_iV (As := []) (rest := []) (c0 := [wG cI (a 1) (a 2) (a 3) (a 4) (a 5) (a 6) (a 7) (a 8) (a 9) (a 10) g_ft g_er g_eb g_li g_st g_rd g_tu g_la g_dl g_sh g_tb]) (c1 := [wG cI (a 1) (a 2) (a 3) (a 4) (a 5) (a 6) (a 7) (a 8) (a 9) (a 10) g_ft g_er g_eb g_li g_st g_rd g_tu g_la g_dl g_sh g_tb]) (bs2 := [[((a 0), .inr (5, [.ref (a 1), .ref (a 11), .ref (a 21), .ref (a 63)]))], wG cI (a 1) (a 2) (a 3) (a 4) (a 5) (a 6) (a 7) (a 8) (a 9) (a 10) g_ft g_er g_eb g_li g_st g_rd g_tu g_la g_dl g_sh g_tb, wG cI (a 11) (a 12) (a 13) (a 14) (a 15) (a 16) (a 17) (a 18) (a 19) (a 20) z_ft z_er z_eb z_li z_st z_rd z_tu z_la z_dl z_sh z_tb, wH cI cG (fun i => a (21 + i)) yc yp yg, wS cI (a 63) (a 64) (a 65) (a 66) (a 67) tx cm]) ⟨hx, hb, hml, hown, hts⟩ (cX1_mayEndTurn_ok l G cI cG (a 1) (a 2) (a 3) (a 4) (a 5) (a 6) (a 7) (a 8) (a 9) (a 10) g_ft g_er g_eb g_li g_st g_rd g_tu g_la g_dl g_sh g_tb x1 ex1) (cwV 0 hts gX5_end_X1_mayEndTurn_110 rfl rfl rfl hdX1_mayEndTurn ⟨Nat.le_of_ble_eq_true rfl, Nat.le_of_ble_eq_true rfl⟩) hP hD hS hA hK 1 rfl rfl rfl [1] rfl rfl rfl rfl rfl rfl rfl rfl rfl hl.1 (Nat.le_of_ble_eq_true rfl) dX5_end_4 ⟨Nat.zero_le _, Nat.zero_le _⟩ (fun H locs hP hD hS => ?_)
  obtain ⟨x2, ex2, h⟩ := o_b h
  refine bcall_vS (As := [.int (bI x1)]) (rest := []) (c0 := []) (c1 := []) (bs2 := [[((a 0), .inr (5, [.ref (a 1), .ref (a 11), .ref (a 21), .ref (a 63)]))], wG cI (a 1) (a 2) (a 3) (a 4) (a 5) (a 6) (a 7) (a 8) (a 9) (a 10) g_ft g_er g_eb g_li g_st g_rd g_tu g_la g_dl g_sh g_tb, wG cI (a 11) (a 12) (a 13) (a 14) (a 15) (a 16) (a 17) (a 18) (a 19) (a 20) z_ft z_er z_eb z_li z_st z_rd z_tu z_la z_dl z_sh z_tb, wH cI cG (fun i => a (21 + i)) yc yp yg, wS cI (a 63) (a 64) (a 65) (a 66) (a 67) tx cm]) ⟨hx, hb, hml, hown, hts⟩ (cX5_requirePossible_ok l G cI cG x1 x2 ex2) (va_cwS 1 hts gX5_end_X5_requirePossible_103 rfl rfl rfl hdX5_requirePossible ⟨Nat.le_of_ble_eq_true rfl, Nat.le_of_ble_eq_true rfl⟩) hP hD hS hA hK [] rfl rfl rfl rfl rfl rfl rfl rfl rfl hl.1 (Nat.le_of_ble_eq_true rfl) dX5_end_7 ⟨Nat.zero_le _, Nat.zero_le _⟩ (fun H locs hP hD hS => ?_)
  refine lv_aload_n hx hb dX5_end_10 rfl (lv_at hl 0 rfl) ?_
  refine va_get (D := G) (ci := 5) (v := .ref (a 21)) (C := RX5) (T := TX5) (N := 4) hx hb hts huX5_end_X5 hown hK.1 hP 0 rfl rfl 2 (by decide) hw1 (fun _ h9 => h9) rfl dX5_end_11 ?_
  refine lv_aload_n hx hb dX5_end_14 rfl (lv_at hl 0 rfl) ?_
  refine va_get (D := G) (ci := 5) (v := .ref (a 1)) (C := RX5) (T := TX5) (N := 4) hx hb hts huX5_end_X5 hown hK.1 hP 0 rfl rfl 0 (by decide) hw0 (fun _ h9 => h9) rfl dX5_end_15 ?_
  obtain ⟨x3, ex3, h⟩ := o_b h
  refine bcall_vV (As := [.ref (a 1)]) (rest := []) (c0 := [wH cI cG (fun i => a (21 + i)) yc yp yg, wG cI (a 1) (a 2) (a 3) (a 4) (a 5) (a 6) (a 7) (a 8) (a 9) (a 10) g_ft g_er g_eb g_li g_st g_rd g_tu g_la g_dl g_sh g_tb]) (c1 := [wH cI cG (fun i => a (21 + i)) x3.1 x3.2.1 x3.2.2, wG cI (a 1) (a 2) (a 3) (a 4) (a 5) (a 6) (a 7) (a 8) (a 9) (a 10) g_ft g_er g_eb g_li g_st g_rd g_tu g_la g_dl g_sh g_tb]) (bs2 := [[((a 0), .inr (5, [.ref (a 1), .ref (a 11), .ref (a 21), .ref (a 63)]))], wG cI (a 1) (a 2) (a 3) (a 4) (a 5) (a 6) (a 7) (a 8) (a 9) (a 10) g_ft g_er g_eb g_li g_st g_rd g_tu g_la g_dl g_sh g_tb, wG cI (a 11) (a 12) (a 13) (a 14) (a 15) (a 16) (a 17) (a 18) (a 19) (a 20) z_ft z_er z_eb z_li z_st z_rd z_tu z_la z_dl z_sh z_tb, wH cI cG (fun i => a (21 + i)) x3.1 x3.2.1 x3.2.2, wS cI (a 63) (a 64) (a 65) (a 66) (a 67) tx cm]) ⟨hx, hb, hml, hown, hts⟩ (cX2_save_ok l G cI cG (fun i => a (21 + i)) (a 1) (a 2) (a 3) (a 4) (a 5) (a 6) (a 7) (a 8) (a 9) (a 10) fu yc yp yg g_ft g_er g_eb g_li g_st g_rd g_tu g_la g_dl g_sh g_tb x3 ex3) (cwV 1 hts gX5_end_X2_save_53 rfl rfl rfl hdX2_save ⟨Nat.le_of_ble_eq_true rfl, Nat.le_of_ble_eq_true rfl⟩) hP hD hS hA hK 2 rfl rfl rfl [3, 1] rfl rfl rfl rfl rfl rfl rfl rfl rfl hl.1 (Nat.le_of_ble_eq_true rfl) dX5_end_18 ⟨Nat.zero_le _, Nat.zero_le _⟩ (fun H locs hP hD hS => ?_)
  refine lv_aload_n hx hb dX5_end_21 rfl (lv_at hl 0 rfl) ?_
  refine va_get (D := G) (ci := 5) (v := .ref (a 1)) (C := RX5) (T := TX5) (N := 4) hx hb hts huX5_end_X5 hown hK.1 hP 0 rfl rfl 0 (by decide) hw0 (fun _ h9 => h9) rfl dX5_end_22 ?_
  obtain ⟨x4, ex4, h⟩ := o_b h
  refine bcall_iV (As := []) (rest := []) (c0 := [wG cI (a 1) (a 2) (a 3) (a 4) (a 5) (a 6) (a 7) (a 8) (a 9) (a 10) g_ft g_er g_eb g_li g_st g_rd g_tu g_la g_dl g_sh g_tb]) (c1 := [wG cI (a 1) (a 2) (a 3) (a 4) (a 5) (a 6) (a 7) (a 8) (a 9) (a 10) g_ft x4.2.1 g_eb g_li g_st g_rd x4.2.2 g_la g_dl g_sh g_tb]) (bs2 := [[((a 0), .inr (5, [.ref (a 1), .ref (a 11), .ref (a 21), .ref (a 63)]))], wG cI (a 1) (a 2) (a 3) (a 4) (a 5) (a 6) (a 7) (a 8) (a 9) (a 10) g_ft x4.2.1 g_eb g_li g_st g_rd x4.2.2 g_la g_dl g_sh g_tb, wG cI (a 11) (a 12) (a 13) (a 14) (a 15) (a 16) (a 17) (a 18) (a 19) (a 20) z_ft z_er z_eb z_li z_st z_rd z_tu z_la z_dl z_sh z_tb, wH cI cG (fun i => a (21 + i)) x3.1 x3.2.1 x3.2.2, wS cI (a 63) (a 64) (a 65) (a 66) (a 67) tx cm]) ⟨hx, hb, hml, hown, hts⟩ (cX1_endTurn_ok l G cI cG (a 1) (a 2) (a 3) (a 4) (a 5) (a 6) (a 7) (a 8) (a 9) (a 10) fu g_ft g_er g_eb g_li g_st g_rd g_tu g_la g_dl g_sh g_tb x4 ex4) (cwV 0 hts gX5_end_X1_endTurn_113 rfl rfl rfl hdX1_endTurn ⟨Nat.le_of_ble_eq_true rfl, Nat.le_of_ble_eq_true rfl⟩) hP hD hS hA hK 1 rfl rfl rfl [1] rfl rfl rfl rfl rfl rfl rfl rfl rfl hl.1 (Nat.le_of_ble_eq_true rfl) dX5_end_25 ⟨Nat.zero_le _, Nat.zero_le _⟩ (fun H locs hP hD hS => ?_)
  obtain rfl := o_s h
  rw [hQ]
  exact end_i hx hb hr rfl hP hD hS dX5_end_28 hlocks
theorem hdX5_comeIn : yX5_comeIn.cls = RX5 ∧ yX5_comeIn.cls ≠ "java/lang/invoke/MethodHandle" ∧ yX5_comeIn.cls ≠ "java/lang/invoke/VarHandle" ∧ (parseMethodDescriptor yX5_comeIn.desc).map (fun d => d.parameters.length) = some 1 := by decide +kernel
set_option maxHeartbeats 4000000 in
set_option maxRecDepth 100000 in
theorem cX5_comeIn_ok (l : Launch) (G : va_G) (cI cG : ClassId) (a : Nat → Nat) (fu : Nat) (g_ft : Tab) (g_er : Tab) (g_eb : Int32) (g_li : Tab) (g_st : Tab) (g_rd : Int32) (g_tu : Int32) (g_la : Int32) (g_dl : Bool) (g_sh : Int32) (g_tb : Int32) (z_ft : Tab) (z_er : Tab) (z_eb : Int32) (z_li : Tab) (z_st : Tab) (z_rd : Int32) (z_tu : Int32) (z_la : Int32) (z_dl : Bool) (z_sh : Int32) (z_tb : Int32) (yc : Int32) (yp : (Nat → Nat)) (yg : (Nat → GV)) (tx : Tab) (cm : Tab) (p1 : Int32) (out : Int32 × Tab × Int32 × Int32 × Bool × Int32 × (Nat → Nat) × (Nat → GV)) (hf : fX5_comeIn fu g_ft g_er g_eb g_li g_st g_rd g_tu g_la g_dl g_sh g_tb yc yp yg p1 = some out) : CI l G (tyz cI cG) yX5_comeIn wsX5_comeIn ({ frames := 5, cells := 0, slots := 0, locals := 145 } : Room) [.ref (a 0), .int p1] (([[((a 0), .inr (5, [.ref (a 1), .ref (a 11), .ref (a 21), .ref (a 63)]))], wG cI (a 1) (a 2) (a 3) (a 4) (a 5) (a 6) (a 7) (a 8) (a 9) (a 10) g_ft g_er g_eb g_li g_st g_rd g_tu g_la g_dl g_sh g_tb, wG cI (a 11) (a 12) (a 13) (a 14) (a 15) (a 16) (a 17) (a 18) (a 19) (a 20) z_ft z_er z_eb z_li z_st z_rd z_tu z_la z_dl z_sh z_tb, wH cI cG (fun i => a (21 + i)) yc yp yg, wS cI (a 63) (a 64) (a 65) (a 66) (a 67) tx cm] : List va_W).flatten) out.1 (([[((a 0), .inr (5, [.ref (a 1), .ref (a 11), .ref (a 21), .ref (a 63)]))], wG cI (a 1) (a 2) (a 3) (a 4) (a 5) (a 6) (a 7) (a 8) (a 9) (a 10) g_ft g_er g_eb out.2.1 g_st g_rd out.2.2.1 out.2.2.2.1 out.2.2.2.2.1 g_sh g_tb, wG cI (a 11) (a 12) (a 13) (a 14) (a 15) (a 16) (a 17) (a 18) (a 19) (a 20) z_ft z_er z_eb z_li z_st z_rd z_tu z_la z_dl z_sh z_tb, wH cI cG (fun i => a (21 + i)) out.2.2.2.2.2.1 out.2.2.2.2.2.2.1 out.2.2.2.2.2.2.2, wS cI (a 63) (a 64) (a 65) (a 66) (a 67) tx cm] : List va_W).flatten) := by
  intro sz
  refine Met.ofW (cc := cX5_comeIn) (maxL := 2) (ret := (some .int)) (by decide) rfl ?_
  intro p e s m args below meth c s₁ B hml hv
  obtain ⟨rfl, hsz, hP, hK, hD0⟩ := hv
  have hx := B.exec
  have hb := B.bytes
  have hr := B.returns
  have hts := atoms_spec (ws := wsX5_comeIn) B.pre
  have hown : s.vm.findClass RX5 = some m.cls := findClass_of_methodNamed B.named
  have hlocks := B.notSynchronized
  subst hsz
  have hD := hD0.self (sz := s.heap.size)
  generalize hAe : va_A (([[((a 0), .inr (5, [.ref (a 1), .ref (a 11), .ref (a 21), .ref (a 63)]))], wG cI (a 1) (a 2) (a 3) (a 4) (a 5) (a 6) (a 7) (a 8) (a 9) (a 10) g_ft g_er g_eb g_li g_st g_rd g_tu g_la g_dl g_sh g_tb, wG cI (a 11) (a 12) (a 13) (a 14) (a 15) (a 16) (a 17) (a 18) (a 19) (a 20) z_ft z_er z_eb z_li z_st z_rd z_tu z_la z_dl z_sh z_tb, wH cI cG (fun i => a (21 + i)) yc yp yg, wS cI (a 63) (a 64) (a 65) (a 66) (a 67) tx cm] : List va_W).flatten) s.heap.size = A at hD ⊢
  have hA : ∀ q : Nat, s.heap.size ≤ q → A q := fun q h => by rw [← hAe]; exact Or.inr h
  have hS : va_S A s.heap s.heap [] := va_S.rf
  have hw0 := hts (.fieldLink RX5 10 "SpeedTurns" "game" "LSpeedTurns$Game;") (List.mem_of_getElem? (i := 5) rfl)
  have hw1 := hts (.fieldLink RX5 22 "SpeedTurns" "history" "LSpeedTurns$History;") (List.mem_of_getElem? (i := 12) rfl)
  show W p l e ({ frames := 5, cells := 0, slots := 0, locals := 145 } : Room) s m _ below meth c s.heap [] 0 0 _ _
  refine W_genQ (fun Q hQ => ?_)
  have h := hf
  rw [fX5_comeIn] at h
  have hl := lv_entry ([.ref (a 0), .int p1]) (n := 2) (Nat.le_of_ble_eq_true rfl)
  rw [lg_entry_eq]
  generalize (lg_sl ([.ref (a 0), .int p1]) ++ List.replicate (2 - (lg_sl ([.ref (a 0), .int p1])).length) Slot.unset).toArray = ls at hl ⊢
  have hl : lv_has ls 2 [(0, .ref (a 0)), (1, .int p1)] := hl
  refine lv_aload_n hx hb dX5_comeIn_0 rfl (lv_at hl 0 rfl) ?_
  refine lv_iload_n hx hb dX5_comeIn_1 rfl (lv_at hl 1 rfl) ?_
  obtain ⟨x1, ex1, h⟩ := o_b h
  refine bcall_vV (As := [.int p1]) (rest := []) (c0 := [[((a 0), .inr (5, [.ref (a 1), .ref (a 11), .ref (a 21), .ref (a 63)]))], wG cI (a 1) (a 2) (a 3) (a 4) (a 5) (a 6) (a 7) (a 8) (a 9) (a 10) g_ft g_er g_eb g_li g_st g_rd g_tu g_la g_dl g_sh g_tb, wG cI (a 11) (a 12) (a 13) (a 14) (a 15) (a 16) (a 17) (a 18) (a 19) (a 20) z_ft z_er z_eb z_li z_st z_rd z_tu z_la z_dl z_sh z_tb, wH cI cG (fun i => a (21 + i)) yc yp yg, wS cI (a 63) (a 64) (a 65) (a 66) (a 67) tx cm]) (c1 := [[((a 0), .inr (5, [.ref (a 1), .ref (a 11), .ref (a 21), .ref (a 63)]))], wG cI (a 1) (a 2) (a 3) (a 4) (a 5) (a 6) (a 7) (a 8) (a 9) (a 10) g_ft g_er g_eb g_li g_st g_rd g_tu g_la g_dl g_sh g_tb, wG cI (a 11) (a 12) (a 13) (a 14) (a 15) (a 16) (a 17) (a 18) (a 19) (a 20) z_ft z_er z_eb z_li z_st z_rd z_tu z_la z_dl z_sh z_tb, wH cI cG (fun i => a (21 + i)) yc yp yg, wS cI (a 63) (a 64) (a 65) (a 66) (a 67) tx cm]) (bs2 := [[((a 0), .inr (5, [.ref (a 1), .ref (a 11), .ref (a 21), .ref (a 63)]))], wG cI (a 1) (a 2) (a 3) (a 4) (a 5) (a 6) (a 7) (a 8) (a 9) (a 10) g_ft g_er g_eb g_li g_st g_rd g_tu g_la g_dl g_sh g_tb, wG cI (a 11) (a 12) (a 13) (a 14) (a 15) (a 16) (a 17) (a 18) (a 19) (a 20) z_ft z_er z_eb z_li z_st z_rd z_tu z_la z_dl z_sh z_tb, wH cI cG (fun i => a (21 + i)) yc yp yg, wS cI (a 63) (a 64) (a 65) (a 66) (a 67) tx cm]) ⟨hx, hb, hml, hown, hts⟩ (cX5_requireFighter_ok l G cI cG a g_ft g_er g_eb g_li g_st g_rd g_tu g_la g_dl g_sh g_tb z_ft z_er z_eb z_li z_st z_rd z_tu z_la z_dl z_sh z_tb yc yp yg tx cm p1 x1 ex1) (cwV 1 hts gX5_comeIn_X5_requireFighter_61 rfl rfl rfl hdX5_requireFighter ⟨Nat.le_of_ble_eq_true rfl, Nat.le_of_ble_eq_true rfl⟩) hP hD hS hA hK 5 rfl rfl rfl [0, 1, 2, 3, 4] rfl rfl rfl rfl rfl rfl rfl rfl rfl hl.1 (Nat.le_of_ble_eq_true rfl) dX5_comeIn_2 ⟨Nat.zero_le _, Nat.zero_le _⟩ (fun H locs hP hD hS => ?_)
  refine lv_aload_n hx hb dX5_comeIn_5 rfl (lv_at hl 0 rfl) ?_
  refine va_get (D := G) (ci := 5) (v := .ref (a 1)) (C := RX5) (T := TX5) (N := 4) hx hb hts huX5_comeIn_X5 hown hK.1 hP 0 rfl rfl 0 (by decide) hw0 (fun _ h9 => h9) rfl dX5_comeIn_6 ?_
  refine lv_iload_n hx hb dX5_comeIn_9 rfl (lv_at hl 1 rfl) ?_
  obtain ⟨x2, ex2, h⟩ := o_b h
  refine bcall_iV (As := [.int p1]) (rest := []) (c0 := [wG cI (a 1) (a 2) (a 3) (a 4) (a 5) (a 6) (a 7) (a 8) (a 9) (a 10) g_ft g_er g_eb g_li g_st g_rd g_tu g_la g_dl g_sh g_tb]) (c1 := [wG cI (a 1) (a 2) (a 3) (a 4) (a 5) (a 6) (a 7) (a 8) (a 9) (a 10) g_ft g_er g_eb g_li g_st g_rd g_tu g_la g_dl g_sh g_tb]) (bs2 := [[((a 0), .inr (5, [.ref (a 1), .ref (a 11), .ref (a 21), .ref (a 63)]))], wG cI (a 1) (a 2) (a 3) (a 4) (a 5) (a 6) (a 7) (a 8) (a 9) (a 10) g_ft g_er g_eb g_li g_st g_rd g_tu g_la g_dl g_sh g_tb, wG cI (a 11) (a 12) (a 13) (a 14) (a 15) (a 16) (a 17) (a 18) (a 19) (a 20) z_ft z_er z_eb z_li z_st z_rd z_tu z_la z_dl z_sh z_tb, wH cI cG (fun i => a (21 + i)) yc yp yg, wS cI (a 63) (a 64) (a 65) (a 66) (a 67) tx cm]) ⟨hx, hb, hml, hown, hts⟩ (cX1_mayResumeTurn_ok l G cI cG (a 1) (a 2) (a 3) (a 4) (a 5) (a 6) (a 7) (a 8) (a 9) (a 10) fu g_ft g_er g_eb g_li g_st g_rd g_tu g_la g_dl g_sh g_tb p1 x2 ex2) (cwV 1 hts gX5_comeIn_X1_mayResumeTurn_122 rfl rfl rfl hdX1_mayResumeTurn ⟨Nat.le_of_ble_eq_true rfl, Nat.le_of_ble_eq_true rfl⟩) hP hD hS hA hK 1 rfl rfl rfl [1] rfl rfl rfl rfl rfl rfl rfl rfl rfl hl.1 (Nat.le_of_ble_eq_true rfl) dX5_comeIn_10 ⟨Nat.zero_le _, Nat.zero_le _⟩ (fun H locs hP hD hS => ?_)
  obtain ⟨x3, ex3, h⟩ := o_b h
  refine bcall_vS (As := [.int (bI x2)]) (rest := []) (c0 := []) (c1 := []) (bs2 := [[((a 0), .inr (5, [.ref (a 1), .ref (a 11), .ref (a 21), .ref (a 63)]))], wG cI (a 1) (a 2) (a 3) (a 4) (a 5) (a 6) (a 7) (a 8) (a 9) (a 10) g_ft g_er g_eb g_li g_st g_rd g_tu g_la g_dl g_sh g_tb, wG cI (a 11) (a 12) (a 13) (a 14) (a 15) (a 16) (a 17) (a 18) (a 19) (a 20) z_ft z_er z_eb z_li z_st z_rd z_tu z_la z_dl z_sh z_tb, wH cI cG (fun i => a (21 + i)) yc yp yg, wS cI (a 63) (a 64) (a 65) (a 66) (a 67) tx cm]) ⟨hx, hb, hml, hown, hts⟩ (cX5_requirePossible_ok l G cI cG x2 x3 ex3) (va_cwS 1 hts gX5_comeIn_X5_requirePossible_103 rfl rfl rfl hdX5_requirePossible ⟨Nat.le_of_ble_eq_true rfl, Nat.le_of_ble_eq_true rfl⟩) hP hD hS hA hK [] rfl rfl rfl rfl rfl rfl rfl rfl rfl hl.1 (Nat.le_of_ble_eq_true rfl) dX5_comeIn_13 ⟨Nat.zero_le _, Nat.zero_le _⟩ (fun H locs hP hD hS => ?_)
  refine lv_aload_n hx hb dX5_comeIn_16 rfl (lv_at hl 0 rfl) ?_
  refine va_get (D := G) (ci := 5) (v := .ref (a 21)) (C := RX5) (T := TX5) (N := 4) hx hb hts huX5_comeIn_X5 hown hK.1 hP 0 rfl rfl 2 (by decide) hw1 (fun _ h9 => h9) rfl dX5_comeIn_17 ?_
  refine lv_aload_n hx hb dX5_comeIn_20 rfl (lv_at hl 0 rfl) ?_
  refine va_get (D := G) (ci := 5) (v := .ref (a 1)) (C := RX5) (T := TX5) (N := 4) hx hb hts huX5_comeIn_X5 hown hK.1 hP 0 rfl rfl 0 (by decide) hw0 (fun _ h9 => h9) rfl dX5_comeIn_21 ?_
  obtain ⟨x4, ex4, h⟩ := o_b h
  refine bcall_vV (As := [.ref (a 1)]) (rest := []) (c0 := [wH cI cG (fun i => a (21 + i)) yc yp yg, wG cI (a 1) (a 2) (a 3) (a 4) (a 5) (a 6) (a 7) (a 8) (a 9) (a 10) g_ft g_er g_eb g_li g_st g_rd g_tu g_la g_dl g_sh g_tb]) (c1 := [wH cI cG (fun i => a (21 + i)) x4.1 x4.2.1 x4.2.2, wG cI (a 1) (a 2) (a 3) (a 4) (a 5) (a 6) (a 7) (a 8) (a 9) (a 10) g_ft g_er g_eb g_li g_st g_rd g_tu g_la g_dl g_sh g_tb]) (bs2 := [[((a 0), .inr (5, [.ref (a 1), .ref (a 11), .ref (a 21), .ref (a 63)]))], wG cI (a 1) (a 2) (a 3) (a 4) (a 5) (a 6) (a 7) (a 8) (a 9) (a 10) g_ft g_er g_eb g_li g_st g_rd g_tu g_la g_dl g_sh g_tb, wG cI (a 11) (a 12) (a 13) (a 14) (a 15) (a 16) (a 17) (a 18) (a 19) (a 20) z_ft z_er z_eb z_li z_st z_rd z_tu z_la z_dl z_sh z_tb, wH cI cG (fun i => a (21 + i)) x4.1 x4.2.1 x4.2.2, wS cI (a 63) (a 64) (a 65) (a 66) (a 67) tx cm]) ⟨hx, hb, hml, hown, hts⟩ (cX2_save_ok l G cI cG (fun i => a (21 + i)) (a 1) (a 2) (a 3) (a 4) (a 5) (a 6) (a 7) (a 8) (a 9) (a 10) fu yc yp yg g_ft g_er g_eb g_li g_st g_rd g_tu g_la g_dl g_sh g_tb x4 ex4) (cwV 1 hts gX5_comeIn_X2_save_53 rfl rfl rfl hdX2_save ⟨Nat.le_of_ble_eq_true rfl, Nat.le_of_ble_eq_true rfl⟩) hP hD hS hA hK 2 rfl rfl rfl [3, 1] rfl rfl rfl rfl rfl rfl rfl rfl rfl hl.1 (Nat.le_of_ble_eq_true rfl) dX5_comeIn_24 ⟨Nat.zero_le _, Nat.zero_le _⟩ (fun H locs hP hD hS => ?_)
  refine lv_aload_n hx hb dX5_comeIn_27 rfl (lv_at hl 0 rfl) ?_
  refine va_get (D := G) (ci := 5) (v := .ref (a 1)) (C := RX5) (T := TX5) (N := 4) hx hb hts huX5_comeIn_X5 hown hK.1 hP 0 rfl rfl 0 (by decide) hw0 (fun _ h9 => h9) rfl dX5_comeIn_28 ?_
  refine lv_iload_n hx hb dX5_comeIn_31 rfl (lv_at hl 1 rfl) ?_
  obtain ⟨x5, ex5, h⟩ := o_b h
  refine bcall_iV (As := [.int p1]) (rest := []) (c0 := [wG cI (a 1) (a 2) (a 3) (a 4) (a 5) (a 6) (a 7) (a 8) (a 9) (a 10) g_ft g_er g_eb g_li g_st g_rd g_tu g_la g_dl g_sh g_tb]) (c1 := [wG cI (a 1) (a 2) (a 3) (a 4) (a 5) (a 6) (a 7) (a 8) (a 9) (a 10) g_ft g_er g_eb x5.2.1 g_st g_rd x5.2.2.1 x5.2.2.2.1 x5.2.2.2.2 g_sh g_tb]) (bs2 := [[((a 0), .inr (5, [.ref (a 1), .ref (a 11), .ref (a 21), .ref (a 63)]))], wG cI (a 1) (a 2) (a 3) (a 4) (a 5) (a 6) (a 7) (a 8) (a 9) (a 10) g_ft g_er g_eb x5.2.1 g_st g_rd x5.2.2.1 x5.2.2.2.1 x5.2.2.2.2 g_sh g_tb, wG cI (a 11) (a 12) (a 13) (a 14) (a 15) (a 16) (a 17) (a 18) (a 19) (a 20) z_ft z_er z_eb z_li z_st z_rd z_tu z_la z_dl z_sh z_tb, wH cI cG (fun i => a (21 + i)) x4.1 x4.2.1 x4.2.2, wS cI (a 63) (a 64) (a 65) (a 66) (a 67) tx cm]) ⟨hx, hb, hml, hown, hts⟩ (cX1_resumeTurn_ok l G cI cG (a 1) (a 2) (a 3) (a 4) (a 5) (a 6) (a 7) (a 8) (a 9) (a 10) fu g_ft g_er g_eb g_li g_st g_rd g_tu g_la g_dl g_sh g_tb p1 x5 ex5) (cwV 1 hts gX5_comeIn_X1_resumeTurn_126 rfl rfl rfl hdX1_resumeTurn ⟨Nat.le_of_ble_eq_true rfl, Nat.le_of_ble_eq_true rfl⟩) hP hD hS hA hK 1 rfl rfl rfl [1] rfl rfl rfl rfl rfl rfl rfl rfl rfl hl.1 (Nat.le_of_ble_eq_true rfl) dX5_comeIn_32 ⟨Nat.zero_le _, Nat.zero_le _⟩ (fun H locs hP hD hS => ?_)
  obtain rfl := o_s h
  rw [hQ]
  exact end_i hx hb hr rfl hP hD hS dX5_comeIn_35 hlocks
theorem hdX5_act : yX5_act.cls = RX5 ∧ yX5_act.cls ≠ "java/lang/invoke/MethodHandle" ∧ yX5_act.cls ≠ "java/lang/invoke/VarHandle" ∧ (parseMethodDescriptor yX5_act.desc).map (fun d => d.parameters.length) = some 4 := by decide +kernel
set_option maxHeartbeats 4000000 in
set_option maxRecDepth 100000 in
theorem cX5_act_ok (l : Launch) (G : va_G) (cI cG : ClassId) (a : Nat → Nat) (fu : Nat) (g_ft : Tab) (g_er : Tab) (g_eb : Int32) (g_li : Tab) (g_st : Tab) (g_rd : Int32) (g_tu : Int32) (g_la : Int32) (g_dl : Bool) (g_sh : Int32) (g_tb : Int32) (z_ft : Tab) (z_er : Tab) (z_eb : Int32) (z_li : Tab) (z_st : Tab) (z_rd : Int32) (z_tu : Int32) (z_la : Int32) (z_dl : Bool) (z_sh : Int32) (z_tb : Int32) (yc : Int32) (yp : (Nat → Nat)) (yg : (Nat → GV)) (tx : Tab) (cm : Tab) (p1 : Int32) (p2 : Int32) (p3 : Int32) (p4 : Int32) (out : Int32 × Tab × Tab × Bool × Int32 × (Nat → Nat) × (Nat → GV)) (hf : fX5_act fu g_ft g_er g_eb g_li g_st g_rd g_tu g_la g_dl g_sh g_tb yc yp yg p1 p2 p3 p4 = some out) : CI l G (tyz cI cG) yX5_act wsX5_act ({ frames := 5, cells := 0, slots := 0, locals := 145 } : Room) [.ref (a 0), .int p1, .int p2, .int p3, .int p4] (([[((a 0), .inr (5, [.ref (a 1), .ref (a 11), .ref (a 21), .ref (a 63)]))], wG cI (a 1) (a 2) (a 3) (a 4) (a 5) (a 6) (a 7) (a 8) (a 9) (a 10) g_ft g_er g_eb g_li g_st g_rd g_tu g_la g_dl g_sh g_tb, wG cI (a 11) (a 12) (a 13) (a 14) (a 15) (a 16) (a 17) (a 18) (a 19) (a 20) z_ft z_er z_eb z_li z_st z_rd z_tu z_la z_dl z_sh z_tb, wH cI cG (fun i => a (21 + i)) yc yp yg, wS cI (a 63) (a 64) (a 65) (a 66) (a 67) tx cm] : List va_W).flatten) out.1 (([[((a 0), .inr (5, [.ref (a 1), .ref (a 11), .ref (a 21), .ref (a 63)]))], wG cI (a 1) (a 2) (a 3) (a 4) (a 5) (a 6) (a 7) (a 8) (a 9) (a 10) out.2.1 g_er g_eb g_li out.2.2.1 g_rd g_tu g_la out.2.2.2.1 g_sh g_tb, wG cI (a 11) (a 12) (a 13) (a 14) (a 15) (a 16) (a 17) (a 18) (a 19) (a 20) z_ft z_er z_eb z_li z_st z_rd z_tu z_la z_dl z_sh z_tb, wH cI cG (fun i => a (21 + i)) out.2.2.2.2.1 out.2.2.2.2.2.1 out.2.2.2.2.2.2, wS cI (a 63) (a 64) (a 65) (a 66) (a 67) tx cm] : List va_W).flatten) := by
  intro sz
  refine Met.ofW (cc := cX5_act) (maxL := 5) (ret := (some .int)) (by decide) rfl ?_
  intro p e s m args below meth c s₁ B hml hv
  obtain ⟨rfl, hsz, hP, hK, hD0⟩ := hv
  have hx := B.exec
  have hb := B.bytes
  have hr := B.returns
  have hts := atoms_spec (ws := wsX5_act) B.pre
  have hown : s.vm.findClass RX5 = some m.cls := findClass_of_methodNamed B.named
  have hlocks := B.notSynchronized
  subst hsz
  have hD := hD0.self (sz := s.heap.size)
  generalize hAe : va_A (([[((a 0), .inr (5, [.ref (a 1), .ref (a 11), .ref (a 21), .ref (a 63)]))], wG cI (a 1) (a 2) (a 3) (a 4) (a 5) (a 6) (a 7) (a 8) (a 9) (a 10) g_ft g_er g_eb g_li g_st g_rd g_tu g_la g_dl g_sh g_tb, wG cI (a 11) (a 12) (a 13) (a 14) (a 15) (a 16) (a 17) (a 18) (a 19) (a 20) z_ft z_er z_eb z_li z_st z_rd z_tu z_la z_dl z_sh z_tb, wH cI cG (fun i => a (21 + i)) yc yp yg, wS cI (a 63) (a 64) (a 65) (a 66) (a 67) tx cm] : List va_W).flatten) s.heap.size = A at hD ⊢
  have hA : ∀ q : Nat, s.heap.size ≤ q → A q := fun q h => by rw [← hAe]; exact Or.inr h
  have hS : va_S A s.heap s.heap [] := va_S.rf
  have hw0 := hts (.fieldLink RX5 10 "SpeedTurns" "game" "LSpeedTurns$Game;") (List.mem_of_getElem? (i := 7) rfl)
  have hw1 := hts (.fieldLink RX5 22 "SpeedTurns" "history" "LSpeedTurns$History;") (List.mem_of_getElem? (i := 14) rfl)
  show W p l e ({ frames := 5, cells := 0, slots := 0, locals := 145 } : Room) s m _ below meth c s.heap [] 0 0 _ _
  refine W_genQ (fun Q hQ => ?_)
  have J34 : ∀  (H : Heap) (locs : List Loc) (ls : Array Slot), fX5_act_J34 fu g_ft g_er g_eb g_li g_st g_rd g_tu g_la g_dl g_sh g_tb yc yp yg p1 p2 p3 p4 = some out → va_P G vwCl (([[((a 0), .inr (5, [.ref (a 1), .ref (a 11), .ref (a 21), .ref (a 63)]))], wG cI (a 1) (a 2) (a 3) (a 4) (a 5) (a 6) (a 7) (a 8) (a 9) (a 10) g_ft g_er g_eb g_li g_st g_rd g_tu g_la g_dl g_sh g_tb, wG cI (a 11) (a 12) (a 13) (a 14) (a 15) (a 16) (a 17) (a 18) (a 19) (a 20) z_ft z_er z_eb z_li z_st z_rd z_tu z_la z_dl z_sh z_tb, wH cI cG (fun i => a (21 + i)) yc yp yg, wS cI (a 63) (a 64) (a 65) (a 66) (a 67) tx cm] : List va_W).flatten) H → va_D A (([[((a 0), .inr (5, [.ref (a 1), .ref (a 11), .ref (a 21), .ref (a 63)]))], wG cI (a 1) (a 2) (a 3) (a 4) (a 5) (a 6) (a 7) (a 8) (a 9) (a 10) g_ft g_er g_eb g_li g_st g_rd g_tu g_la g_dl g_sh g_tb, wG cI (a 11) (a 12) (a 13) (a 14) (a 15) (a 16) (a 17) (a 18) (a 19) (a 20) z_ft z_er z_eb z_li z_st z_rd z_tu z_la z_dl z_sh z_tb, wH cI cG (fun i => a (21 + i)) yc yp yg, wS cI (a 63) (a 64) (a 65) (a 66) (a 67) tx cm] : List va_W).flatten) → va_S A s.heap H locs → lv_has ls 5 [(0, .ref (a 0)), (1, .int p1), (2, .int p2), (3, .int p3), (4, .int p4)] → W p l e ({ frames := 5, cells := 0, slots := 0, locals := 145 } : Room) s m ([.ref (a 0), .int p1, .int p2, .int p3, .int p4] : List Value).toArray below meth c H locs 0 0 Q (F0 m 34 ls []) := by
    intro  H locs ls h hP hD hS hl
    rw [fX5_act_J34] at h
    refine lv_iload hx hb dX5_act_34 (lv_at hl 4 rfl) ?_
    refine lv_iconst (v := 1) hx hb dX5_act_36 (by decide) ?_
    refine lv_bipush (v := 60) hx hb dX5_act_37 (by decide) ?_
    obtain ⟨x3, ex3, h⟩ := o_b h
    refine bcall_vS (As := [.int p4, .int (1 : Int32), .int (60 : Int32)]) (rest := []) (c0 := []) (c1 := []) (bs2 := [[((a 0), .inr (5, [.ref (a 1), .ref (a 11), .ref (a 21), .ref (a 63)]))], wG cI (a 1) (a 2) (a 3) (a 4) (a 5) (a 6) (a 7) (a 8) (a 9) (a 10) g_ft g_er g_eb g_li g_st g_rd g_tu g_la g_dl g_sh g_tb, wG cI (a 11) (a 12) (a 13) (a 14) (a 15) (a 16) (a 17) (a 18) (a 19) (a 20) z_ft z_er z_eb z_li z_st z_rd z_tu z_la z_dl z_sh z_tb, wH cI cG (fun i => a (21 + i)) yc yp yg, wS cI (a 63) (a 64) (a 65) (a 66) (a 67) tx cm]) ⟨hx, hb, hml, hown, hts⟩ (cX5_requireWithin_ok l G cI cG p4 (1 : Int32) (60 : Int32) x3 ex3) (va_cwS 3 hts gX5_act_X5_requireWithin_65 rfl rfl rfl hdX5_requireWithin ⟨Nat.le_of_ble_eq_true rfl, Nat.le_of_ble_eq_true rfl⟩) hP hD hS hA hK [] rfl rfl rfl rfl rfl rfl rfl rfl rfl hl.1 (Nat.le_of_ble_eq_true rfl) dX5_act_39 ⟨Nat.zero_le _, Nat.zero_le _⟩ (fun H locs hP hD hS => ?_)
    refine lv_aload_n hx hb dX5_act_42 rfl (lv_at hl 0 rfl) ?_
    refine va_get (D := G) (ci := 5) (v := .ref (a 1)) (C := RX5) (T := TX5) (N := 4) hx hb hts huX5_act_X5 hown hK.1 hP 0 rfl rfl 0 (by decide) hw0 (fun _ h9 => h9) rfl dX5_act_43 ?_
    refine lv_iload_n hx hb dX5_act_46 rfl (lv_at hl 1 rfl) ?_
    refine lv_iload_n hx hb dX5_act_47 rfl (lv_at hl 2 rfl) ?_
    obtain ⟨x4, ex4, h⟩ := o_b h
    refine bcall_iV (As := [.int p1, .int p2]) (rest := []) (c0 := [wG cI (a 1) (a 2) (a 3) (a 4) (a 5) (a 6) (a 7) (a 8) (a 9) (a 10) g_ft g_er g_eb g_li g_st g_rd g_tu g_la g_dl g_sh g_tb]) (c1 := [wG cI (a 1) (a 2) (a 3) (a 4) (a 5) (a 6) (a 7) (a 8) (a 9) (a 10) g_ft g_er g_eb g_li g_st g_rd g_tu g_la g_dl g_sh g_tb]) (bs2 := [[((a 0), .inr (5, [.ref (a 1), .ref (a 11), .ref (a 21), .ref (a 63)]))], wG cI (a 1) (a 2) (a 3) (a 4) (a 5) (a 6) (a 7) (a 8) (a 9) (a 10) g_ft g_er g_eb g_li g_st g_rd g_tu g_la g_dl g_sh g_tb, wG cI (a 11) (a 12) (a 13) (a 14) (a 15) (a 16) (a 17) (a 18) (a 19) (a 20) z_ft z_er z_eb z_li z_st z_rd z_tu z_la z_dl z_sh z_tb, wH cI cG (fun i => a (21 + i)) yc yp yg, wS cI (a 63) (a 64) (a 65) (a 66) (a 67) tx cm]) ⟨hx, hb, hml, hown, hts⟩ (cX1_mayAct_ok l G cI cG (a 1) (a 2) (a 3) (a 4) (a 5) (a 6) (a 7) (a 8) (a 9) (a 10) g_ft g_er g_eb g_li g_st g_rd g_tu g_la g_dl g_sh g_tb p1 p2 x4 ex4) (cwV 2 hts gX5_act_X1_mayAct_131 rfl rfl rfl hdX1_mayAct ⟨Nat.le_of_ble_eq_true rfl, Nat.le_of_ble_eq_true rfl⟩) hP hD hS hA hK 1 rfl rfl rfl [1] rfl rfl rfl rfl rfl rfl rfl rfl rfl hl.1 (Nat.le_of_ble_eq_true rfl) dX5_act_48 ⟨Nat.zero_le _, Nat.zero_le _⟩ (fun H locs hP hD hS => ?_)
    obtain ⟨x5, ex5, h⟩ := o_b h
    refine bcall_vS (As := [.int (bI x4)]) (rest := []) (c0 := []) (c1 := []) (bs2 := [[((a 0), .inr (5, [.ref (a 1), .ref (a 11), .ref (a 21), .ref (a 63)]))], wG cI (a 1) (a 2) (a 3) (a 4) (a 5) (a 6) (a 7) (a 8) (a 9) (a 10) g_ft g_er g_eb g_li g_st g_rd g_tu g_la g_dl g_sh g_tb, wG cI (a 11) (a 12) (a 13) (a 14) (a 15) (a 16) (a 17) (a 18) (a 19) (a 20) z_ft z_er z_eb z_li z_st z_rd z_tu z_la z_dl z_sh z_tb, wH cI cG (fun i => a (21 + i)) yc yp yg, wS cI (a 63) (a 64) (a 65) (a 66) (a 67) tx cm]) ⟨hx, hb, hml, hown, hts⟩ (cX5_requirePossible_ok l G cI cG x4 x5 ex5) (va_cwS 1 hts gX5_act_X5_requirePossible_103 rfl rfl rfl hdX5_requirePossible ⟨Nat.le_of_ble_eq_true rfl, Nat.le_of_ble_eq_true rfl⟩) hP hD hS hA hK [] rfl rfl rfl rfl rfl rfl rfl rfl rfl hl.1 (Nat.le_of_ble_eq_true rfl) dX5_act_51 ⟨Nat.zero_le _, Nat.zero_le _⟩ (fun H locs hP hD hS => ?_)
    refine lv_aload_n hx hb dX5_act_54 rfl (lv_at hl 0 rfl) ?_
    refine va_get (D := G) (ci := 5) (v := .ref (a 21)) (C := RX5) (T := TX5) (N := 4) hx hb hts huX5_act_X5 hown hK.1 hP 0 rfl rfl 2 (by decide) hw1 (fun _ h9 => h9) rfl dX5_act_55 ?_
    refine lv_aload_n hx hb dX5_act_58 rfl (lv_at hl 0 rfl) ?_
    refine va_get (D := G) (ci := 5) (v := .ref (a 1)) (C := RX5) (T := TX5) (N := 4) hx hb hts huX5_act_X5 hown hK.1 hP 0 rfl rfl 0 (by decide) hw0 (fun _ h9 => h9) rfl dX5_act_59 ?_
    obtain ⟨x6, ex6, h⟩ := o_b h
    refine bcall_vV (As := [.ref (a 1)]) (rest := []) (c0 := [wH cI cG (fun i => a (21 + i)) yc yp yg, wG cI (a 1) (a 2) (a 3) (a 4) (a 5) (a 6) (a 7) (a 8) (a 9) (a 10) g_ft g_er g_eb g_li g_st g_rd g_tu g_la g_dl g_sh g_tb]) (c1 := [wH cI cG (fun i => a (21 + i)) x6.1 x6.2.1 x6.2.2, wG cI (a 1) (a 2) (a 3) (a 4) (a 5) (a 6) (a 7) (a 8) (a 9) (a 10) g_ft g_er g_eb g_li g_st g_rd g_tu g_la g_dl g_sh g_tb]) (bs2 := [[((a 0), .inr (5, [.ref (a 1), .ref (a 11), .ref (a 21), .ref (a 63)]))], wG cI (a 1) (a 2) (a 3) (a 4) (a 5) (a 6) (a 7) (a 8) (a 9) (a 10) g_ft g_er g_eb g_li g_st g_rd g_tu g_la g_dl g_sh g_tb, wG cI (a 11) (a 12) (a 13) (a 14) (a 15) (a 16) (a 17) (a 18) (a 19) (a 20) z_ft z_er z_eb z_li z_st z_rd z_tu z_la z_dl z_sh z_tb, wH cI cG (fun i => a (21 + i)) x6.1 x6.2.1 x6.2.2, wS cI (a 63) (a 64) (a 65) (a 66) (a 67) tx cm]) ⟨hx, hb, hml, hown, hts⟩ (cX2_save_ok l G cI cG (fun i => a (21 + i)) (a 1) (a 2) (a 3) (a 4) (a 5) (a 6) (a 7) (a 8) (a 9) (a 10) fu yc yp yg g_ft g_er g_eb g_li g_st g_rd g_tu g_la g_dl g_sh g_tb x6 ex6) (cwV 1 hts gX5_act_X2_save_53 rfl rfl rfl hdX2_save ⟨Nat.le_of_ble_eq_true rfl, Nat.le_of_ble_eq_true rfl⟩) hP hD hS hA hK 2 rfl rfl rfl [3, 1] rfl rfl rfl rfl rfl rfl rfl rfl rfl hl.1 (Nat.le_of_ble_eq_true rfl) dX5_act_62 ⟨Nat.zero_le _, Nat.zero_le _⟩ (fun H locs hP hD hS => ?_)
    refine lv_aload_n hx hb dX5_act_65 rfl (lv_at hl 0 rfl) ?_
    refine va_get (D := G) (ci := 5) (v := .ref (a 1)) (C := RX5) (T := TX5) (N := 4) hx hb hts huX5_act_X5 hown hK.1 hP 0 rfl rfl 0 (by decide) hw0 (fun _ h9 => h9) rfl dX5_act_66 ?_
    refine lv_iload_n hx hb dX5_act_69 rfl (lv_at hl 2 rfl) ?_
    refine lv_iload_n hx hb dX5_act_70 rfl (lv_at hl 1 rfl) ?_
    refine lv_iload_n hx hb dX5_act_71 rfl (lv_at hl 3 rfl) ?_
    refine lv_iload hx hb dX5_act_72 (lv_at hl 4 rfl) ?_
    refine lv_iconst (v := 0) hx hb dX5_act_74 (by decide) ?_
    refine lv_iconst (v := 0) hx hb dX5_act_75 (by decide) ?_
    refine lv_iconst (v := 0) hx hb dX5_act_76 (by decide) ?_
    obtain ⟨x7, ex7, h⟩ := o_b h
    refine bcall_iV (As := [.int p2, .int p1, .int p3, .int p4, .int (0 : Int32), .int (0 : Int32), .int (0 : Int32)]) (rest := []) (c0 := [wG cI (a 1) (a 2) (a 3) (a 4) (a 5) (a 6) (a 7) (a 8) (a 9) (a 10) g_ft g_er g_eb g_li g_st g_rd g_tu g_la g_dl g_sh g_tb]) (c1 := [wG cI (a 1) (a 2) (a 3) (a 4) (a 5) (a 6) (a 7) (a 8) (a 9) (a 10) x7.2.1 g_er g_eb g_li x7.2.2.1 g_rd g_tu g_la x7.2.2.2 g_sh g_tb]) (bs2 := [[((a 0), .inr (5, [.ref (a 1), .ref (a 11), .ref (a 21), .ref (a 63)]))], wG cI (a 1) (a 2) (a 3) (a 4) (a 5) (a 6) (a 7) (a 8) (a 9) (a 10) x7.2.1 g_er g_eb g_li x7.2.2.1 g_rd g_tu g_la x7.2.2.2 g_sh g_tb, wG cI (a 11) (a 12) (a 13) (a 14) (a 15) (a 16) (a 17) (a 18) (a 19) (a 20) z_ft z_er z_eb z_li z_st z_rd z_tu z_la z_dl z_sh z_tb, wH cI cG (fun i => a (21 + i)) x6.1 x6.2.1 x6.2.2, wS cI (a 63) (a 64) (a 65) (a 66) (a 67) tx cm]) ⟨hx, hb, hml, hown, hts⟩ (cX1_beginAct_ok l G cI cG (a 1) (a 2) (a 3) (a 4) (a 5) (a 6) (a 7) (a 8) (a 9) (a 10) fu g_ft g_er g_eb g_li g_st g_rd g_tu g_la g_dl g_sh g_tb p2 p1 p3 p4 (0 : Int32) (0 : Int32) (0 : Int32) x7 ex7) (cwV 7 hts gX5_act_X1_beginAct_135 rfl rfl rfl hdX1_beginAct ⟨Nat.le_of_ble_eq_true rfl, Nat.le_of_ble_eq_true rfl⟩) hP hD hS hA hK 1 rfl rfl rfl [1] rfl rfl rfl rfl rfl rfl rfl rfl rfl hl.1 (Nat.le_of_ble_eq_true rfl) dX5_act_77 ⟨Nat.zero_le _, Nat.zero_le _⟩ (fun H locs hP hD hS => ?_)
    obtain rfl := o_s h
    rw [hQ]
    exact end_i hx hb hr rfl hP hD hS dX5_act_80 hlocks
  have h := hf
  rw [fX5_act] at h
  have hl := lv_entry ([.ref (a 0), .int p1, .int p2, .int p3, .int p4]) (n := 5) (Nat.le_of_ble_eq_true rfl)
  rw [lg_entry_eq]
  generalize (lg_sl ([.ref (a 0), .int p1, .int p2, .int p3, .int p4]) ++ List.replicate (5 - (lg_sl ([.ref (a 0), .int p1, .int p2, .int p3, .int p4])).length) Slot.unset).toArray = ls at hl ⊢
  have hl : lv_has ls 5 [(0, .ref (a 0)), (1, .int p1), (2, .int p2), (3, .int p3), (4, .int p4)] := hl
  refine lv_aload_n hx hb dX5_act_0 rfl (lv_at hl 0 rfl) ?_
  refine lv_iload_n hx hb dX5_act_1 rfl (lv_at hl 1 rfl) ?_
  obtain ⟨x1, ex1, h⟩ := o_b h
  refine bcall_vV (As := [.int p1]) (rest := []) (c0 := [[((a 0), .inr (5, [.ref (a 1), .ref (a 11), .ref (a 21), .ref (a 63)]))], wG cI (a 1) (a 2) (a 3) (a 4) (a 5) (a 6) (a 7) (a 8) (a 9) (a 10) g_ft g_er g_eb g_li g_st g_rd g_tu g_la g_dl g_sh g_tb, wG cI (a 11) (a 12) (a 13) (a 14) (a 15) (a 16) (a 17) (a 18) (a 19) (a 20) z_ft z_er z_eb z_li z_st z_rd z_tu z_la z_dl z_sh z_tb, wH cI cG (fun i => a (21 + i)) yc yp yg, wS cI (a 63) (a 64) (a 65) (a 66) (a 67) tx cm]) (c1 := [[((a 0), .inr (5, [.ref (a 1), .ref (a 11), .ref (a 21), .ref (a 63)]))], wG cI (a 1) (a 2) (a 3) (a 4) (a 5) (a 6) (a 7) (a 8) (a 9) (a 10) g_ft g_er g_eb g_li g_st g_rd g_tu g_la g_dl g_sh g_tb, wG cI (a 11) (a 12) (a 13) (a 14) (a 15) (a 16) (a 17) (a 18) (a 19) (a 20) z_ft z_er z_eb z_li z_st z_rd z_tu z_la z_dl z_sh z_tb, wH cI cG (fun i => a (21 + i)) yc yp yg, wS cI (a 63) (a 64) (a 65) (a 66) (a 67) tx cm]) (bs2 := [[((a 0), .inr (5, [.ref (a 1), .ref (a 11), .ref (a 21), .ref (a 63)]))], wG cI (a 1) (a 2) (a 3) (a 4) (a 5) (a 6) (a 7) (a 8) (a 9) (a 10) g_ft g_er g_eb g_li g_st g_rd g_tu g_la g_dl g_sh g_tb, wG cI (a 11) (a 12) (a 13) (a 14) (a 15) (a 16) (a 17) (a 18) (a 19) (a 20) z_ft z_er z_eb z_li z_st z_rd z_tu z_la z_dl z_sh z_tb, wH cI cG (fun i => a (21 + i)) yc yp yg, wS cI (a 63) (a 64) (a 65) (a 66) (a 67) tx cm]) ⟨hx, hb, hml, hown, hts⟩ (cX5_requireFighter_ok l G cI cG a g_ft g_er g_eb g_li g_st g_rd g_tu g_la g_dl g_sh g_tb z_ft z_er z_eb z_li z_st z_rd z_tu z_la z_dl z_sh z_tb yc yp yg tx cm p1 x1 ex1) (cwV 1 hts gX5_act_X5_requireFighter_61 rfl rfl rfl hdX5_requireFighter ⟨Nat.le_of_ble_eq_true rfl, Nat.le_of_ble_eq_true rfl⟩) hP hD hS hA hK 5 rfl rfl rfl [0, 1, 2, 3, 4] rfl rfl rfl rfl rfl rfl rfl rfl rfl hl.1 (Nat.le_of_ble_eq_true rfl) dX5_act_2 ⟨Nat.zero_le _, Nat.zero_le _⟩ (fun H locs hP hD hS => ?_)
  refine lv_aload_n hx hb dX5_act_5 rfl (lv_at hl 0 rfl) ?_
  refine lv_iload_n hx hb dX5_act_6 rfl (lv_at hl 3 rfl) ?_
  obtain ⟨x2, ex2, h⟩ := o_b h
  refine bcall_vV (As := [.int p3]) (rest := []) (c0 := [[((a 0), .inr (5, [.ref (a 1), .ref (a 11), .ref (a 21), .ref (a 63)]))], wG cI (a 1) (a 2) (a 3) (a 4) (a 5) (a 6) (a 7) (a 8) (a 9) (a 10) g_ft g_er g_eb g_li g_st g_rd g_tu g_la g_dl g_sh g_tb, wG cI (a 11) (a 12) (a 13) (a 14) (a 15) (a 16) (a 17) (a 18) (a 19) (a 20) z_ft z_er z_eb z_li z_st z_rd z_tu z_la z_dl z_sh z_tb, wH cI cG (fun i => a (21 + i)) yc yp yg, wS cI (a 63) (a 64) (a 65) (a 66) (a 67) tx cm]) (c1 := [[((a 0), .inr (5, [.ref (a 1), .ref (a 11), .ref (a 21), .ref (a 63)]))], wG cI (a 1) (a 2) (a 3) (a 4) (a 5) (a 6) (a 7) (a 8) (a 9) (a 10) g_ft g_er g_eb g_li g_st g_rd g_tu g_la g_dl g_sh g_tb, wG cI (a 11) (a 12) (a 13) (a 14) (a 15) (a 16) (a 17) (a 18) (a 19) (a 20) z_ft z_er z_eb z_li z_st z_rd z_tu z_la z_dl z_sh z_tb, wH cI cG (fun i => a (21 + i)) yc yp yg, wS cI (a 63) (a 64) (a 65) (a 66) (a 67) tx cm]) (bs2 := [[((a 0), .inr (5, [.ref (a 1), .ref (a 11), .ref (a 21), .ref (a 63)]))], wG cI (a 1) (a 2) (a 3) (a 4) (a 5) (a 6) (a 7) (a 8) (a 9) (a 10) g_ft g_er g_eb g_li g_st g_rd g_tu g_la g_dl g_sh g_tb, wG cI (a 11) (a 12) (a 13) (a 14) (a 15) (a 16) (a 17) (a 18) (a 19) (a 20) z_ft z_er z_eb z_li z_st z_rd z_tu z_la z_dl z_sh z_tb, wH cI cG (fun i => a (21 + i)) yc yp yg, wS cI (a 63) (a 64) (a 65) (a 66) (a 67) tx cm]) ⟨hx, hb, hml, hown, hts⟩ (cX5_requireFighter_ok l G cI cG a g_ft g_er g_eb g_li g_st g_rd g_tu g_la g_dl g_sh g_tb z_ft z_er z_eb z_li z_st z_rd z_tu z_la z_dl z_sh z_tb yc yp yg tx cm p3 x2 ex2) (cwV 1 hts gX5_act_X5_requireFighter_61 rfl rfl rfl hdX5_requireFighter ⟨Nat.le_of_ble_eq_true rfl, Nat.le_of_ble_eq_true rfl⟩) hP hD hS hA hK 5 rfl rfl rfl [0, 1, 2, 3, 4] rfl rfl rfl rfl rfl rfl rfl rfl rfl hl.1 (Nat.le_of_ble_eq_true rfl) dX5_act_7 ⟨Nat.zero_le _, Nat.zero_le _⟩ (fun H locs hP hD hS => ?_)
  refine lv_iload_n hx hb dX5_act_10 rfl (lv_at hl 2 rfl) ?_
  refine lv_if_eq (tgt := 34) hx hb dX5_act_11 (by decide) (fun hc => ?_) (fun hc => ?_)
  · have h := o_t h hc
    exact J34  _ _ _ h hP hD hS (lv_sub hl [0, 1, 2, 3, 4] rfl)
  · have h := o_f h hc
    refine lv_iload_n hx hb dX5_act_14 rfl (lv_at hl 2 rfl) ?_
    refine lv_iconst (v := 1) hx hb dX5_act_15 (by decide) ?_
    refine lv_icmp_eq (tgt := 34) hx hb dX5_act_16 (by decide) (fun hc => ?_) (fun hc => ?_)
    · have h := o_t h hc
      exact J34  _ _ _ h hP hD hS (lv_sub hl [0, 1, 2, 3, 4] rfl)
    · have h := o_f h hc
      refine lv_iload_n hx hb dX5_act_19 rfl (lv_at hl 2 rfl) ?_
      refine lv_iconst (v := 3) hx hb dX5_act_20 (by decide) ?_
      refine lv_icmp_eq (tgt := 34) hx hb dX5_act_21 (by decide) (fun hc => ?_) (fun hc => ?_)
      · have h := o_t h hc
        exact J34  _ _ _ h hP hD hS (lv_sub hl [0, 1, 2, 3, 4] rfl)
      · have h := o_f h hc
        exact o_n h
theorem hdX5_cast : yX5_cast.cls = RX5 ∧ yX5_cast.cls ≠ "java/lang/invoke/MethodHandle" ∧ yX5_cast.cls ≠ "java/lang/invoke/VarHandle" ∧ (parseMethodDescriptor yX5_cast.desc).map (fun d => d.parameters.length) = some 6 := by decide +kernel
set_option maxHeartbeats 4000000 in
set_option maxRecDepth 100000 in
theorem cX5_cast_ok (l : Launch) (G : va_G) (cI cG : ClassId) (a : Nat → Nat) (fu : Nat) (g_ft : Tab) (g_er : Tab) (g_eb : Int32) (g_li : Tab) (g_st : Tab) (g_rd : Int32) (g_tu : Int32) (g_la : Int32) (g_dl : Bool) (g_sh : Int32) (g_tb : Int32) (z_ft : Tab) (z_er : Tab) (z_eb : Int32) (z_li : Tab) (z_st : Tab) (z_rd : Int32) (z_tu : Int32) (z_la : Int32) (z_dl : Bool) (z_sh : Int32) (z_tb : Int32) (yc : Int32) (yp : (Nat → Nat)) (yg : (Nat → GV)) (tx : Tab) (cm : Tab) (p1 : Int32) (p2 : Int32) (p3 : Int32) (p4 : Int32) (p5 : Int32) (p6 : Int32) (out : Int32 × Tab × Tab × Bool × Int32 × (Nat → Nat) × (Nat → GV)) (hf : fX5_cast fu g_ft g_er g_eb g_li g_st g_rd g_tu g_la g_dl g_sh g_tb yc yp yg p1 p2 p3 p4 p5 p6 = some out) : CI l G (tyz cI cG) yX5_cast wsX5_cast ({ frames := 5, cells := 0, slots := 0, locals := 145 } : Room) [.ref (a 0), .int p1, .int p2, .int p3, .int p4, .int p5, .int p6] (([[((a 0), .inr (5, [.ref (a 1), .ref (a 11), .ref (a 21), .ref (a 63)]))], wG cI (a 1) (a 2) (a 3) (a 4) (a 5) (a 6) (a 7) (a 8) (a 9) (a 10) g_ft g_er g_eb g_li g_st g_rd g_tu g_la g_dl g_sh g_tb, wG cI (a 11) (a 12) (a 13) (a 14) (a 15) (a 16) (a 17) (a 18) (a 19) (a 20) z_ft z_er z_eb z_li z_st z_rd z_tu z_la z_dl z_sh z_tb, wH cI cG (fun i => a (21 + i)) yc yp yg, wS cI (a 63) (a 64) (a 65) (a 66) (a 67) tx cm] : List va_W).flatten) out.1 (([[((a 0), .inr (5, [.ref (a 1), .ref (a 11), .ref (a 21), .ref (a 63)]))], wG cI (a 1) (a 2) (a 3) (a 4) (a 5) (a 6) (a 7) (a 8) (a 9) (a 10) out.2.1 g_er g_eb g_li out.2.2.1 g_rd g_tu g_la out.2.2.2.1 g_sh g_tb, wG cI (a 11) (a 12) (a 13) (a 14) (a 15) (a 16) (a 17) (a 18) (a 19) (a 20) z_ft z_er z_eb z_li z_st z_rd z_tu z_la z_dl z_sh z_tb, wH cI cG (fun i => a (21 + i)) out.2.2.2.2.1 out.2.2.2.2.2.1 out.2.2.2.2.2.2, wS cI (a 63) (a 64) (a 65) (a 66) (a 67) tx cm] : List va_W).flatten) := by
  intro sz
  refine Met.ofW (cc := cX5_cast) (maxL := 7) (ret := (some .int)) (by decide) rfl ?_
  intro p e s m args below meth c s₁ B hml hv
  obtain ⟨rfl, hsz, hP, hK, hD0⟩ := hv
  have hx := B.exec
  have hb := B.bytes
  have hr := B.returns
  have hts := atoms_spec (ws := wsX5_cast) B.pre
  have hown : s.vm.findClass RX5 = some m.cls := findClass_of_methodNamed B.named
  have hlocks := B.notSynchronized
  subst hsz
  have hD := hD0.self (sz := s.heap.size)
  generalize hAe : va_A (([[((a 0), .inr (5, [.ref (a 1), .ref (a 11), .ref (a 21), .ref (a 63)]))], wG cI (a 1) (a 2) (a 3) (a 4) (a 5) (a 6) (a 7) (a 8) (a 9) (a 10) g_ft g_er g_eb g_li g_st g_rd g_tu g_la g_dl g_sh g_tb, wG cI (a 11) (a 12) (a 13) (a 14) (a 15) (a 16) (a 17) (a 18) (a 19) (a 20) z_ft z_er z_eb z_li z_st z_rd z_tu z_la z_dl z_sh z_tb, wH cI cG (fun i => a (21 + i)) yc yp yg, wS cI (a 63) (a 64) (a 65) (a 66) (a 67) tx cm] : List va_W).flatten) s.heap.size = A at hD ⊢
  have hA : ∀ q : Nat, s.heap.size ≤ q → A q := fun q h => by rw [← hAe]; exact Or.inr h
  have hS : va_S A s.heap s.heap [] := va_S.rf
  have hw0 := hts (.fieldLink RX5 10 "SpeedTurns" "game" "LSpeedTurns$Game;") (List.mem_of_getElem? (i := 7) rfl)
  have hw1 := hts (.fieldLink RX5 22 "SpeedTurns" "history" "LSpeedTurns$History;") (List.mem_of_getElem? (i := 14) rfl)
  show W p l e ({ frames := 5, cells := 0, slots := 0, locals := 145 } : Room) s m _ below meth c s.heap [] 0 0 _ _
  refine W_genQ (fun Q hQ => ?_)
  have h := hf
  rw [fX5_cast] at h
  have hl := lv_entry ([.ref (a 0), .int p1, .int p2, .int p3, .int p4, .int p5, .int p6]) (n := 7) (Nat.le_of_ble_eq_true rfl)
  rw [lg_entry_eq]
  generalize (lg_sl ([.ref (a 0), .int p1, .int p2, .int p3, .int p4, .int p5, .int p6]) ++ List.replicate (7 - (lg_sl ([.ref (a 0), .int p1, .int p2, .int p3, .int p4, .int p5, .int p6])).length) Slot.unset).toArray = ls at hl ⊢
  have hl : lv_has ls 7 [(0, .ref (a 0)), (1, .int p1), (2, .int p2), (3, .int p3), (4, .int p4), (5, .int p5), (6, .int p6)] := hl
  refine lv_aload_n hx hb dX5_cast_0 rfl (lv_at hl 0 rfl) ?_
  refine lv_iload_n hx hb dX5_cast_1 rfl (lv_at hl 1 rfl) ?_
  obtain ⟨x1, ex1, h⟩ := o_b h
  refine bcall_vV (As := [.int p1]) (rest := []) (c0 := [[((a 0), .inr (5, [.ref (a 1), .ref (a 11), .ref (a 21), .ref (a 63)]))], wG cI (a 1) (a 2) (a 3) (a 4) (a 5) (a 6) (a 7) (a 8) (a 9) (a 10) g_ft g_er g_eb g_li g_st g_rd g_tu g_la g_dl g_sh g_tb, wG cI (a 11) (a 12) (a 13) (a 14) (a 15) (a 16) (a 17) (a 18) (a 19) (a 20) z_ft z_er z_eb z_li z_st z_rd z_tu z_la z_dl z_sh z_tb, wH cI cG (fun i => a (21 + i)) yc yp yg, wS cI (a 63) (a 64) (a 65) (a 66) (a 67) tx cm]) (c1 := [[((a 0), .inr (5, [.ref (a 1), .ref (a 11), .ref (a 21), .ref (a 63)]))], wG cI (a 1) (a 2) (a 3) (a 4) (a 5) (a 6) (a 7) (a 8) (a 9) (a 10) g_ft g_er g_eb g_li g_st g_rd g_tu g_la g_dl g_sh g_tb, wG cI (a 11) (a 12) (a 13) (a 14) (a 15) (a 16) (a 17) (a 18) (a 19) (a 20) z_ft z_er z_eb z_li z_st z_rd z_tu z_la z_dl z_sh z_tb, wH cI cG (fun i => a (21 + i)) yc yp yg, wS cI (a 63) (a 64) (a 65) (a 66) (a 67) tx cm]) (bs2 := [[((a 0), .inr (5, [.ref (a 1), .ref (a 11), .ref (a 21), .ref (a 63)]))], wG cI (a 1) (a 2) (a 3) (a 4) (a 5) (a 6) (a 7) (a 8) (a 9) (a 10) g_ft g_er g_eb g_li g_st g_rd g_tu g_la g_dl g_sh g_tb, wG cI (a 11) (a 12) (a 13) (a 14) (a 15) (a 16) (a 17) (a 18) (a 19) (a 20) z_ft z_er z_eb z_li z_st z_rd z_tu z_la z_dl z_sh z_tb, wH cI cG (fun i => a (21 + i)) yc yp yg, wS cI (a 63) (a 64) (a 65) (a 66) (a 67) tx cm]) ⟨hx, hb, hml, hown, hts⟩ (cX5_requireFighter_ok l G cI cG a g_ft g_er g_eb g_li g_st g_rd g_tu g_la g_dl g_sh g_tb z_ft z_er z_eb z_li z_st z_rd z_tu z_la z_dl z_sh z_tb yc yp yg tx cm p1 x1 ex1) (cwV 1 hts gX5_cast_X5_requireFighter_61 rfl rfl rfl hdX5_requireFighter ⟨Nat.le_of_ble_eq_true rfl, Nat.le_of_ble_eq_true rfl⟩) hP hD hS hA hK 5 rfl rfl rfl [0, 1, 2, 3, 4] rfl rfl rfl rfl rfl rfl rfl rfl rfl hl.1 (Nat.le_of_ble_eq_true rfl) dX5_cast_2 ⟨Nat.zero_le _, Nat.zero_le _⟩ (fun H locs hP hD hS => ?_)
  refine lv_aload_n hx hb dX5_cast_5 rfl (lv_at hl 0 rfl) ?_
  refine lv_iload_n hx hb dX5_cast_6 rfl (lv_at hl 2 rfl) ?_
  obtain ⟨x2, ex2, h⟩ := o_b h
  refine bcall_vV (As := [.int p2]) (rest := []) (c0 := [[((a 0), .inr (5, [.ref (a 1), .ref (a 11), .ref (a 21), .ref (a 63)]))], wG cI (a 1) (a 2) (a 3) (a 4) (a 5) (a 6) (a 7) (a 8) (a 9) (a 10) g_ft g_er g_eb g_li g_st g_rd g_tu g_la g_dl g_sh g_tb, wG cI (a 11) (a 12) (a 13) (a 14) (a 15) (a 16) (a 17) (a 18) (a 19) (a 20) z_ft z_er z_eb z_li z_st z_rd z_tu z_la z_dl z_sh z_tb, wH cI cG (fun i => a (21 + i)) yc yp yg, wS cI (a 63) (a 64) (a 65) (a 66) (a 67) tx cm]) (c1 := [[((a 0), .inr (5, [.ref (a 1), .ref (a 11), .ref (a 21), .ref (a 63)]))], wG cI (a 1) (a 2) (a 3) (a 4) (a 5) (a 6) (a 7) (a 8) (a 9) (a 10) g_ft g_er g_eb g_li g_st g_rd g_tu g_la g_dl g_sh g_tb, wG cI (a 11) (a 12) (a 13) (a 14) (a 15) (a 16) (a 17) (a 18) (a 19) (a 20) z_ft z_er z_eb z_li z_st z_rd z_tu z_la z_dl z_sh z_tb, wH cI cG (fun i => a (21 + i)) yc yp yg, wS cI (a 63) (a 64) (a 65) (a 66) (a 67) tx cm]) (bs2 := [[((a 0), .inr (5, [.ref (a 1), .ref (a 11), .ref (a 21), .ref (a 63)]))], wG cI (a 1) (a 2) (a 3) (a 4) (a 5) (a 6) (a 7) (a 8) (a 9) (a 10) g_ft g_er g_eb g_li g_st g_rd g_tu g_la g_dl g_sh g_tb, wG cI (a 11) (a 12) (a 13) (a 14) (a 15) (a 16) (a 17) (a 18) (a 19) (a 20) z_ft z_er z_eb z_li z_st z_rd z_tu z_la z_dl z_sh z_tb, wH cI cG (fun i => a (21 + i)) yc yp yg, wS cI (a 63) (a 64) (a 65) (a 66) (a 67) tx cm]) ⟨hx, hb, hml, hown, hts⟩ (cX5_requireFighter_ok l G cI cG a g_ft g_er g_eb g_li g_st g_rd g_tu g_la g_dl g_sh g_tb z_ft z_er z_eb z_li z_st z_rd z_tu z_la z_dl z_sh z_tb yc yp yg tx cm p2 x2 ex2) (cwV 1 hts gX5_cast_X5_requireFighter_61 rfl rfl rfl hdX5_requireFighter ⟨Nat.le_of_ble_eq_true rfl, Nat.le_of_ble_eq_true rfl⟩) hP hD hS hA hK 5 rfl rfl rfl [0, 1, 2, 3, 4] rfl rfl rfl rfl rfl rfl rfl rfl rfl hl.1 (Nat.le_of_ble_eq_true rfl) dX5_cast_7 ⟨Nat.zero_le _, Nat.zero_le _⟩ (fun H locs hP hD hS => ?_)
  refine lv_iload_n hx hb dX5_cast_10 rfl (lv_at hl 3 rfl) ?_
  refine lv_iconst (v := 0) hx hb dX5_cast_11 (by decide) ?_
  refine lv_iconst (v := 4) hx hb dX5_cast_12 (by decide) ?_
  obtain ⟨x3, ex3, h⟩ := o_b h
  refine bcall_vS (As := [.int p3, .int (0 : Int32), .int (4 : Int32)]) (rest := []) (c0 := []) (c1 := []) (bs2 := [[((a 0), .inr (5, [.ref (a 1), .ref (a 11), .ref (a 21), .ref (a 63)]))], wG cI (a 1) (a 2) (a 3) (a 4) (a 5) (a 6) (a 7) (a 8) (a 9) (a 10) g_ft g_er g_eb g_li g_st g_rd g_tu g_la g_dl g_sh g_tb, wG cI (a 11) (a 12) (a 13) (a 14) (a 15) (a 16) (a 17) (a 18) (a 19) (a 20) z_ft z_er z_eb z_li z_st z_rd z_tu z_la z_dl z_sh z_tb, wH cI cG (fun i => a (21 + i)) yc yp yg, wS cI (a 63) (a 64) (a 65) (a 66) (a 67) tx cm]) ⟨hx, hb, hml, hown, hts⟩ (cX5_requireWithin_ok l G cI cG p3 (0 : Int32) (4 : Int32) x3 ex3) (va_cwS 3 hts gX5_cast_X5_requireWithin_65 rfl rfl rfl hdX5_requireWithin ⟨Nat.le_of_ble_eq_true rfl, Nat.le_of_ble_eq_true rfl⟩) hP hD hS hA hK [] rfl rfl rfl rfl rfl rfl rfl rfl rfl hl.1 (Nat.le_of_ble_eq_true rfl) dX5_cast_13 ⟨Nat.zero_le _, Nat.zero_le _⟩ (fun H locs hP hD hS => ?_)
  refine lv_iload hx hb dX5_cast_16 (lv_at hl 4 rfl) ?_
  refine lv_iconst (v := 1) hx hb dX5_cast_18 (by decide) ?_
  refine lv_bipush (v := 20) hx hb dX5_cast_19 (by decide) ?_
  obtain ⟨x4, ex4, h⟩ := o_b h
  refine bcall_vS (As := [.int p4, .int (1 : Int32), .int (20 : Int32)]) (rest := []) (c0 := []) (c1 := []) (bs2 := [[((a 0), .inr (5, [.ref (a 1), .ref (a 11), .ref (a 21), .ref (a 63)]))], wG cI (a 1) (a 2) (a 3) (a 4) (a 5) (a 6) (a 7) (a 8) (a 9) (a 10) g_ft g_er g_eb g_li g_st g_rd g_tu g_la g_dl g_sh g_tb, wG cI (a 11) (a 12) (a 13) (a 14) (a 15) (a 16) (a 17) (a 18) (a 19) (a 20) z_ft z_er z_eb z_li z_st z_rd z_tu z_la z_dl z_sh z_tb, wH cI cG (fun i => a (21 + i)) yc yp yg, wS cI (a 63) (a 64) (a 65) (a 66) (a 67) tx cm]) ⟨hx, hb, hml, hown, hts⟩ (cX5_requireWithin_ok l G cI cG p4 (1 : Int32) (20 : Int32) x4 ex4) (va_cwS 3 hts gX5_cast_X5_requireWithin_65 rfl rfl rfl hdX5_requireWithin ⟨Nat.le_of_ble_eq_true rfl, Nat.le_of_ble_eq_true rfl⟩) hP hD hS hA hK [] rfl rfl rfl rfl rfl rfl rfl rfl rfl hl.1 (Nat.le_of_ble_eq_true rfl) dX5_cast_21 ⟨Nat.zero_le _, Nat.zero_le _⟩ (fun H locs hP hD hS => ?_)
  refine lv_iload hx hb dX5_cast_24 (lv_at hl 5 rfl) ?_
  refine lv_iconst (v := 1) hx hb dX5_cast_26 (by decide) ?_
  refine lv_bipush (v := 20) hx hb dX5_cast_27 (by decide) ?_
  obtain ⟨x5, ex5, h⟩ := o_b h
  refine bcall_vS (As := [.int p5, .int (1 : Int32), .int (20 : Int32)]) (rest := []) (c0 := []) (c1 := []) (bs2 := [[((a 0), .inr (5, [.ref (a 1), .ref (a 11), .ref (a 21), .ref (a 63)]))], wG cI (a 1) (a 2) (a 3) (a 4) (a 5) (a 6) (a 7) (a 8) (a 9) (a 10) g_ft g_er g_eb g_li g_st g_rd g_tu g_la g_dl g_sh g_tb, wG cI (a 11) (a 12) (a 13) (a 14) (a 15) (a 16) (a 17) (a 18) (a 19) (a 20) z_ft z_er z_eb z_li z_st z_rd z_tu z_la z_dl z_sh z_tb, wH cI cG (fun i => a (21 + i)) yc yp yg, wS cI (a 63) (a 64) (a 65) (a 66) (a 67) tx cm]) ⟨hx, hb, hml, hown, hts⟩ (cX5_requireWithin_ok l G cI cG p5 (1 : Int32) (20 : Int32) x5 ex5) (va_cwS 3 hts gX5_cast_X5_requireWithin_65 rfl rfl rfl hdX5_requireWithin ⟨Nat.le_of_ble_eq_true rfl, Nat.le_of_ble_eq_true rfl⟩) hP hD hS hA hK [] rfl rfl rfl rfl rfl rfl rfl rfl rfl hl.1 (Nat.le_of_ble_eq_true rfl) dX5_cast_29 ⟨Nat.zero_le _, Nat.zero_le _⟩ (fun H locs hP hD hS => ?_)
  refine lv_iload hx hb dX5_cast_32 (lv_at hl 6 rfl) ?_
  refine lv_iconst (v := 0) hx hb dX5_cast_34 (by decide) ?_
  refine lv_iconst (v := 3) hx hb dX5_cast_35 (by decide) ?_
  obtain ⟨x6, ex6, h⟩ := o_b h
  refine bcall_vS (As := [.int p6, .int (0 : Int32), .int (3 : Int32)]) (rest := []) (c0 := []) (c1 := []) (bs2 := [[((a 0), .inr (5, [.ref (a 1), .ref (a 11), .ref (a 21), .ref (a 63)]))], wG cI (a 1) (a 2) (a 3) (a 4) (a 5) (a 6) (a 7) (a 8) (a 9) (a 10) g_ft g_er g_eb g_li g_st g_rd g_tu g_la g_dl g_sh g_tb, wG cI (a 11) (a 12) (a 13) (a 14) (a 15) (a 16) (a 17) (a 18) (a 19) (a 20) z_ft z_er z_eb z_li z_st z_rd z_tu z_la z_dl z_sh z_tb, wH cI cG (fun i => a (21 + i)) yc yp yg, wS cI (a 63) (a 64) (a 65) (a 66) (a 67) tx cm]) ⟨hx, hb, hml, hown, hts⟩ (cX5_requireWithin_ok l G cI cG p6 (0 : Int32) (3 : Int32) x6 ex6) (va_cwS 3 hts gX5_cast_X5_requireWithin_65 rfl rfl rfl hdX5_requireWithin ⟨Nat.le_of_ble_eq_true rfl, Nat.le_of_ble_eq_true rfl⟩) hP hD hS hA hK [] rfl rfl rfl rfl rfl rfl rfl rfl rfl hl.1 (Nat.le_of_ble_eq_true rfl) dX5_cast_36 ⟨Nat.zero_le _, Nat.zero_le _⟩ (fun H locs hP hD hS => ?_)
  refine lv_aload_n hx hb dX5_cast_39 rfl (lv_at hl 0 rfl) ?_
  refine va_get (D := G) (ci := 5) (v := .ref (a 1)) (C := RX5) (T := TX5) (N := 4) hx hb hts huX5_cast_X5 hown hK.1 hP 0 rfl rfl 0 (by decide) hw0 (fun _ h9 => h9) rfl dX5_cast_40 ?_
  refine lv_iload_n hx hb dX5_cast_43 rfl (lv_at hl 1 rfl) ?_
  refine lv_iconst (v := 2) hx hb dX5_cast_44 (by decide) ?_
  obtain ⟨x7, ex7, h⟩ := o_b h
  refine bcall_iV (As := [.int p1, .int (2 : Int32)]) (rest := []) (c0 := [wG cI (a 1) (a 2) (a 3) (a 4) (a 5) (a 6) (a 7) (a 8) (a 9) (a 10) g_ft g_er g_eb g_li g_st g_rd g_tu g_la g_dl g_sh g_tb]) (c1 := [wG cI (a 1) (a 2) (a 3) (a 4) (a 5) (a 6) (a 7) (a 8) (a 9) (a 10) g_ft g_er g_eb g_li g_st g_rd g_tu g_la g_dl g_sh g_tb]) (bs2 := [[((a 0), .inr (5, [.ref (a 1), .ref (a 11), .ref (a 21), .ref (a 63)]))], wG cI (a 1) (a 2) (a 3) (a 4) (a 5) (a 6) (a 7) (a 8) (a 9) (a 10) g_ft g_er g_eb g_li g_st g_rd g_tu g_la g_dl g_sh g_tb, wG cI (a 11) (a 12) (a 13) (a 14) (a 15) (a 16) (a 17) (a 18) (a 19) (a 20) z_ft z_er z_eb z_li z_st z_rd z_tu z_la z_dl z_sh z_tb, wH cI cG (fun i => a (21 + i)) yc yp yg, wS cI (a 63) (a 64) (a 65) (a 66) (a 67) tx cm]) ⟨hx, hb, hml, hown, hts⟩ (cX1_mayAct_ok l G cI cG (a 1) (a 2) (a 3) (a 4) (a 5) (a 6) (a 7) (a 8) (a 9) (a 10) g_ft g_er g_eb g_li g_st g_rd g_tu g_la g_dl g_sh g_tb p1 (2 : Int32) x7 ex7) (cwV 2 hts gX5_cast_X1_mayAct_131 rfl rfl rfl hdX1_mayAct ⟨Nat.le_of_ble_eq_true rfl, Nat.le_of_ble_eq_true rfl⟩) hP hD hS hA hK 1 rfl rfl rfl [1] rfl rfl rfl rfl rfl rfl rfl rfl rfl hl.1 (Nat.le_of_ble_eq_true rfl) dX5_cast_45 ⟨Nat.zero_le _, Nat.zero_le _⟩ (fun H locs hP hD hS => ?_)
  obtain ⟨x8, ex8, h⟩ := o_b h
  refine bcall_vS (As := [.int (bI x7)]) (rest := []) (c0 := []) (c1 := []) (bs2 := [[((a 0), .inr (5, [.ref (a 1), .ref (a 11), .ref (a 21), .ref (a 63)]))], wG cI (a 1) (a 2) (a 3) (a 4) (a 5) (a 6) (a 7) (a 8) (a 9) (a 10) g_ft g_er g_eb g_li g_st g_rd g_tu g_la g_dl g_sh g_tb, wG cI (a 11) (a 12) (a 13) (a 14) (a 15) (a 16) (a 17) (a 18) (a 19) (a 20) z_ft z_er z_eb z_li z_st z_rd z_tu z_la z_dl z_sh z_tb, wH cI cG (fun i => a (21 + i)) yc yp yg, wS cI (a 63) (a 64) (a 65) (a 66) (a 67) tx cm]) ⟨hx, hb, hml, hown, hts⟩ (cX5_requirePossible_ok l G cI cG x7 x8 ex8) (va_cwS 1 hts gX5_cast_X5_requirePossible_103 rfl rfl rfl hdX5_requirePossible ⟨Nat.le_of_ble_eq_true rfl, Nat.le_of_ble_eq_true rfl⟩) hP hD hS hA hK [] rfl rfl rfl rfl rfl rfl rfl rfl rfl hl.1 (Nat.le_of_ble_eq_true rfl) dX5_cast_48 ⟨Nat.zero_le _, Nat.zero_le _⟩ (fun H locs hP hD hS => ?_)
  refine lv_aload_n hx hb dX5_cast_51 rfl (lv_at hl 0 rfl) ?_
  refine va_get (D := G) (ci := 5) (v := .ref (a 21)) (C := RX5) (T := TX5) (N := 4) hx hb hts huX5_cast_X5 hown hK.1 hP 0 rfl rfl 2 (by decide) hw1 (fun _ h9 => h9) rfl dX5_cast_52 ?_
  refine lv_aload_n hx hb dX5_cast_55 rfl (lv_at hl 0 rfl) ?_
  refine va_get (D := G) (ci := 5) (v := .ref (a 1)) (C := RX5) (T := TX5) (N := 4) hx hb hts huX5_cast_X5 hown hK.1 hP 0 rfl rfl 0 (by decide) hw0 (fun _ h9 => h9) rfl dX5_cast_56 ?_
  obtain ⟨x9, ex9, h⟩ := o_b h
  refine bcall_vV (As := [.ref (a 1)]) (rest := []) (c0 := [wH cI cG (fun i => a (21 + i)) yc yp yg, wG cI (a 1) (a 2) (a 3) (a 4) (a 5) (a 6) (a 7) (a 8) (a 9) (a 10) g_ft g_er g_eb g_li g_st g_rd g_tu g_la g_dl g_sh g_tb]) (c1 := [wH cI cG (fun i => a (21 + i)) x9.1 x9.2.1 x9.2.2, wG cI (a 1) (a 2) (a 3) (a 4) (a 5) (a 6) (a 7) (a 8) (a 9) (a 10) g_ft g_er g_eb g_li g_st g_rd g_tu g_la g_dl g_sh g_tb]) (bs2 := [[((a 0), .inr (5, [.ref (a 1), .ref (a 11), .ref (a 21), .ref (a 63)]))], wG cI (a 1) (a 2) (a 3) (a 4) (a 5) (a 6) (a 7) (a 8) (a 9) (a 10) g_ft g_er g_eb g_li g_st g_rd g_tu g_la g_dl g_sh g_tb, wG cI (a 11) (a 12) (a 13) (a 14) (a 15) (a 16) (a 17) (a 18) (a 19) (a 20) z_ft z_er z_eb z_li z_st z_rd z_tu z_la z_dl z_sh z_tb, wH cI cG (fun i => a (21 + i)) x9.1 x9.2.1 x9.2.2, wS cI (a 63) (a 64) (a 65) (a 66) (a 67) tx cm]) ⟨hx, hb, hml, hown, hts⟩ (cX2_save_ok l G cI cG (fun i => a (21 + i)) (a 1) (a 2) (a 3) (a 4) (a 5) (a 6) (a 7) (a 8) (a 9) (a 10) fu yc yp yg g_ft g_er g_eb g_li g_st g_rd g_tu g_la g_dl g_sh g_tb x9 ex9) (cwV 1 hts gX5_cast_X2_save_53 rfl rfl rfl hdX2_save ⟨Nat.le_of_ble_eq_true rfl, Nat.le_of_ble_eq_true rfl⟩) hP hD hS hA hK 2 rfl rfl rfl [3, 1] rfl rfl rfl rfl rfl rfl rfl rfl rfl hl.1 (Nat.le_of_ble_eq_true rfl) dX5_cast_59 ⟨Nat.zero_le _, Nat.zero_le _⟩ (fun H locs hP hD hS => ?_)
  refine lv_aload_n hx hb dX5_cast_62 rfl (lv_at hl 0 rfl) ?_
  refine va_get (D := G) (ci := 5) (v := .ref (a 1)) (C := RX5) (T := TX5) (N := 4) hx hb hts huX5_cast_X5 hown hK.1 hP 0 rfl rfl 0 (by decide) hw0 (fun _ h9 => h9) rfl dX5_cast_63 ?_
  refine lv_iconst (v := 2) hx hb dX5_cast_66 (by decide) ?_
  refine lv_iload_n hx hb dX5_cast_67 rfl (lv_at hl 1 rfl) ?_
  refine lv_iload_n hx hb dX5_cast_68 rfl (lv_at hl 2 rfl) ?_
  refine lv_iload hx hb dX5_cast_69 (lv_at hl 4 rfl) ?_
  refine lv_iload_n hx hb dX5_cast_71 rfl (lv_at hl 3 rfl) ?_
  refine lv_iload hx hb dX5_cast_72 (lv_at hl 5 rfl) ?_
  refine lv_iload hx hb dX5_cast_74 (lv_at hl 6 rfl) ?_
  obtain ⟨x10, ex10, h⟩ := o_b h
  refine bcall_iV (As := [.int (2 : Int32), .int p1, .int p2, .int p4, .int p3, .int p5, .int p6]) (rest := []) (c0 := [wG cI (a 1) (a 2) (a 3) (a 4) (a 5) (a 6) (a 7) (a 8) (a 9) (a 10) g_ft g_er g_eb g_li g_st g_rd g_tu g_la g_dl g_sh g_tb]) (c1 := [wG cI (a 1) (a 2) (a 3) (a 4) (a 5) (a 6) (a 7) (a 8) (a 9) (a 10) x10.2.1 g_er g_eb g_li x10.2.2.1 g_rd g_tu g_la x10.2.2.2 g_sh g_tb]) (bs2 := [[((a 0), .inr (5, [.ref (a 1), .ref (a 11), .ref (a 21), .ref (a 63)]))], wG cI (a 1) (a 2) (a 3) (a 4) (a 5) (a 6) (a 7) (a 8) (a 9) (a 10) x10.2.1 g_er g_eb g_li x10.2.2.1 g_rd g_tu g_la x10.2.2.2 g_sh g_tb, wG cI (a 11) (a 12) (a 13) (a 14) (a 15) (a 16) (a 17) (a 18) (a 19) (a 20) z_ft z_er z_eb z_li z_st z_rd z_tu z_la z_dl z_sh z_tb, wH cI cG (fun i => a (21 + i)) x9.1 x9.2.1 x9.2.2, wS cI (a 63) (a 64) (a 65) (a 66) (a 67) tx cm]) ⟨hx, hb, hml, hown, hts⟩ (cX1_beginAct_ok l G cI cG (a 1) (a 2) (a 3) (a 4) (a 5) (a 6) (a 7) (a 8) (a 9) (a 10) fu g_ft g_er g_eb g_li g_st g_rd g_tu g_la g_dl g_sh g_tb (2 : Int32) p1 p2 p4 p3 p5 p6 x10 ex10) (cwV 7 hts gX5_cast_X1_beginAct_135 rfl rfl rfl hdX1_beginAct ⟨Nat.le_of_ble_eq_true rfl, Nat.le_of_ble_eq_true rfl⟩) hP hD hS hA hK 1 rfl rfl rfl [1] rfl rfl rfl rfl rfl rfl rfl rfl rfl hl.1 (Nat.le_of_ble_eq_true rfl) dX5_cast_76 ⟨Nat.zero_le _, Nat.zero_le _⟩ (fun H locs hP hD hS => ?_)
  obtain rfl := o_s h
  rw [hQ]
  exact end_i hx hb hr rfl hP hD hS dX5_cast_79 hlocks
theorem hdX5_settle : yX5_settle.cls = RX5 ∧ yX5_settle.cls ≠ "java/lang/invoke/MethodHandle" ∧ yX5_settle.cls ≠ "java/lang/invoke/VarHandle" ∧ (parseMethodDescriptor yX5_settle.desc).map (fun d => d.parameters.length) = some 0 := by decide +kernel
set_option maxHeartbeats 4000000 in
set_option maxRecDepth 100000 in
theorem cX5_settle_ok (l : Launch) (G : va_G) (cI cG : ClassId) (a : Nat → Nat) (fu : Nat) (g_ft : Tab) (g_er : Tab) (g_eb : Int32) (g_li : Tab) (g_st : Tab) (g_rd : Int32) (g_tu : Int32) (g_la : Int32) (g_dl : Bool) (g_sh : Int32) (g_tb : Int32) (z_ft : Tab) (z_er : Tab) (z_eb : Int32) (z_li : Tab) (z_st : Tab) (z_rd : Int32) (z_tu : Int32) (z_la : Int32) (z_dl : Bool) (z_sh : Int32) (z_tb : Int32) (yc : Int32) (yp : (Nat → Nat)) (yg : (Nat → GV)) (tx : Tab) (cm : Tab) (out : Int32 × Tab × Tab × Int32 × Tab × Int32 × Int32 × (Nat → Nat) × (Nat → GV)) (hf : fX5_settle fu g_ft g_er g_eb g_li g_st g_rd g_tu g_la g_dl g_sh g_tb yc yp yg = some out) : CI l G (tyz cI cG) yX5_settle wsX5_settle ({ frames := 6, cells := 0, slots := 0, locals := 181 } : Room) [.ref (a 0)] (([[((a 0), .inr (5, [.ref (a 1), .ref (a 11), .ref (a 21), .ref (a 63)]))], wG cI (a 1) (a 2) (a 3) (a 4) (a 5) (a 6) (a 7) (a 8) (a 9) (a 10) g_ft g_er g_eb g_li g_st g_rd g_tu g_la g_dl g_sh g_tb, wG cI (a 11) (a 12) (a 13) (a 14) (a 15) (a 16) (a 17) (a 18) (a 19) (a 20) z_ft z_er z_eb z_li z_st z_rd z_tu z_la z_dl z_sh z_tb, wH cI cG (fun i => a (21 + i)) yc yp yg, wS cI (a 63) (a 64) (a 65) (a 66) (a 67) tx cm] : List va_W).flatten) out.1 (([[((a 0), .inr (5, [.ref (a 1), .ref (a 11), .ref (a 21), .ref (a 63)]))], wG cI (a 1) (a 2) (a 3) (a 4) (a 5) (a 6) (a 7) (a 8) (a 9) (a 10) out.2.1 out.2.2.1 out.2.2.2.1 g_li out.2.2.2.2.1 g_rd out.2.2.2.2.2.1 g_la g_dl g_sh g_tb, wG cI (a 11) (a 12) (a 13) (a 14) (a 15) (a 16) (a 17) (a 18) (a 19) (a 20) z_ft z_er z_eb z_li z_st z_rd z_tu z_la z_dl z_sh z_tb, wH cI cG (fun i => a (21 + i)) out.2.2.2.2.2.2.1 out.2.2.2.2.2.2.2.1 out.2.2.2.2.2.2.2.2, wS cI (a 63) (a 64) (a 65) (a 66) (a 67) tx cm] : List va_W).flatten) := by
  intro sz
  refine Met.ofW (cc := cX5_settle) (maxL := 1) (ret := (some .int)) (by decide) rfl ?_
  intro p e s m args below meth c s₁ B hml hv
  obtain ⟨rfl, hsz, hP, hK, hD0⟩ := hv
  have hx := B.exec
  have hb := B.bytes
  have hr := B.returns
  have hts := atoms_spec (ws := wsX5_settle) B.pre
  have hown : s.vm.findClass RX5 = some m.cls := findClass_of_methodNamed B.named
  have hlocks := B.notSynchronized
  subst hsz
  have hD := hD0.self (sz := s.heap.size)
  generalize hAe : va_A (([[((a 0), .inr (5, [.ref (a 1), .ref (a 11), .ref (a 21), .ref (a 63)]))], wG cI (a 1) (a 2) (a 3) (a 4) (a 5) (a 6) (a 7) (a 8) (a 9) (a 10) g_ft g_er g_eb g_li g_st g_rd g_tu g_la g_dl g_sh g_tb, wG cI (a 11) (a 12) (a 13) (a 14) (a 15) (a 16) (a 17) (a 18) (a 19) (a 20) z_ft z_er z_eb z_li z_st z_rd z_tu z_la z_dl z_sh z_tb, wH cI cG (fun i => a (21 + i)) yc yp yg, wS cI (a 63) (a 64) (a 65) (a 66) (a 67) tx cm] : List va_W).flatten) s.heap.size = A at hD ⊢
  have hA : ∀ q : Nat, s.heap.size ≤ q → A q := fun q h => by rw [← hAe]; exact Or.inr h
  have hS : va_S A s.heap s.heap [] := va_S.rf
  have hw0 := hts (.fieldLink RX5 10 "SpeedTurns" "game" "LSpeedTurns$Game;") (List.mem_of_getElem? (i := 1) rfl)
  have hw1 := hts (.fieldLink RX5 22 "SpeedTurns" "history" "LSpeedTurns$History;") (List.mem_of_getElem? (i := 9) rfl)
  show W p l e ({ frames := 6, cells := 0, slots := 0, locals := 181 } : Room) s m _ below meth c s.heap [] 0 0 _ _
  refine W_genQ (fun Q hQ => ?_)
  have h := hf
  rw [fX5_settle] at h
  have hl := lv_entry ([.ref (a 0)]) (n := 1) (Nat.le_of_ble_eq_true rfl)
  rw [lg_entry_eq]
  generalize (lg_sl ([.ref (a 0)]) ++ List.replicate (1 - (lg_sl ([.ref (a 0)])).length) Slot.unset).toArray = ls at hl ⊢
  have hl : lv_has ls 1 [(0, .ref (a 0))] := hl
  refine lv_aload_n hx hb dX5_settle_0 rfl (lv_at hl 0 rfl) ?_
  refine va_get (D := G) (ci := 5) (v := .ref (a 1)) (C := RX5) (T := TX5) (N := 4) hx hb hts huX5_settle_X5 hown hK.1 hP 0 rfl rfl 0 (by decide) hw0 (fun _ h9 => h9) rfl dX5_settle_1 ?_
  obtain ⟨x1, ex1, h⟩ := o_b h
  refine bcall_iV (As := []) (rest := []) (c0 := [wG cI (a 1) (a 2) (a 3) (a 4) (a 5) (a 6) (a 7) (a 8) (a 9) (a 10) g_ft g_er g_eb g_li g_st g_rd g_tu g_la g_dl g_sh g_tb]) (c1 := [wG cI (a 1) (a 2) (a 3) (a 4) (a 5) (a 6) (a 7) (a 8) (a 9) (a 10) g_ft g_er g_eb g_li g_st g_rd g_tu g_la g_dl g_sh g_tb]) (bs2 := [[((a 0), .inr (5, [.ref (a 1), .ref (a 11), .ref (a 21), .ref (a 63)]))], wG cI (a 1) (a 2) (a 3) (a 4) (a 5) (a 6) (a 7) (a 8) (a 9) (a 10) g_ft g_er g_eb g_li g_st g_rd g_tu g_la g_dl g_sh g_tb, wG cI (a 11) (a 12) (a 13) (a 14) (a 15) (a 16) (a 17) (a 18) (a 19) (a 20) z_ft z_er z_eb z_li z_st z_rd z_tu z_la z_dl z_sh z_tb, wH cI cG (fun i => a (21 + i)) yc yp yg, wS cI (a 63) (a 64) (a 65) (a 66) (a 67) tx cm]) ⟨hx, hb, hml, hown, hts⟩ (cX1_maySettle_ok l G cI cG (a 1) (a 2) (a 3) (a 4) (a 5) (a 6) (a 7) (a 8) (a 9) (a 10) g_ft g_er g_eb g_li g_st g_rd g_tu g_la g_dl g_sh g_tb x1 ex1) (cwV 0 hts gX5_settle_X1_maySettle_139 rfl rfl rfl hdX1_maySettle ⟨Nat.le_of_ble_eq_true rfl, Nat.le_of_ble_eq_true rfl⟩) hP hD hS hA hK 1 rfl rfl rfl [1] rfl rfl rfl rfl rfl rfl rfl rfl rfl hl.1 (Nat.le_of_ble_eq_true rfl) dX5_settle_4 ⟨Nat.zero_le _, Nat.zero_le _⟩ (fun H locs hP hD hS => ?_)
  obtain ⟨x2, ex2, h⟩ := o_b h
  refine bcall_vS (As := [.int (bI x1)]) (rest := []) (c0 := []) (c1 := []) (bs2 := [[((a 0), .inr (5, [.ref (a 1), .ref (a 11), .ref (a 21), .ref (a 63)]))], wG cI (a 1) (a 2) (a 3) (a 4) (a 5) (a 6) (a 7) (a 8) (a 9) (a 10) g_ft g_er g_eb g_li g_st g_rd g_tu g_la g_dl g_sh g_tb, wG cI (a 11) (a 12) (a 13) (a 14) (a 15) (a 16) (a 17) (a 18) (a 19) (a 20) z_ft z_er z_eb z_li z_st z_rd z_tu z_la z_dl z_sh z_tb, wH cI cG (fun i => a (21 + i)) yc yp yg, wS cI (a 63) (a 64) (a 65) (a 66) (a 67) tx cm]) ⟨hx, hb, hml, hown, hts⟩ (cX5_requirePossible_ok l G cI cG x1 x2 ex2) (va_cwS 1 hts gX5_settle_X5_requirePossible_103 rfl rfl rfl hdX5_requirePossible ⟨Nat.le_of_ble_eq_true rfl, Nat.le_of_ble_eq_true rfl⟩) hP hD hS hA hK [] rfl rfl rfl rfl rfl rfl rfl rfl rfl hl.1 (Nat.le_of_ble_eq_true rfl) dX5_settle_7 ⟨Nat.zero_le _, Nat.zero_le _⟩ (fun H locs hP hD hS => ?_)
  refine lv_aload_n hx hb dX5_settle_10 rfl (lv_at hl 0 rfl) ?_
  refine va_get (D := G) (ci := 5) (v := .ref (a 21)) (C := RX5) (T := TX5) (N := 4) hx hb hts huX5_settle_X5 hown hK.1 hP 0 rfl rfl 2 (by decide) hw1 (fun _ h9 => h9) rfl dX5_settle_11 ?_
  refine lv_aload_n hx hb dX5_settle_14 rfl (lv_at hl 0 rfl) ?_
  refine va_get (D := G) (ci := 5) (v := .ref (a 1)) (C := RX5) (T := TX5) (N := 4) hx hb hts huX5_settle_X5 hown hK.1 hP 0 rfl rfl 0 (by decide) hw0 (fun _ h9 => h9) rfl dX5_settle_15 ?_
  obtain ⟨x3, ex3, h⟩ := o_b h
  refine bcall_vV (As := [.ref (a 1)]) (rest := []) (c0 := [wH cI cG (fun i => a (21 + i)) yc yp yg, wG cI (a 1) (a 2) (a 3) (a 4) (a 5) (a 6) (a 7) (a 8) (a 9) (a 10) g_ft g_er g_eb g_li g_st g_rd g_tu g_la g_dl g_sh g_tb]) (c1 := [wH cI cG (fun i => a (21 + i)) x3.1 x3.2.1 x3.2.2, wG cI (a 1) (a 2) (a 3) (a 4) (a 5) (a 6) (a 7) (a 8) (a 9) (a 10) g_ft g_er g_eb g_li g_st g_rd g_tu g_la g_dl g_sh g_tb]) (bs2 := [[((a 0), .inr (5, [.ref (a 1), .ref (a 11), .ref (a 21), .ref (a 63)]))], wG cI (a 1) (a 2) (a 3) (a 4) (a 5) (a 6) (a 7) (a 8) (a 9) (a 10) g_ft g_er g_eb g_li g_st g_rd g_tu g_la g_dl g_sh g_tb, wG cI (a 11) (a 12) (a 13) (a 14) (a 15) (a 16) (a 17) (a 18) (a 19) (a 20) z_ft z_er z_eb z_li z_st z_rd z_tu z_la z_dl z_sh z_tb, wH cI cG (fun i => a (21 + i)) x3.1 x3.2.1 x3.2.2, wS cI (a 63) (a 64) (a 65) (a 66) (a 67) tx cm]) ⟨hx, hb, hml, hown, hts⟩ (cX2_save_ok l G cI cG (fun i => a (21 + i)) (a 1) (a 2) (a 3) (a 4) (a 5) (a 6) (a 7) (a 8) (a 9) (a 10) fu yc yp yg g_ft g_er g_eb g_li g_st g_rd g_tu g_la g_dl g_sh g_tb x3 ex3) (cwV 1 hts gX5_settle_X2_save_53 rfl rfl rfl hdX2_save ⟨Nat.le_of_ble_eq_true rfl, Nat.le_of_ble_eq_true rfl⟩) hP hD hS hA hK 2 rfl rfl rfl [3, 1] rfl rfl rfl rfl rfl rfl rfl rfl rfl hl.1 (Nat.le_of_ble_eq_true rfl) dX5_settle_18 ⟨Nat.zero_le _, Nat.zero_le _⟩ (fun H locs hP hD hS => ?_)
  refine lv_aload_n hx hb dX5_settle_21 rfl (lv_at hl 0 rfl) ?_
  refine va_get (D := G) (ci := 5) (v := .ref (a 1)) (C := RX5) (T := TX5) (N := 4) hx hb hts huX5_settle_X5 hown hK.1 hP 0 rfl rfl 0 (by decide) hw0 (fun _ h9 => h9) rfl dX5_settle_22 ?_
  obtain ⟨x4, ex4, h⟩ := o_b h
  refine bcall_iV (As := []) (rest := []) (c0 := [wG cI (a 1) (a 2) (a 3) (a 4) (a 5) (a 6) (a 7) (a 8) (a 9) (a 10) g_ft g_er g_eb g_li g_st g_rd g_tu g_la g_dl g_sh g_tb]) (c1 := [wG cI (a 1) (a 2) (a 3) (a 4) (a 5) (a 6) (a 7) (a 8) (a 9) (a 10) x4.2.1 x4.2.2.1 x4.2.2.2.1 g_li x4.2.2.2.2.1 g_rd x4.2.2.2.2.2 g_la g_dl g_sh g_tb]) (bs2 := [[((a 0), .inr (5, [.ref (a 1), .ref (a 11), .ref (a 21), .ref (a 63)]))], wG cI (a 1) (a 2) (a 3) (a 4) (a 5) (a 6) (a 7) (a 8) (a 9) (a 10) x4.2.1 x4.2.2.1 x4.2.2.2.1 g_li x4.2.2.2.2.1 g_rd x4.2.2.2.2.2 g_la g_dl g_sh g_tb, wG cI (a 11) (a 12) (a 13) (a 14) (a 15) (a 16) (a 17) (a 18) (a 19) (a 20) z_ft z_er z_eb z_li z_st z_rd z_tu z_la z_dl z_sh z_tb, wH cI cG (fun i => a (21 + i)) x3.1 x3.2.1 x3.2.2, wS cI (a 63) (a 64) (a 65) (a 66) (a 67) tx cm]) ⟨hx, hb, hml, hown, hts⟩ (cX1_settleStack_ok l G cI cG (a 1) (a 2) (a 3) (a 4) (a 5) (a 6) (a 7) (a 8) (a 9) (a 10) fu g_ft g_er g_eb g_li g_st g_rd g_tu g_la g_dl g_sh g_tb x4 ex4) (cwV 0 hts gX5_settle_X1_settleStack_142 rfl rfl rfl hdX1_settleStack ⟨Nat.le_of_ble_eq_true rfl, Nat.le_of_ble_eq_true rfl⟩) hP hD hS hA hK 1 rfl rfl rfl [1] rfl rfl rfl rfl rfl rfl rfl rfl rfl hl.1 (Nat.le_of_ble_eq_true rfl) dX5_settle_25 ⟨Nat.zero_le _, Nat.zero_le _⟩ (fun H locs hP hD hS => ?_)
  obtain rfl := o_s h
  rw [hQ]
  exact end_i hx hb hr rfl hP hD hS dX5_settle_28 hlocks
theorem hdX5_stacked : yX5_stacked.cls = RX5 ∧ yX5_stacked.cls ≠ "java/lang/invoke/MethodHandle" ∧ yX5_stacked.cls ≠ "java/lang/invoke/VarHandle" ∧ (parseMethodDescriptor yX5_stacked.desc).map (fun d => d.parameters.length) = some 2 := by decide +kernel
set_option maxHeartbeats 4000000 in
set_option maxRecDepth 100000 in
theorem cX5_stacked_ok (l : Launch) (G : va_G) (cI cG : ClassId) (a : Nat → Nat) (g_ft : Tab) (g_er : Tab) (g_eb : Int32) (g_li : Tab) (g_st : Tab) (g_rd : Int32) (g_tu : Int32) (g_la : Int32) (g_dl : Bool) (g_sh : Int32) (g_tb : Int32) (z_ft : Tab) (z_er : Tab) (z_eb : Int32) (z_li : Tab) (z_st : Tab) (z_rd : Int32) (z_tu : Int32) (z_la : Int32) (z_dl : Bool) (z_sh : Int32) (z_tb : Int32) (yc : Int32) (yp : (Nat → Nat)) (yg : (Nat → GV)) (tx : Tab) (cm : Tab) (p1 : Int32) (p2 : Int32) (out : Int32) (hf : fX5_stacked g_st p1 p2 = some out) : CI l G (tyz cI cG) yX5_stacked wsX5_stacked ({ frames := 2, cells := 0, slots := 0, locals := 45 } : Room) [.ref (a 0), .int p1, .int p2] (([[((a 0), .inr (5, [.ref (a 1), .ref (a 11), .ref (a 21), .ref (a 63)]))], wG cI (a 1) (a 2) (a 3) (a 4) (a 5) (a 6) (a 7) (a 8) (a 9) (a 10) g_ft g_er g_eb g_li g_st g_rd g_tu g_la g_dl g_sh g_tb, wG cI (a 11) (a 12) (a 13) (a 14) (a 15) (a 16) (a 17) (a 18) (a 19) (a 20) z_ft z_er z_eb z_li z_st z_rd z_tu z_la z_dl z_sh z_tb, wH cI cG (fun i => a (21 + i)) yc yp yg, wS cI (a 63) (a 64) (a 65) (a 66) (a 67) tx cm] : List va_W).flatten) out (([[((a 0), .inr (5, [.ref (a 1), .ref (a 11), .ref (a 21), .ref (a 63)]))], wG cI (a 1) (a 2) (a 3) (a 4) (a 5) (a 6) (a 7) (a 8) (a 9) (a 10) g_ft g_er g_eb g_li g_st g_rd g_tu g_la g_dl g_sh g_tb, wG cI (a 11) (a 12) (a 13) (a 14) (a 15) (a 16) (a 17) (a 18) (a 19) (a 20) z_ft z_er z_eb z_li z_st z_rd z_tu z_la z_dl z_sh z_tb, wH cI cG (fun i => a (21 + i)) yc yp yg, wS cI (a 63) (a 64) (a 65) (a 66) (a 67) tx cm] : List va_W).flatten) := by
  intro sz
  refine Met.ofW (cc := cX5_stacked) (maxL := 3) (ret := (some .int)) (by decide) rfl ?_
  intro p e s m args below meth c s₁ B hml hv
  obtain ⟨rfl, hsz, hP, hK, hD0⟩ := hv
  have hx := B.exec
  have hb := B.bytes
  have hr := B.returns
  have hts := atoms_spec (ws := wsX5_stacked) B.pre
  have hown : s.vm.findClass RX5 = some m.cls := findClass_of_methodNamed B.named
  have hlocks := B.notSynchronized
  subst hsz
  have hD := hD0.self (sz := s.heap.size)
  generalize hAe : va_A (([[((a 0), .inr (5, [.ref (a 1), .ref (a 11), .ref (a 21), .ref (a 63)]))], wG cI (a 1) (a 2) (a 3) (a 4) (a 5) (a 6) (a 7) (a 8) (a 9) (a 10) g_ft g_er g_eb g_li g_st g_rd g_tu g_la g_dl g_sh g_tb, wG cI (a 11) (a 12) (a 13) (a 14) (a 15) (a 16) (a 17) (a 18) (a 19) (a 20) z_ft z_er z_eb z_li z_st z_rd z_tu z_la z_dl z_sh z_tb, wH cI cG (fun i => a (21 + i)) yc yp yg, wS cI (a 63) (a 64) (a 65) (a 66) (a 67) tx cm] : List va_W).flatten) s.heap.size = A at hD ⊢
  have hA : ∀ q : Nat, s.heap.size ≤ q → A q := fun q h => by rw [← hAe]; exact Or.inr h
  have hS : va_S A s.heap s.heap [] := va_S.rf
  have hw0 := hts (.fieldLink RX5 10 "SpeedTurns" "game" "LSpeedTurns$Game;") (List.mem_of_getElem? (i := 1) rfl)
  show W p l e ({ frames := 2, cells := 0, slots := 0, locals := 45 } : Room) s m _ below meth c s.heap [] 0 0 _ _
  refine W_genQ (fun Q hQ => ?_)
  have h := hf
  rw [fX5_stacked] at h
  have hl := lv_entry ([.ref (a 0), .int p1, .int p2]) (n := 3) (Nat.le_of_ble_eq_true rfl)
  rw [lg_entry_eq]
  generalize (lg_sl ([.ref (a 0), .int p1, .int p2]) ++ List.replicate (3 - (lg_sl ([.ref (a 0), .int p1, .int p2])).length) Slot.unset).toArray = ls at hl ⊢
  have hl : lv_has ls 3 [(0, .ref (a 0)), (1, .int p1), (2, .int p2)] := hl
  refine lv_iload_n hx hb dX5_stacked_0 rfl (lv_at hl 1 rfl) ?_
  refine lv_iconst (v := 0) hx hb dX5_stacked_1 (by decide) ?_
  refine lv_aload_n hx hb dX5_stacked_2 rfl (lv_at hl 0 rfl) ?_
  refine va_get (D := G) (ci := 5) (v := .ref (a 1)) (C := RX5) (T := TX5) (N := 4) hx hb hts huX5_stacked_X5 hown hK.1 hP 0 rfl rfl 0 (by decide) hw0 (fun _ h9 => h9) rfl dX5_stacked_3 ?_
  obtain ⟨x1, ex1, h⟩ := o_b h
  refine bcall_iV (As := []) (rest := [.int (0 : Int32), .int p1]) (c0 := [wG cI (a 1) (a 2) (a 3) (a 4) (a 5) (a 6) (a 7) (a 8) (a 9) (a 10) g_ft g_er g_eb g_li g_st g_rd g_tu g_la g_dl g_sh g_tb]) (c1 := [wG cI (a 1) (a 2) (a 3) (a 4) (a 5) (a 6) (a 7) (a 8) (a 9) (a 10) g_ft g_er g_eb g_li g_st g_rd g_tu g_la g_dl g_sh g_tb]) (bs2 := [[((a 0), .inr (5, [.ref (a 1), .ref (a 11), .ref (a 21), .ref (a 63)]))], wG cI (a 1) (a 2) (a 3) (a 4) (a 5) (a 6) (a 7) (a 8) (a 9) (a 10) g_ft g_er g_eb g_li g_st g_rd g_tu g_la g_dl g_sh g_tb, wG cI (a 11) (a 12) (a 13) (a 14) (a 15) (a 16) (a 17) (a 18) (a 19) (a 20) z_ft z_er z_eb z_li z_st z_rd z_tu z_la z_dl z_sh z_tb, wH cI cG (fun i => a (21 + i)) yc yp yg, wS cI (a 63) (a 64) (a 65) (a 66) (a 67) tx cm]) ⟨hx, hb, hml, hown, hts⟩ (cX1_stackSize_ok l G cI cG (a 1) (a 2) (a 3) (a 4) (a 5) (a 6) (a 7) (a 8) (a 9) (a 10) g_ft g_er g_eb g_li g_st g_rd g_tu g_la g_dl g_sh g_tb x1 ex1) (cwV 0 hts gX5_stacked_X1_stackSize_145 rfl rfl rfl hdX1_stackSize ⟨Nat.le_of_ble_eq_true rfl, Nat.le_of_ble_eq_true rfl⟩) hP hD hS hA hK 1 rfl rfl rfl [1] rfl rfl rfl rfl rfl rfl rfl rfl rfl hl.1 (Nat.le_of_ble_eq_true rfl) dX5_stacked_6 ⟨Nat.zero_le _, Nat.zero_le _⟩ (fun H locs hP hD hS => ?_)
  refine lv_iconst (v := 1) hx hb dX5_stacked_9 (by decide) ?_
  refine lv_isub hx hb dX5_stacked_10 ?_
  obtain ⟨x2, ex2, h⟩ := o_b h
  refine bcall_iS (As := [.int p1, .int (0 : Int32), .int (x1 - (1 : Int32))]) (rest := []) (c0 := []) (c1 := []) (bs2 := [[((a 0), .inr (5, [.ref (a 1), .ref (a 11), .ref (a 21), .ref (a 63)]))], wG cI (a 1) (a 2) (a 3) (a 4) (a 5) (a 6) (a 7) (a 8) (a 9) (a 10) g_ft g_er g_eb g_li g_st g_rd g_tu g_la g_dl g_sh g_tb, wG cI (a 11) (a 12) (a 13) (a 14) (a 15) (a 16) (a 17) (a 18) (a 19) (a 20) z_ft z_er z_eb z_li z_st z_rd z_tu z_la z_dl z_sh z_tb, wH cI cG (fun i => a (21 + i)) yc yp yg, wS cI (a 63) (a 64) (a 65) (a 66) (a 67) tx cm]) ⟨hx, hb, hml, hown, hts⟩ (cX5_within_ok l G cI cG p1 (0 : Int32) (x1 - (1 : Int32)) x2 ex2) (va_cwS 3 hts gX5_stacked_X5_within_33 rfl rfl rfl hdX5_within ⟨Nat.le_of_ble_eq_true rfl, Nat.le_of_ble_eq_true rfl⟩) hP hD hS hA hK [] rfl rfl rfl rfl rfl rfl rfl rfl rfl hl.1 (Nat.le_of_ble_eq_true rfl) dX5_stacked_11 ⟨Nat.zero_le _, Nat.zero_le _⟩ (fun H locs hP hD hS => ?_)
  refine lv_if_ne (tgt := 27) hx hb dX5_stacked_14 (by decide) (fun hc => ?_) (fun hc => ?_)
  · have h := o_f h hc
    refine lv_iload_n hx hb dX5_stacked_27 rfl (lv_at hl 2 rfl) ?_
    refine lv_iconst (v := 0) hx hb dX5_stacked_28 (by decide) ?_
    refine lv_iconst (v := 3) hx hb dX5_stacked_29 (by decide) ?_
    obtain ⟨x3, ex3, h⟩ := o_b h
    refine bcall_vS (As := [.int p2, .int (0 : Int32), .int (3 : Int32)]) (rest := []) (c0 := []) (c1 := []) (bs2 := [[((a 0), .inr (5, [.ref (a 1), .ref (a 11), .ref (a 21), .ref (a 63)]))], wG cI (a 1) (a 2) (a 3) (a 4) (a 5) (a 6) (a 7) (a 8) (a 9) (a 10) g_ft g_er g_eb g_li g_st g_rd g_tu g_la g_dl g_sh g_tb, wG cI (a 11) (a 12) (a 13) (a 14) (a 15) (a 16) (a 17) (a 18) (a 19) (a 20) z_ft z_er z_eb z_li z_st z_rd z_tu z_la z_dl z_sh z_tb, wH cI cG (fun i => a (21 + i)) yc yp yg, wS cI (a 63) (a 64) (a 65) (a 66) (a 67) tx cm]) ⟨hx, hb, hml, hown, hts⟩ (cX5_requireWithin_ok l G cI cG p2 (0 : Int32) (3 : Int32) x3 ex3) (va_cwS 3 hts gX5_stacked_X5_requireWithin_65 rfl rfl rfl hdX5_requireWithin ⟨Nat.le_of_ble_eq_true rfl, Nat.le_of_ble_eq_true rfl⟩) hP hD hS hA hK [] rfl rfl rfl rfl rfl rfl rfl rfl rfl hl.1 (Nat.le_of_ble_eq_true rfl) dX5_stacked_30 ⟨Nat.zero_le _, Nat.zero_le _⟩ (fun H locs hP hD hS => ?_)
    refine lv_aload_n hx hb dX5_stacked_33 rfl (lv_at hl 0 rfl) ?_
    refine va_get (D := G) (ci := 5) (v := .ref (a 1)) (C := RX5) (T := TX5) (N := 4) hx hb hts huX5_stacked_X5 hown hK.1 hP 0 rfl rfl 0 (by decide) hw0 (fun _ h9 => h9) rfl dX5_stacked_34 ?_
    refine lv_iload_n hx hb dX5_stacked_37 rfl (lv_at hl 1 rfl) ?_
    refine lv_iload_n hx hb dX5_stacked_38 rfl (lv_at hl 2 rfl) ?_
    obtain ⟨x4, ex4, h⟩ := o_b h
    refine bcall_iV (As := [.int p1, .int p2]) (rest := []) (c0 := [wG cI (a 1) (a 2) (a 3) (a 4) (a 5) (a 6) (a 7) (a 8) (a 9) (a 10) g_ft g_er g_eb g_li g_st g_rd g_tu g_la g_dl g_sh g_tb]) (c1 := [wG cI (a 1) (a 2) (a 3) (a 4) (a 5) (a 6) (a 7) (a 8) (a 9) (a 10) g_ft g_er g_eb g_li g_st g_rd g_tu g_la g_dl g_sh g_tb]) (bs2 := [[((a 0), .inr (5, [.ref (a 1), .ref (a 11), .ref (a 21), .ref (a 63)]))], wG cI (a 1) (a 2) (a 3) (a 4) (a 5) (a 6) (a 7) (a 8) (a 9) (a 10) g_ft g_er g_eb g_li g_st g_rd g_tu g_la g_dl g_sh g_tb, wG cI (a 11) (a 12) (a 13) (a 14) (a 15) (a 16) (a 17) (a 18) (a 19) (a 20) z_ft z_er z_eb z_li z_st z_rd z_tu z_la z_dl z_sh z_tb, wH cI cG (fun i => a (21 + i)) yc yp yg, wS cI (a 63) (a 64) (a 65) (a 66) (a 67) tx cm]) ⟨hx, hb, hml, hown, hts⟩ (cX1_aboutAct_ok l G cI cG (a 1) (a 2) (a 3) (a 4) (a 5) (a 6) (a 7) (a 8) (a 9) (a 10) g_ft g_er g_eb g_li g_st g_rd g_tu g_la g_dl g_sh g_tb p1 p2 x4 ex4) (cwV 2 hts gX5_stacked_X1_aboutAct_150 rfl rfl rfl hdX1_aboutAct ⟨Nat.le_of_ble_eq_true rfl, Nat.le_of_ble_eq_true rfl⟩) hP hD hS hA hK 1 rfl rfl rfl [1] rfl rfl rfl rfl rfl rfl rfl rfl rfl hl.1 (Nat.le_of_ble_eq_true rfl) dX5_stacked_39 ⟨Nat.zero_le _, Nat.zero_le _⟩ (fun H locs hP hD hS => ?_)
    obtain rfl := o_s h
    rw [hQ]
    exact end_i hx hb hr rfl hP hD hS dX5_stacked_42 hlocks
  · have h := o_t h hc
    exact o_n h
theorem hdX5_mayAnswer : yX5_mayAnswer.cls = RX5 ∧ yX5_mayAnswer.cls ≠ "java/lang/invoke/MethodHandle" ∧ yX5_mayAnswer.cls ≠ "java/lang/invoke/VarHandle" ∧ (parseMethodDescriptor yX5_mayAnswer.desc).map (fun d => d.parameters.length) = some 1 := by decide +kernel
set_option maxHeartbeats 4000000 in
set_option maxRecDepth 100000 in
theorem cX5_mayAnswer_ok (l : Launch) (G : va_G) (cI cG : ClassId) (a : Nat → Nat) (g_ft : Tab) (g_er : Tab) (g_eb : Int32) (g_li : Tab) (g_st : Tab) (g_rd : Int32) (g_tu : Int32) (g_la : Int32) (g_dl : Bool) (g_sh : Int32) (g_tb : Int32) (z_ft : Tab) (z_er : Tab) (z_eb : Int32) (z_li : Tab) (z_st : Tab) (z_rd : Int32) (z_tu : Int32) (z_la : Int32) (z_dl : Bool) (z_sh : Int32) (z_tb : Int32) (yc : Int32) (yp : (Nat → Nat)) (yg : (Nat → GV)) (tx : Tab) (cm : Tab) (p1 : Int32) (out : Bool) (hf : fX5_mayAnswer g_ft g_st p1 = some out) : CI l G (tyz cI cG) yX5_mayAnswer wsX5_mayAnswer ({ frames := 3, cells := 0, slots := 0, locals := 68 } : Room) [.ref (a 0), .int p1] (([[((a 0), .inr (5, [.ref (a 1), .ref (a 11), .ref (a 21), .ref (a 63)]))], wG cI (a 1) (a 2) (a 3) (a 4) (a 5) (a 6) (a 7) (a 8) (a 9) (a 10) g_ft g_er g_eb g_li g_st g_rd g_tu g_la g_dl g_sh g_tb, wG cI (a 11) (a 12) (a 13) (a 14) (a 15) (a 16) (a 17) (a 18) (a 19) (a 20) z_ft z_er z_eb z_li z_st z_rd z_tu z_la z_dl z_sh z_tb, wH cI cG (fun i => a (21 + i)) yc yp yg, wS cI (a 63) (a 64) (a 65) (a 66) (a 67) tx cm] : List va_W).flatten) (bI out) (([[((a 0), .inr (5, [.ref (a 1), .ref (a 11), .ref (a 21), .ref (a 63)]))], wG cI (a 1) (a 2) (a 3) (a 4) (a 5) (a 6) (a 7) (a 8) (a 9) (a 10) g_ft g_er g_eb g_li g_st g_rd g_tu g_la g_dl g_sh g_tb, wG cI (a 11) (a 12) (a 13) (a 14) (a 15) (a 16) (a 17) (a 18) (a 19) (a 20) z_ft z_er z_eb z_li z_st z_rd z_tu z_la z_dl z_sh z_tb, wH cI cG (fun i => a (21 + i)) yc yp yg, wS cI (a 63) (a 64) (a 65) (a 66) (a 67) tx cm] : List va_W).flatten) := by
  intro sz
  refine Met.ofW (cc := cX5_mayAnswer) (maxL := 2) (ret := (some .boolean)) (by decide) rfl ?_
  intro p e s m args below meth c s₁ B hml hv
  obtain ⟨rfl, hsz, hP, hK, hD0⟩ := hv
  have hx := B.exec
  have hb := B.bytes
  have hr := B.returns
  have hts := atoms_spec (ws := wsX5_mayAnswer) B.pre
  have hown : s.vm.findClass RX5 = some m.cls := findClass_of_methodNamed B.named
  have hlocks := B.notSynchronized
  subst hsz
  have hD := hD0.self (sz := s.heap.size)
  generalize hAe : va_A (([[((a 0), .inr (5, [.ref (a 1), .ref (a 11), .ref (a 21), .ref (a 63)]))], wG cI (a 1) (a 2) (a 3) (a 4) (a 5) (a 6) (a 7) (a 8) (a 9) (a 10) g_ft g_er g_eb g_li g_st g_rd g_tu g_la g_dl g_sh g_tb, wG cI (a 11) (a 12) (a 13) (a 14) (a 15) (a 16) (a 17) (a 18) (a 19) (a 20) z_ft z_er z_eb z_li z_st z_rd z_tu z_la z_dl z_sh z_tb, wH cI cG (fun i => a (21 + i)) yc yp yg, wS cI (a 63) (a 64) (a 65) (a 66) (a 67) tx cm] : List va_W).flatten) s.heap.size = A at hD ⊢
  have hA : ∀ q : Nat, s.heap.size ≤ q → A q := fun q h => by rw [← hAe]; exact Or.inr h
  have hS : va_S A s.heap s.heap [] := va_S.rf
  have hw0 := hts (.fieldLink RX5 10 "SpeedTurns" "game" "LSpeedTurns$Game;") (List.mem_of_getElem? (i := 5) rfl)
  show W p l e ({ frames := 3, cells := 0, slots := 0, locals := 68 } : Room) s m _ below meth c s.heap [] 0 0 _ _
  refine W_genQ (fun Q hQ => ?_)
  have h := hf
  rw [fX5_mayAnswer] at h
  have hl := lv_entry ([.ref (a 0), .int p1]) (n := 2) (Nat.le_of_ble_eq_true rfl)
  rw [lg_entry_eq]
  generalize (lg_sl ([.ref (a 0), .int p1]) ++ List.replicate (2 - (lg_sl ([.ref (a 0), .int p1])).length) Slot.unset).toArray = ls at hl ⊢
  have hl : lv_has ls 2 [(0, .ref (a 0)), (1, .int p1)] := hl
  refine lv_aload_n hx hb dX5_mayAnswer_0 rfl (lv_at hl 0 rfl) ?_
  refine lv_iload_n hx hb dX5_mayAnswer_1 rfl (lv_at hl 1 rfl) ?_
  obtain ⟨x1, ex1, h⟩ := o_b h
  refine bcall_vV (As := [.int p1]) (rest := []) (c0 := [[((a 0), .inr (5, [.ref (a 1), .ref (a 11), .ref (a 21), .ref (a 63)]))], wG cI (a 1) (a 2) (a 3) (a 4) (a 5) (a 6) (a 7) (a 8) (a 9) (a 10) g_ft g_er g_eb g_li g_st g_rd g_tu g_la g_dl g_sh g_tb, wG cI (a 11) (a 12) (a 13) (a 14) (a 15) (a 16) (a 17) (a 18) (a 19) (a 20) z_ft z_er z_eb z_li z_st z_rd z_tu z_la z_dl z_sh z_tb, wH cI cG (fun i => a (21 + i)) yc yp yg, wS cI (a 63) (a 64) (a 65) (a 66) (a 67) tx cm]) (c1 := [[((a 0), .inr (5, [.ref (a 1), .ref (a 11), .ref (a 21), .ref (a 63)]))], wG cI (a 1) (a 2) (a 3) (a 4) (a 5) (a 6) (a 7) (a 8) (a 9) (a 10) g_ft g_er g_eb g_li g_st g_rd g_tu g_la g_dl g_sh g_tb, wG cI (a 11) (a 12) (a 13) (a 14) (a 15) (a 16) (a 17) (a 18) (a 19) (a 20) z_ft z_er z_eb z_li z_st z_rd z_tu z_la z_dl z_sh z_tb, wH cI cG (fun i => a (21 + i)) yc yp yg, wS cI (a 63) (a 64) (a 65) (a 66) (a 67) tx cm]) (bs2 := [[((a 0), .inr (5, [.ref (a 1), .ref (a 11), .ref (a 21), .ref (a 63)]))], wG cI (a 1) (a 2) (a 3) (a 4) (a 5) (a 6) (a 7) (a 8) (a 9) (a 10) g_ft g_er g_eb g_li g_st g_rd g_tu g_la g_dl g_sh g_tb, wG cI (a 11) (a 12) (a 13) (a 14) (a 15) (a 16) (a 17) (a 18) (a 19) (a 20) z_ft z_er z_eb z_li z_st z_rd z_tu z_la z_dl z_sh z_tb, wH cI cG (fun i => a (21 + i)) yc yp yg, wS cI (a 63) (a 64) (a 65) (a 66) (a 67) tx cm]) ⟨hx, hb, hml, hown, hts⟩ (cX5_requireFighter_ok l G cI cG a g_ft g_er g_eb g_li g_st g_rd g_tu g_la g_dl g_sh g_tb z_ft z_er z_eb z_li z_st z_rd z_tu z_la z_dl z_sh z_tb yc yp yg tx cm p1 x1 ex1) (cwV 1 hts gX5_mayAnswer_X5_requireFighter_61 rfl rfl rfl hdX5_requireFighter ⟨Nat.le_of_ble_eq_true rfl, Nat.le_of_ble_eq_true rfl⟩) hP hD hS hA hK 5 rfl rfl rfl [0, 1, 2, 3, 4] rfl rfl rfl rfl rfl rfl rfl rfl rfl hl.1 (Nat.le_of_ble_eq_true rfl) dX5_mayAnswer_2 ⟨Nat.zero_le _, Nat.zero_le _⟩ (fun H locs hP hD hS => ?_)
  refine lv_aload_n hx hb dX5_mayAnswer_5 rfl (lv_at hl 0 rfl) ?_
  refine va_get (D := G) (ci := 5) (v := .ref (a 1)) (C := RX5) (T := TX5) (N := 4) hx hb hts huX5_mayAnswer_X5 hown hK.1 hP 0 rfl rfl 0 (by decide) hw0 (fun _ h9 => h9) rfl dX5_mayAnswer_6 ?_
  refine lv_iload_n hx hb dX5_mayAnswer_9 rfl (lv_at hl 1 rfl) ?_
  obtain ⟨x2, ex2, h⟩ := o_b h
  refine bcall_iV (As := [.int p1]) (rest := []) (c0 := [wG cI (a 1) (a 2) (a 3) (a 4) (a 5) (a 6) (a 7) (a 8) (a 9) (a 10) g_ft g_er g_eb g_li g_st g_rd g_tu g_la g_dl g_sh g_tb]) (c1 := [wG cI (a 1) (a 2) (a 3) (a 4) (a 5) (a 6) (a 7) (a 8) (a 9) (a 10) g_ft g_er g_eb g_li g_st g_rd g_tu g_la g_dl g_sh g_tb]) (bs2 := [[((a 0), .inr (5, [.ref (a 1), .ref (a 11), .ref (a 21), .ref (a 63)]))], wG cI (a 1) (a 2) (a 3) (a 4) (a 5) (a 6) (a 7) (a 8) (a 9) (a 10) g_ft g_er g_eb g_li g_st g_rd g_tu g_la g_dl g_sh g_tb, wG cI (a 11) (a 12) (a 13) (a 14) (a 15) (a 16) (a 17) (a 18) (a 19) (a 20) z_ft z_er z_eb z_li z_st z_rd z_tu z_la z_dl z_sh z_tb, wH cI cG (fun i => a (21 + i)) yc yp yg, wS cI (a 63) (a 64) (a 65) (a 66) (a 67) tx cm]) ⟨hx, hb, hml, hown, hts⟩ (cX1_canAnswer_ok l G cI cG (a 1) (a 2) (a 3) (a 4) (a 5) (a 6) (a 7) (a 8) (a 9) (a 10) g_ft g_er g_eb g_li g_st g_rd g_tu g_la g_dl g_sh g_tb p1 x2 ex2) (cwV 1 hts gX5_mayAnswer_X1_canAnswer_153 rfl rfl rfl hdX1_canAnswer ⟨Nat.le_of_ble_eq_true rfl, Nat.le_of_ble_eq_true rfl⟩) hP hD hS hA hK 1 rfl rfl rfl [1] rfl rfl rfl rfl rfl rfl rfl rfl rfl hl.1 (Nat.le_of_ble_eq_true rfl) dX5_mayAnswer_10 ⟨Nat.zero_le _, Nat.zero_le _⟩ (fun H locs hP hD hS => ?_)
  obtain rfl := o_s h
  rw [hQ]
  exact end_z hx hb hr rfl (bI_n _) hP hD hS dX5_mayAnswer_13 hlocks
theorem hdX5_upcoming : yX5_upcoming.cls = RX5 ∧ yX5_upcoming.cls ≠ "java/lang/invoke/MethodHandle" ∧ yX5_upcoming.cls ≠ "java/lang/invoke/VarHandle" ∧ (parseMethodDescriptor yX5_upcoming.desc).map (fun d => d.parameters.length) = some 1 := by decide +kernel
set_option maxHeartbeats 4000000 in
set_option maxRecDepth 100000 in
theorem cX5_upcoming_ok (l : Launch) (G : va_G) (cI cG : ClassId) (a : Nat → Nat) (fu : Nat) (g_ft : Tab) (g_er : Tab) (g_eb : Int32) (g_li : Tab) (g_st : Tab) (g_rd : Int32) (g_tu : Int32) (g_la : Int32) (g_dl : Bool) (g_sh : Int32) (g_tb : Int32) (z_ft : Tab) (z_er : Tab) (z_eb : Int32) (z_li : Tab) (z_st : Tab) (z_rd : Int32) (z_tu : Int32) (z_la : Int32) (z_dl : Bool) (z_sh : Int32) (z_tb : Int32) (yc : Int32) (yp : (Nat → Nat)) (yg : (Nat → GV)) (tx : Tab) (cm : Tab) (p1 : Int32) (out : Int32 × Tab × Tab × Int32 × Tab × Tab × Int32 × Int32 × Int32 × Bool × Int32 × Int32) (hf : fX5_upcoming fu g_ft g_er g_eb g_li g_st g_rd g_tu g_la g_dl g_sh g_tb z_ft z_er z_eb z_li z_st z_rd z_tu z_la z_dl z_sh z_tb p1 = some out) : CI l G (tyz cI cG) yX5_upcoming wsX5_upcoming ({ frames := 7, cells := 0, slots := 0, locals := 196 } : Room) [.ref (a 0), .int p1] (([[((a 0), .inr (5, [.ref (a 1), .ref (a 11), .ref (a 21), .ref (a 63)]))], wG cI (a 1) (a 2) (a 3) (a 4) (a 5) (a 6) (a 7) (a 8) (a 9) (a 10) g_ft g_er g_eb g_li g_st g_rd g_tu g_la g_dl g_sh g_tb, wG cI (a 11) (a 12) (a 13) (a 14) (a 15) (a 16) (a 17) (a 18) (a 19) (a 20) z_ft z_er z_eb z_li z_st z_rd z_tu z_la z_dl z_sh z_tb, wH cI cG (fun i => a (21 + i)) yc yp yg, wS cI (a 63) (a 64) (a 65) (a 66) (a 67) tx cm] : List va_W).flatten) out.1 (([[((a 0), .inr (5, [.ref (a 1), .ref (a 11), .ref (a 21), .ref (a 63)]))], wG cI (a 1) (a 2) (a 3) (a 4) (a 5) (a 6) (a 7) (a 8) (a 9) (a 10) g_ft g_er g_eb g_li g_st g_rd g_tu g_la g_dl g_sh g_tb, wG cI (a 11) (a 12) (a 13) (a 14) (a 15) (a 16) (a 17) (a 18) (a 19) (a 20) out.2.1 out.2.2.1 out.2.2.2.1 out.2.2.2.2.1 out.2.2.2.2.2.1 out.2.2.2.2.2.2.1 out.2.2.2.2.2.2.2.1 out.2.2.2.2.2.2.2.2.1 out.2.2.2.2.2.2.2.2.2.1 out.2.2.2.2.2.2.2.2.2.2.1 out.2.2.2.2.2.2.2.2.2.2.2, wH cI cG (fun i => a (21 + i)) yc yp yg, wS cI (a 63) (a 64) (a 65) (a 66) (a 67) tx cm] : List va_W).flatten) := by
  intro sz
  refine Met.ofW (cc := cX5_upcoming) (maxL := 4) (ret := (some .int)) (by decide) rfl ?_
  intro p e s m args below meth c s₁ B hml hv
  obtain ⟨rfl, hsz, hP, hK, hD0⟩ := hv
  have hx := B.exec
  have hb := B.bytes
  have hr := B.returns
  have hts := atoms_spec (ws := wsX5_upcoming) B.pre
  have hown : s.vm.findClass RX5 = some m.cls := findClass_of_methodNamed B.named
  have hlocks := B.notSynchronized
  subst hsz
  have hD := hD0.self (sz := s.heap.size)
  generalize hAe : va_A (([[((a 0), .inr (5, [.ref (a 1), .ref (a 11), .ref (a 21), .ref (a 63)]))], wG cI (a 1) (a 2) (a 3) (a 4) (a 5) (a 6) (a 7) (a 8) (a 9) (a 10) g_ft g_er g_eb g_li g_st g_rd g_tu g_la g_dl g_sh g_tb, wG cI (a 11) (a 12) (a 13) (a 14) (a 15) (a 16) (a 17) (a 18) (a 19) (a 20) z_ft z_er z_eb z_li z_st z_rd z_tu z_la z_dl z_sh z_tb, wH cI cG (fun i => a (21 + i)) yc yp yg, wS cI (a 63) (a 64) (a 65) (a 66) (a 67) tx cm] : List va_W).flatten) s.heap.size = A at hD ⊢
  have hA : ∀ q : Nat, s.heap.size ≤ q → A q := fun q h => by rw [← hAe]; exact Or.inr h
  have hS : va_S A s.heap s.heap [] := va_S.rf
  have hw0 := hts (.fieldLink RX5 16 "SpeedTurns" "scratch" "LSpeedTurns$Game;") (List.mem_of_getElem? (i := 4) rfl)
  have hw1 := hts (.fieldLink RX5 10 "SpeedTurns" "game" "LSpeedTurns$Game;") (List.mem_of_getElem? (i := 5) rfl)
  show W p l e ({ frames := 7, cells := 0, slots := 0, locals := 196 } : Room) s m _ below meth c s.heap [] 0 0 _ _
  refine W_genQ (fun Q hQ => ?_)
  have L29 : ∀ (z_eb : Int32) (z_st : Tab) (z_sh : Int32) (k : Nat) (z_ft : Tab) (z_er : Tab) (z_li : Tab) (z_rd : Int32) (z_tu : Int32) (z_la : Int32) (z_dl : Bool) (z_tb : Int32) (v2 : Int32) (v3 : Int32) (H : Heap) (locs : List Loc) (ls : Array Slot), fX5_upcoming_L29 fu g_ft g_er g_eb g_li g_st g_rd g_tu g_la g_dl g_sh g_tb p1 z_eb z_st z_sh k z_ft z_er z_li z_rd z_tu z_la z_dl z_tb v2 v3 = some out → va_P G vwCl (([[((a 0), .inr (5, [.ref (a 1), .ref (a 11), .ref (a 21), .ref (a 63)]))], wG cI (a 1) (a 2) (a 3) (a 4) (a 5) (a 6) (a 7) (a 8) (a 9) (a 10) g_ft g_er g_eb g_li g_st g_rd g_tu g_la g_dl g_sh g_tb, wG cI (a 11) (a 12) (a 13) (a 14) (a 15) (a 16) (a 17) (a 18) (a 19) (a 20) z_ft z_er z_eb z_li z_st z_rd z_tu z_la z_dl z_sh z_tb, wH cI cG (fun i => a (21 + i)) yc yp yg, wS cI (a 63) (a 64) (a 65) (a 66) (a 67) tx cm] : List va_W).flatten) H → va_D A (([[((a 0), .inr (5, [.ref (a 1), .ref (a 11), .ref (a 21), .ref (a 63)]))], wG cI (a 1) (a 2) (a 3) (a 4) (a 5) (a 6) (a 7) (a 8) (a 9) (a 10) g_ft g_er g_eb g_li g_st g_rd g_tu g_la g_dl g_sh g_tb, wG cI (a 11) (a 12) (a 13) (a 14) (a 15) (a 16) (a 17) (a 18) (a 19) (a 20) z_ft z_er z_eb z_li z_st z_rd z_tu z_la z_dl z_sh z_tb, wH cI cG (fun i => a (21 + i)) yc yp yg, wS cI (a 63) (a 64) (a 65) (a 66) (a 67) tx cm] : List va_W).flatten) → va_S A s.heap H locs → lv_has ls 4 [(0, .ref (a 0)), (1, .int p1), (2, .int v2), (3, .int v3)] → W p l e ({ frames := 7, cells := 0, slots := 0, locals := 196 } : Room) s m ([.ref (a 0), .int p1] : List Value).toArray below meth c H locs 0 0 Q (F0 m 29 ls []) := by
    intro z_eb z_st z_sh k
    induction k with
    | zero => intro z_ft z_er z_li z_rd z_tu z_la z_dl z_tb v2 v3 H locs ls h hP hD hS hl; rw [fX5_upcoming_L29] at h; exact o_n h
    | succ k ih =>
      intro z_ft z_er z_li z_rd z_tu z_la z_dl z_tb v2 v3 H locs ls h hP hD hS hl
      rw [fX5_upcoming_L29] at h
      refine lv_iload_n hx hb dX5_upcoming_29 rfl (lv_at hl 3 rfl) ?_
      refine lv_iload_n hx hb dX5_upcoming_30 rfl (lv_at hl 1 rfl) ?_
      refine lv_icmp_gt (tgt := 48) hx hb dX5_upcoming_31 (by decide) (fun hc => ?_) (fun hc => ?_)
      · have h := o_t h hc
        refine lv_iload_n hx hb dX5_upcoming_48 rfl (lv_at hl 2 rfl) ?_
        obtain rfl := o_s h
        rw [hQ]
        exact end_i hx hb hr rfl hP hD hS dX5_upcoming_49 hlocks
      · have h := o_f h hc
        refine lv_aload_n hx hb dX5_upcoming_34 rfl (lv_at hl 0 rfl) ?_
        refine va_get (D := G) (ci := 5) (v := .ref (a 11)) (C := RX5) (T := TX5) (N := 4) hx hb hts huX5_upcoming_X5 hown hK.1 hP 0 rfl rfl 1 (by decide) hw0 (fun _ h9 => h9) rfl dX5_upcoming_35 ?_
        obtain ⟨x4, ex4, h⟩ := o_b h
        refine bcall_iV (As := []) (rest := []) (c0 := [wG cI (a 11) (a 12) (a 13) (a 14) (a 15) (a 16) (a 17) (a 18) (a 19) (a 20) z_ft z_er z_eb z_li z_st z_rd z_tu z_la z_dl z_sh z_tb]) (c1 := [wG cI (a 11) (a 12) (a 13) (a 14) (a 15) (a 16) (a 17) (a 18) (a 19) (a 20) x4.2.1 x4.2.2.1 z_eb x4.2.2.2.1 z_st x4.2.2.2.2.1 x4.2.2.2.2.2.1 x4.2.2.2.2.2.2.1 x4.2.2.2.2.2.2.2.1 z_sh x4.2.2.2.2.2.2.2.2]) (bs2 := [[((a 0), .inr (5, [.ref (a 1), .ref (a 11), .ref (a 21), .ref (a 63)]))], wG cI (a 1) (a 2) (a 3) (a 4) (a 5) (a 6) (a 7) (a 8) (a 9) (a 10) g_ft g_er g_eb g_li g_st g_rd g_tu g_la g_dl g_sh g_tb, wG cI (a 11) (a 12) (a 13) (a 14) (a 15) (a 16) (a 17) (a 18) (a 19) (a 20) x4.2.1 x4.2.2.1 z_eb x4.2.2.2.1 z_st x4.2.2.2.2.1 x4.2.2.2.2.2.1 x4.2.2.2.2.2.2.1 x4.2.2.2.2.2.2.2.1 z_sh x4.2.2.2.2.2.2.2.2, wH cI cG (fun i => a (21 + i)) yc yp yg, wS cI (a 63) (a 64) (a 65) (a 66) (a 67) tx cm]) ⟨hx, hb, hml, hown, hts⟩ (cX1_passTurn_ok l G cI cG (a 11) (a 12) (a 13) (a 14) (a 15) (a 16) (a 17) (a 18) (a 19) (a 20) fu z_ft z_er z_eb z_li z_st z_rd z_tu z_la z_dl z_sh z_tb x4 ex4) (cwV 0 hts gX5_upcoming_X1_passTurn_162 rfl rfl rfl hdX1_passTurn ⟨Nat.le_of_ble_eq_true rfl, Nat.le_of_ble_eq_true rfl⟩) hP hD hS hA hK 1 rfl rfl rfl [2] rfl rfl rfl rfl rfl rfl rfl rfl rfl hl.1 (Nat.le_of_ble_eq_true rfl) dX5_upcoming_38 ⟨Nat.zero_le _, Nat.zero_le _⟩ (fun H locs hP hD hS => ?_)
        refine lv_istore_n (lv' := [(2, .int x4.1), (0, .ref (a 0)), (1, .int p1), (3, .int v3)]) hx hb dX5_upcoming_41 rfl hl (by decide) rfl (fun ls hl => ?_)
        refine lv_iinc (v := (v3 + 1)) (lv' := [(3, .int (v3 + 1)), (2, .int x4.1), (0, .ref (a 0)), (1, .int p1)]) hx hb dX5_upcoming_42 hl (k := 3) rfl rfl (by decide) rfl (fun ls hl => ?_)
        refine lv_goto (tgt := 29) hx hb dX5_upcoming_45 (by decide) ?_
        exact ih x4.2.1 x4.2.2.1 x4.2.2.2.1 x4.2.2.2.2.1 x4.2.2.2.2.2.1 x4.2.2.2.2.2.2.1 x4.2.2.2.2.2.2.2.1 x4.2.2.2.2.2.2.2.2 x4.1 (v3 + 1) _ _ _ h hP hD hS (lv_sub hl [2, 3, 1, 0] rfl)
  have h := hf
  rw [fX5_upcoming] at h
  have hl := lv_entry ([.ref (a 0), .int p1]) (n := 4) (Nat.le_of_ble_eq_true rfl)
  rw [lg_entry_eq]
  generalize (lg_sl ([.ref (a 0), .int p1]) ++ List.replicate (4 - (lg_sl ([.ref (a 0), .int p1])).length) Slot.unset).toArray = ls at hl ⊢
  have hl : lv_has ls 4 [(0, .ref (a 0)), (1, .int p1)] := hl
  refine lv_iload_n hx hb dX5_upcoming_0 rfl (lv_at hl 1 rfl) ?_
  refine lv_iconst (v := 0) hx hb dX5_upcoming_1 (by decide) ?_
  refine lv_bipush (v := 40) hx hb dX5_upcoming_2 (by decide) ?_
  obtain ⟨x1, ex1, h⟩ := o_b h
  refine bcall_vS (As := [.int p1, .int (0 : Int32), .int (40 : Int32)]) (rest := []) (c0 := []) (c1 := []) (bs2 := [[((a 0), .inr (5, [.ref (a 1), .ref (a 11), .ref (a 21), .ref (a 63)]))], wG cI (a 1) (a 2) (a 3) (a 4) (a 5) (a 6) (a 7) (a 8) (a 9) (a 10) g_ft g_er g_eb g_li g_st g_rd g_tu g_la g_dl g_sh g_tb, wG cI (a 11) (a 12) (a 13) (a 14) (a 15) (a 16) (a 17) (a 18) (a 19) (a 20) z_ft z_er z_eb z_li z_st z_rd z_tu z_la z_dl z_sh z_tb, wH cI cG (fun i => a (21 + i)) yc yp yg, wS cI (a 63) (a 64) (a 65) (a 66) (a 67) tx cm]) ⟨hx, hb, hml, hown, hts⟩ (cX5_requireWithin_ok l G cI cG p1 (0 : Int32) (40 : Int32) x1 ex1) (va_cwS 3 hts gX5_upcoming_X5_requireWithin_65 rfl rfl rfl hdX5_requireWithin ⟨Nat.le_of_ble_eq_true rfl, Nat.le_of_ble_eq_true rfl⟩) hP hD hS hA hK [] rfl rfl rfl rfl rfl rfl rfl rfl rfl hl.1 (Nat.le_of_ble_eq_true rfl) dX5_upcoming_4 ⟨Nat.zero_le _, Nat.zero_le _⟩ (fun H locs hP hD hS => ?_)
  refine lv_aload_n hx hb dX5_upcoming_7 rfl (lv_at hl 0 rfl) ?_
  refine va_get (D := G) (ci := 5) (v := .ref (a 11)) (C := RX5) (T := TX5) (N := 4) hx hb hts huX5_upcoming_X5 hown hK.1 hP 0 rfl rfl 1 (by decide) hw0 (fun _ h9 => h9) rfl dX5_upcoming_8 ?_
  refine lv_aload_n hx hb dX5_upcoming_11 rfl (lv_at hl 0 rfl) ?_
  refine va_get (D := G) (ci := 5) (v := .ref (a 1)) (C := RX5) (T := TX5) (N := 4) hx hb hts huX5_upcoming_X5 hown hK.1 hP 0 rfl rfl 0 (by decide) hw1 (fun _ h9 => h9) rfl dX5_upcoming_12 ?_
  obtain ⟨x2, ex2, h⟩ := o_b h
  refine bcall_vV (As := [.ref (a 1)]) (rest := []) (c0 := [wG cI (a 11) (a 12) (a 13) (a 14) (a 15) (a 16) (a 17) (a 18) (a 19) (a 20) z_ft z_er z_eb z_li z_st z_rd z_tu z_la z_dl z_sh z_tb, wG cI (a 1) (a 2) (a 3) (a 4) (a 5) (a 6) (a 7) (a 8) (a 9) (a 10) g_ft g_er g_eb g_li g_st g_rd g_tu g_la g_dl g_sh g_tb]) (c1 := [wG cI (a 11) (a 12) (a 13) (a 14) (a 15) (a 16) (a 17) (a 18) (a 19) (a 20) x2.1 x2.2.1 x2.2.2.1 x2.2.2.2.1 x2.2.2.2.2.1 x2.2.2.2.2.2.1 x2.2.2.2.2.2.2.1 x2.2.2.2.2.2.2.2.1 x2.2.2.2.2.2.2.2.2.1 x2.2.2.2.2.2.2.2.2.2.1 x2.2.2.2.2.2.2.2.2.2.2, wG cI (a 1) (a 2) (a 3) (a 4) (a 5) (a 6) (a 7) (a 8) (a 9) (a 10) g_ft g_er g_eb g_li g_st g_rd g_tu g_la g_dl g_sh g_tb]) (bs2 := [[((a 0), .inr (5, [.ref (a 1), .ref (a 11), .ref (a 21), .ref (a 63)]))], wG cI (a 1) (a 2) (a 3) (a 4) (a 5) (a 6) (a 7) (a 8) (a 9) (a 10) g_ft g_er g_eb g_li g_st g_rd g_tu g_la g_dl g_sh g_tb, wG cI (a 11) (a 12) (a 13) (a 14) (a 15) (a 16) (a 17) (a 18) (a 19) (a 20) x2.1 x2.2.1 x2.2.2.1 x2.2.2.2.1 x2.2.2.2.2.1 x2.2.2.2.2.2.1 x2.2.2.2.2.2.2.1 x2.2.2.2.2.2.2.2.1 x2.2.2.2.2.2.2.2.2.1 x2.2.2.2.2.2.2.2.2.2.1 x2.2.2.2.2.2.2.2.2.2.2, wH cI cG (fun i => a (21 + i)) yc yp yg, wS cI (a 63) (a 64) (a 65) (a 66) (a 67) tx cm]) ⟨hx, hb, hml, hown, hts⟩ (cX1_copyFrom_ok l G cI cG (a 11) (a 12) (a 13) (a 14) (a 15) (a 16) (a 17) (a 18) (a 19) (a 20) (a 1) (a 2) (a 3) (a 4) (a 5) (a 6) (a 7) (a 8) (a 9) (a 10) z_ft z_er z_eb z_li z_st z_rd z_tu z_la z_dl z_sh z_tb g_ft g_er g_eb g_li g_st g_rd g_tu g_la g_dl g_sh g_tb x2 ex2) (cwV 1 hts gX5_upcoming_X1_copyFrom_156 rfl rfl rfl hdX1_copyFrom ⟨Nat.le_of_ble_eq_true rfl, Nat.le_of_ble_eq_true rfl⟩) hP hD hS hA hK 1 rfl rfl rfl [2, 1] rfl rfl rfl rfl rfl rfl rfl rfl rfl hl.1 (Nat.le_of_ble_eq_true rfl) dX5_upcoming_15 ⟨Nat.zero_le _, Nat.zero_le _⟩ (fun H locs hP hD hS => ?_)
  refine lv_aload_n hx hb dX5_upcoming_18 rfl (lv_at hl 0 rfl) ?_
  refine va_get (D := G) (ci := 5) (v := .ref (a 11)) (C := RX5) (T := TX5) (N := 4) hx hb hts huX5_upcoming_X5 hown hK.1 hP 0 rfl rfl 1 (by decide) hw0 (fun _ h9 => h9) rfl dX5_upcoming_19 ?_
  obtain ⟨x3, ex3, h⟩ := o_b h
  refine bcall_vV (As := []) (rest := []) (c0 := [wG cI (a 11) (a 12) (a 13) (a 14) (a 15) (a 16) (a 17) (a 18) (a 19) (a 20) x2.1 x2.2.1 x2.2.2.1 x2.2.2.2.1 x2.2.2.2.2.1 x2.2.2.2.2.2.1 x2.2.2.2.2.2.2.1 x2.2.2.2.2.2.2.2.1 x2.2.2.2.2.2.2.2.2.1 x2.2.2.2.2.2.2.2.2.2.1 x2.2.2.2.2.2.2.2.2.2.2]) (c1 := [wG cI (a 11) (a 12) (a 13) (a 14) (a 15) (a 16) (a 17) (a 18) (a 19) (a 20) x2.1 x3.1 x2.2.2.1 x2.2.2.2.1 x3.2.1 x2.2.2.2.2.2.1 x3.2.2 x2.2.2.2.2.2.2.2.1 x2.2.2.2.2.2.2.2.2.1 x2.2.2.2.2.2.2.2.2.2.1 x2.2.2.2.2.2.2.2.2.2.2]) (bs2 := [[((a 0), .inr (5, [.ref (a 1), .ref (a 11), .ref (a 21), .ref (a 63)]))], wG cI (a 1) (a 2) (a 3) (a 4) (a 5) (a 6) (a 7) (a 8) (a 9) (a 10) g_ft g_er g_eb g_li g_st g_rd g_tu g_la g_dl g_sh g_tb, wG cI (a 11) (a 12) (a 13) (a 14) (a 15) (a 16) (a 17) (a 18) (a 19) (a 20) x2.1 x3.1 x2.2.2.1 x2.2.2.2.1 x3.2.1 x2.2.2.2.2.2.1 x3.2.2 x2.2.2.2.2.2.2.2.1 x2.2.2.2.2.2.2.2.2.1 x2.2.2.2.2.2.2.2.2.2.1 x2.2.2.2.2.2.2.2.2.2.2, wH cI cG (fun i => a (21 + i)) yc yp yg, wS cI (a 63) (a 64) (a 65) (a 66) (a 67) tx cm]) ⟨hx, hb, hml, hown, hts⟩ (cX1_abandonTurn_ok l G cI cG (a 11) (a 12) (a 13) (a 14) (a 15) (a 16) (a 17) (a 18) (a 19) (a 20) fu x2.1 x2.2.1 x2.2.2.1 x2.2.2.2.1 x2.2.2.2.2.1 x2.2.2.2.2.2.1 x2.2.2.2.2.2.2.1 x2.2.2.2.2.2.2.2.1 x2.2.2.2.2.2.2.2.2.1 x2.2.2.2.2.2.2.2.2.2.1 x2.2.2.2.2.2.2.2.2.2.2 x3 ex3) (cwV 0 hts gX5_upcoming_X1_abandonTurn_159 rfl rfl rfl hdX1_abandonTurn ⟨Nat.le_of_ble_eq_true rfl, Nat.le_of_ble_eq_true rfl⟩) hP hD hS hA hK 1 rfl rfl rfl [2] rfl rfl rfl rfl rfl rfl rfl rfl rfl hl.1 (Nat.le_of_ble_eq_true rfl) dX5_upcoming_22 ⟨Nat.zero_le _, Nat.zero_le _⟩ (fun H locs hP hD hS => ?_)
  refine lv_iconst (v := (-1)) hx hb dX5_upcoming_25 (by decide) ?_
  refine lv_istore_n (lv' := [(2, .int (-1 : Int32)), (0, .ref (a 0)), (1, .int p1)]) hx hb dX5_upcoming_26 rfl hl (by decide) rfl (fun ls hl => ?_)
  refine lv_iconst (v := 0) hx hb dX5_upcoming_27 (by decide) ?_
  refine lv_istore_n (lv' := [(3, .int (0 : Int32)), (2, .int (-1 : Int32)), (0, .ref (a 0)), (1, .int p1)]) hx hb dX5_upcoming_28 rfl hl (by decide) rfl (fun ls hl => ?_)
  exact L29 x2.2.2.1 x3.2.1 x2.2.2.2.2.2.2.2.2.2.1 fu x2.1 x3.1 x2.2.2.2.1 x2.2.2.2.2.2.1 x3.2.2 x2.2.2.2.2.2.2.2.1 x2.2.2.2.2.2.2.2.2.1 x2.2.2.2.2.2.2.2.2.2.2 (-1 : Int32) (0 : Int32) _ _ _ h hP hD hS (lv_sub hl [2, 3, 1, 0] rfl)
theorem hdX5_goneAfter : yX5_goneAfter.cls = RX5 ∧ yX5_goneAfter.cls ≠ "java/lang/invoke/MethodHandle" ∧ yX5_goneAfter.cls ≠ "java/lang/invoke/VarHandle" ∧ (parseMethodDescriptor yX5_goneAfter.desc).map (fun d => d.parameters.length) = some 1 := by decide +kernel
set_option maxHeartbeats 4000000 in
set_option maxRecDepth 100000 in
theorem cX5_goneAfter_ok (l : Launch) (G : va_G) (cI cG : ClassId) (a : Nat → Nat) (fu : Nat) (g_ft : Tab) (g_er : Tab) (g_eb : Int32) (g_li : Tab) (g_st : Tab) (g_rd : Int32) (g_tu : Int32) (g_la : Int32) (g_dl : Bool) (g_sh : Int32) (g_tb : Int32) (z_ft : Tab) (z_er : Tab) (z_eb : Int32) (z_li : Tab) (z_st : Tab) (z_rd : Int32) (z_tu : Int32) (z_la : Int32) (z_dl : Bool) (z_sh : Int32) (z_tb : Int32) (yc : Int32) (yp : (Nat → Nat)) (yg : (Nat → GV)) (tx : Tab) (cm : Tab) (p1 : Int32) (out : Int32 × Tab × Tab × Int32 × Tab × Tab × Int32 × Int32 × Int32 × Bool × Int32 × Int32) (hf : fX5_goneAfter fu g_ft g_er g_eb g_li g_st g_rd g_tu g_la g_dl g_sh g_tb z_ft z_er z_eb z_li z_st z_rd z_tu z_la z_dl z_sh z_tb p1 = some out) : CI l G (tyz cI cG) yX5_goneAfter wsX5_goneAfter ({ frames := 7, cells := 0, slots := 0, locals := 196 } : Room) [.ref (a 0), .int p1] (([[((a 0), .inr (5, [.ref (a 1), .ref (a 11), .ref (a 21), .ref (a 63)]))], wG cI (a 1) (a 2) (a 3) (a 4) (a 5) (a 6) (a 7) (a 8) (a 9) (a 10) g_ft g_er g_eb g_li g_st g_rd g_tu g_la g_dl g_sh g_tb, wG cI (a 11) (a 12) (a 13) (a 14) (a 15) (a 16) (a 17) (a 18) (a 19) (a 20) z_ft z_er z_eb z_li z_st z_rd z_tu z_la z_dl z_sh z_tb, wH cI cG (fun i => a (21 + i)) yc yp yg, wS cI (a 63) (a 64) (a 65) (a 66) (a 67) tx cm] : List va_W).flatten) out.1 (([[((a 0), .inr (5, [.ref (a 1), .ref (a 11), .ref (a 21), .ref (a 63)]))], wG cI (a 1) (a 2) (a 3) (a 4) (a 5) (a 6) (a 7) (a 8) (a 9) (a 10) g_ft g_er g_eb g_li g_st g_rd g_tu g_la g_dl g_sh g_tb, wG cI (a 11) (a 12) (a 13) (a 14) (a 15) (a 16) (a 17) (a 18) (a 19) (a 20) out.2.1 out.2.2.1 out.2.2.2.1 out.2.2.2.2.1 out.2.2.2.2.2.1 out.2.2.2.2.2.2.1 out.2.2.2.2.2.2.2.1 out.2.2.2.2.2.2.2.2.1 out.2.2.2.2.2.2.2.2.2.1 out.2.2.2.2.2.2.2.2.2.2.1 out.2.2.2.2.2.2.2.2.2.2.2, wH cI cG (fun i => a (21 + i)) yc yp yg, wS cI (a 63) (a 64) (a 65) (a 66) (a 67) tx cm] : List va_W).flatten) := by
  intro sz
  refine Met.ofW (cc := cX5_goneAfter) (maxL := 4) (ret := (some .int)) (by decide) rfl ?_
  intro p e s m args below meth c s₁ B hml hv
  obtain ⟨rfl, hsz, hP, hK, hD0⟩ := hv
  have hx := B.exec
  have hb := B.bytes
  have hr := B.returns
  have hts := atoms_spec (ws := wsX5_goneAfter) B.pre
  have hown : s.vm.findClass RX5 = some m.cls := findClass_of_methodNamed B.named
  have hlocks := B.notSynchronized
  subst hsz
  have hD := hD0.self (sz := s.heap.size)
  generalize hAe : va_A (([[((a 0), .inr (5, [.ref (a 1), .ref (a 11), .ref (a 21), .ref (a 63)]))], wG cI (a 1) (a 2) (a 3) (a 4) (a 5) (a 6) (a 7) (a 8) (a 9) (a 10) g_ft g_er g_eb g_li g_st g_rd g_tu g_la g_dl g_sh g_tb, wG cI (a 11) (a 12) (a 13) (a 14) (a 15) (a 16) (a 17) (a 18) (a 19) (a 20) z_ft z_er z_eb z_li z_st z_rd z_tu z_la z_dl z_sh z_tb, wH cI cG (fun i => a (21 + i)) yc yp yg, wS cI (a 63) (a 64) (a 65) (a 66) (a 67) tx cm] : List va_W).flatten) s.heap.size = A at hD ⊢
  have hA : ∀ q : Nat, s.heap.size ≤ q → A q := fun q h => by rw [← hAe]; exact Or.inr h
  have hS : va_S A s.heap s.heap [] := va_S.rf
  have hw0 := hts (.fieldLink RX5 10 "SpeedTurns" "game" "LSpeedTurns$Game;") (List.mem_of_getElem? (i := 5) rfl)
  have hw1 := hts (.fieldLink RX5 16 "SpeedTurns" "scratch" "LSpeedTurns$Game;") (List.mem_of_getElem? (i := 10) rfl)
  show W p l e ({ frames := 7, cells := 0, slots := 0, locals := 196 } : Room) s m _ below meth c s.heap [] 0 0 _ _
  refine W_genQ (fun Q hQ => ?_)
  have L34 : ∀ (z_eb : Int32) (z_st : Tab) (z_sh : Int32) (v2 : Int32) (k : Nat) (z_ft : Tab) (z_er : Tab) (z_li : Tab) (z_rd : Int32) (z_tu : Int32) (z_la : Int32) (z_dl : Bool) (z_tb : Int32) (v3 : Int32) (H : Heap) (locs : List Loc) (ls : Array Slot), fX5_goneAfter_L34 fu g_ft g_er g_eb g_li g_st g_rd g_tu g_la g_dl g_sh g_tb z_eb z_st z_sh v2 k z_ft z_er z_li z_rd z_tu z_la z_dl z_tb v3 = some out → va_P G vwCl (([[((a 0), .inr (5, [.ref (a 1), .ref (a 11), .ref (a 21), .ref (a 63)]))], wG cI (a 1) (a 2) (a 3) (a 4) (a 5) (a 6) (a 7) (a 8) (a 9) (a 10) g_ft g_er g_eb g_li g_st g_rd g_tu g_la g_dl g_sh g_tb, wG cI (a 11) (a 12) (a 13) (a 14) (a 15) (a 16) (a 17) (a 18) (a 19) (a 20) z_ft z_er z_eb z_li z_st z_rd z_tu z_la z_dl z_sh z_tb, wH cI cG (fun i => a (21 + i)) yc yp yg, wS cI (a 63) (a 64) (a 65) (a 66) (a 67) tx cm] : List va_W).flatten) H → va_D A (([[((a 0), .inr (5, [.ref (a 1), .ref (a 11), .ref (a 21), .ref (a 63)]))], wG cI (a 1) (a 2) (a 3) (a 4) (a 5) (a 6) (a 7) (a 8) (a 9) (a 10) g_ft g_er g_eb g_li g_st g_rd g_tu g_la g_dl g_sh g_tb, wG cI (a 11) (a 12) (a 13) (a 14) (a 15) (a 16) (a 17) (a 18) (a 19) (a 20) z_ft z_er z_eb z_li z_st z_rd z_tu z_la z_dl z_sh z_tb, wH cI cG (fun i => a (21 + i)) yc yp yg, wS cI (a 63) (a 64) (a 65) (a 66) (a 67) tx cm] : List va_W).flatten) → va_S A s.heap H locs → lv_has ls 4 [(0, .ref (a 0)), (2, .int v2), (3, .int v3)] → W p l e ({ frames := 7, cells := 0, slots := 0, locals := 196 } : Room) s m ([.ref (a 0), .int p1] : List Value).toArray below meth c H locs 0 0 Q (F0 m 34 ls []) := by
    intro z_eb z_st z_sh v2 k
    induction k with
    | zero => intro z_ft z_er z_li z_rd z_tu z_la z_dl z_tb v3 H locs ls h hP hD hS hl; rw [fX5_goneAfter_L34] at h; exact o_n h
    | succ k ih =>
      intro z_ft z_er z_li z_rd z_tu z_la z_dl z_tb v3 H locs ls h hP hD hS hl
      rw [fX5_goneAfter_L34] at h
      refine lv_iload_n hx hb dX5_goneAfter_34 rfl (lv_at hl 2 rfl) ?_
      refine lv_bipush (v := 60) hx hb dX5_goneAfter_35 (by decide) ?_
      refine lv_icmp_gt (tgt := 67) hx hb dX5_goneAfter_37 (by decide) (fun hc => ?_) (fun hc => ?_)
      · have h := o_t h hc
        refine lv_iconst (v := (-1)) hx hb dX5_goneAfter_67 (by decide) ?_
        obtain rfl := o_s h
        rw [hQ]
        exact end_i hx hb hr rfl hP hD hS dX5_goneAfter_68 hlocks
      · have h := o_f h hc
        refine lv_aload_n hx hb dX5_goneAfter_40 rfl (lv_at hl 0 rfl) ?_
        refine va_get (D := G) (ci := 5) (v := .ref (a 11)) (C := RX5) (T := TX5) (N := 4) hx hb hts huX5_goneAfter_X5 hown hK.1 hP 0 rfl rfl 1 (by decide) hw1 (fun _ h9 => h9) rfl dX5_goneAfter_41 ?_
        refine lv_iload_n hx hb dX5_goneAfter_44 rfl (lv_at hl 1 rfl) ?_
        obtain ⟨x5, ex5, h⟩ := o_b h
        refine bcall_iV (As := [.int v2]) (rest := []) (c0 := [wG cI (a 11) (a 12) (a 13) (a 14) (a 15) (a 16) (a 17) (a 18) (a 19) (a 20) z_ft z_er z_eb z_li z_st z_rd z_tu z_la z_dl z_sh z_tb]) (c1 := [wG cI (a 11) (a 12) (a 13) (a 14) (a 15) (a 16) (a 17) (a 18) (a 19) (a 20) z_ft z_er z_eb z_li z_st z_rd z_tu z_la z_dl z_sh z_tb]) (bs2 := [[((a 0), .inr (5, [.ref (a 1), .ref (a 11), .ref (a 21), .ref (a 63)]))], wG cI (a 1) (a 2) (a 3) (a 4) (a 5) (a 6) (a 7) (a 8) (a 9) (a 10) g_ft g_er g_eb g_li g_st g_rd g_tu g_la g_dl g_sh g_tb, wG cI (a 11) (a 12) (a 13) (a 14) (a 15) (a 16) (a 17) (a 18) (a 19) (a 20) z_ft z_er z_eb z_li z_st z_rd z_tu z_la z_dl z_sh z_tb, wH cI cG (fun i => a (21 + i)) yc yp yg, wS cI (a 63) (a 64) (a 65) (a 66) (a 67) tx cm]) ⟨hx, hb, hml, hown, hts⟩ (cX1_hasEffectBorn_ok l G cI cG (a 11) (a 12) (a 13) (a 14) (a 15) (a 16) (a 17) (a 18) (a 19) (a 20) fu z_ft z_er z_eb z_li z_st z_rd z_tu z_la z_dl z_sh z_tb v2 x5 ex5) (cwV 1 hts gX5_goneAfter_X1_hasEffectBorn_168 rfl rfl rfl hdX1_hasEffectBorn ⟨Nat.le_of_ble_eq_true rfl, Nat.le_of_ble_eq_true rfl⟩) hP hD hS hA hK 1 rfl rfl rfl [2] rfl rfl rfl rfl rfl rfl rfl rfl rfl hl.1 (Nat.le_of_ble_eq_true rfl) dX5_goneAfter_45 ⟨Nat.zero_le _, Nat.zero_le _⟩ (fun H locs hP hD hS => ?_)
        refine lv_if_ne (tgt := 53) hx hb dX5_goneAfter_48 (by decide) (fun hc => ?_) (fun hc => ?_)
        · have h := o_f h hc
          refine lv_aload_n hx hb dX5_goneAfter_53 rfl (lv_at hl 0 rfl) ?_
          refine va_get (D := G) (ci := 5) (v := .ref (a 11)) (C := RX5) (T := TX5) (N := 4) hx hb hts huX5_goneAfter_X5 hown hK.1 hP 0 rfl rfl 1 (by decide) hw1 (fun _ h9 => h9) rfl dX5_goneAfter_54 ?_
          obtain ⟨x6, ex6, h⟩ := o_b h
          refine bcall_iV (As := []) (rest := []) (c0 := [wG cI (a 11) (a 12) (a 13) (a 14) (a 15) (a 16) (a 17) (a 18) (a 19) (a 20) z_ft z_er z_eb z_li z_st z_rd z_tu z_la z_dl z_sh z_tb]) (c1 := [wG cI (a 11) (a 12) (a 13) (a 14) (a 15) (a 16) (a 17) (a 18) (a 19) (a 20) x6.2.1 x6.2.2.1 z_eb x6.2.2.2.1 z_st x6.2.2.2.2.1 x6.2.2.2.2.2.1 x6.2.2.2.2.2.2.1 x6.2.2.2.2.2.2.2.1 z_sh x6.2.2.2.2.2.2.2.2]) (bs2 := [[((a 0), .inr (5, [.ref (a 1), .ref (a 11), .ref (a 21), .ref (a 63)]))], wG cI (a 1) (a 2) (a 3) (a 4) (a 5) (a 6) (a 7) (a 8) (a 9) (a 10) g_ft g_er g_eb g_li g_st g_rd g_tu g_la g_dl g_sh g_tb, wG cI (a 11) (a 12) (a 13) (a 14) (a 15) (a 16) (a 17) (a 18) (a 19) (a 20) x6.2.1 x6.2.2.1 z_eb x6.2.2.2.1 z_st x6.2.2.2.2.1 x6.2.2.2.2.2.1 x6.2.2.2.2.2.2.1 x6.2.2.2.2.2.2.2.1 z_sh x6.2.2.2.2.2.2.2.2, wH cI cG (fun i => a (21 + i)) yc yp yg, wS cI (a 63) (a 64) (a 65) (a 66) (a 67) tx cm]) ⟨hx, hb, hml, hown, hts⟩ (cX1_passTurn_ok l G cI cG (a 11) (a 12) (a 13) (a 14) (a 15) (a 16) (a 17) (a 18) (a 19) (a 20) fu z_ft z_er z_eb z_li z_st z_rd z_tu z_la z_dl z_sh z_tb x6 ex6) (cwV 0 hts gX5_goneAfter_X1_passTurn_162 rfl rfl rfl hdX1_passTurn ⟨Nat.le_of_ble_eq_true rfl, Nat.le_of_ble_eq_true rfl⟩) hP hD hS hA hK 1 rfl rfl rfl [2] rfl rfl rfl rfl rfl rfl rfl rfl rfl hl.1 (Nat.le_of_ble_eq_true rfl) dX5_goneAfter_57 ⟨Nat.zero_le _, Nat.zero_le _⟩ (fun H locs hP hD hS => ?_)
          refine lv_pop hx hb dX5_goneAfter_60 rfl ?_
          refine lv_iinc (v := (v3 + 1)) (lv' := [(3, .int (v3 + 1)), (0, .ref (a 0)), (2, .int v2)]) hx hb dX5_goneAfter_61 hl (k := 2) rfl rfl (by decide) rfl (fun ls hl => ?_)
          refine lv_goto (tgt := 34) hx hb dX5_goneAfter_64 (by decide) ?_
          exact ih x6.2.1 x6.2.2.1 x6.2.2.2.1 x6.2.2.2.2.1 x6.2.2.2.2.2.1 x6.2.2.2.2.2.2.1 x6.2.2.2.2.2.2.2.1 x6.2.2.2.2.2.2.2.2 (v3 + 1) _ _ _ h hP hD hS (lv_sub hl [1, 2, 0] rfl)
        · have h := o_t h hc
          refine lv_iload_n hx hb dX5_goneAfter_51 rfl (lv_at hl 2 rfl) ?_
          obtain rfl := o_s h
          rw [hQ]
          exact end_i hx hb hr rfl hP hD hS dX5_goneAfter_52 hlocks
  have h := hf
  rw [fX5_goneAfter] at h
  have hl := lv_entry ([.ref (a 0), .int p1]) (n := 4) (Nat.le_of_ble_eq_true rfl)
  rw [lg_entry_eq]
  generalize (lg_sl ([.ref (a 0), .int p1]) ++ List.replicate (4 - (lg_sl ([.ref (a 0), .int p1])).length) Slot.unset).toArray = ls at hl ⊢
  have hl : lv_has ls 4 [(0, .ref (a 0)), (1, .int p1)] := hl
  refine lv_aload_n hx hb dX5_goneAfter_0 rfl (lv_at hl 0 rfl) ?_
  refine lv_iload_n hx hb dX5_goneAfter_1 rfl (lv_at hl 1 rfl) ?_
  obtain ⟨x1, ex1, h⟩ := o_b h
  refine bcall_vV (As := [.int p1]) (rest := []) (c0 := [[((a 0), .inr (5, [.ref (a 1), .ref (a 11), .ref (a 21), .ref (a 63)]))], wG cI (a 1) (a 2) (a 3) (a 4) (a 5) (a 6) (a 7) (a 8) (a 9) (a 10) g_ft g_er g_eb g_li g_st g_rd g_tu g_la g_dl g_sh g_tb, wG cI (a 11) (a 12) (a 13) (a 14) (a 15) (a 16) (a 17) (a 18) (a 19) (a 20) z_ft z_er z_eb z_li z_st z_rd z_tu z_la z_dl z_sh z_tb, wH cI cG (fun i => a (21 + i)) yc yp yg, wS cI (a 63) (a 64) (a 65) (a 66) (a 67) tx cm]) (c1 := [[((a 0), .inr (5, [.ref (a 1), .ref (a 11), .ref (a 21), .ref (a 63)]))], wG cI (a 1) (a 2) (a 3) (a 4) (a 5) (a 6) (a 7) (a 8) (a 9) (a 10) g_ft g_er g_eb g_li g_st g_rd g_tu g_la g_dl g_sh g_tb, wG cI (a 11) (a 12) (a 13) (a 14) (a 15) (a 16) (a 17) (a 18) (a 19) (a 20) z_ft z_er z_eb z_li z_st z_rd z_tu z_la z_dl z_sh z_tb, wH cI cG (fun i => a (21 + i)) yc yp yg, wS cI (a 63) (a 64) (a 65) (a 66) (a 67) tx cm]) (bs2 := [[((a 0), .inr (5, [.ref (a 1), .ref (a 11), .ref (a 21), .ref (a 63)]))], wG cI (a 1) (a 2) (a 3) (a 4) (a 5) (a 6) (a 7) (a 8) (a 9) (a 10) g_ft g_er g_eb g_li g_st g_rd g_tu g_la g_dl g_sh g_tb, wG cI (a 11) (a 12) (a 13) (a 14) (a 15) (a 16) (a 17) (a 18) (a 19) (a 20) z_ft z_er z_eb z_li z_st z_rd z_tu z_la z_dl z_sh z_tb, wH cI cG (fun i => a (21 + i)) yc yp yg, wS cI (a 63) (a 64) (a 65) (a 66) (a 67) tx cm]) ⟨hx, hb, hml, hown, hts⟩ (cX5_requireEffect_ok l G cI cG a g_ft g_er g_eb g_li g_st g_rd g_tu g_la g_dl g_sh g_tb z_ft z_er z_eb z_li z_st z_rd z_tu z_la z_dl z_sh z_tb yc yp yg tx cm p1 x1 ex1) (cwV 1 hts gX5_goneAfter_X5_requireEffect_79 rfl rfl rfl hdX5_requireEffect ⟨Nat.le_of_ble_eq_true rfl, Nat.le_of_ble_eq_true rfl⟩) hP hD hS hA hK 5 rfl rfl rfl [0, 1, 2, 3, 4] rfl rfl rfl rfl rfl rfl rfl rfl rfl hl.1 (Nat.le_of_ble_eq_true rfl) dX5_goneAfter_2 ⟨Nat.zero_le _, Nat.zero_le _⟩ (fun H locs hP hD hS => ?_)
  refine lv_aload_n hx hb dX5_goneAfter_5 rfl (lv_at hl 0 rfl) ?_
  refine va_get (D := G) (ci := 5) (v := .ref (a 1)) (C := RX5) (T := TX5) (N := 4) hx hb hts huX5_goneAfter_X5 hown hK.1 hP 0 rfl rfl 0 (by decide) hw0 (fun _ h9 => h9) rfl dX5_goneAfter_6 ?_
  refine lv_iload_n hx hb dX5_goneAfter_9 rfl (lv_at hl 1 rfl) ?_
  obtain ⟨x2, ex2, h⟩ := o_b h
  refine bcall_iV (As := [.int p1]) (rest := []) (c0 := [wG cI (a 1) (a 2) (a 3) (a 4) (a 5) (a 6) (a 7) (a 8) (a 9) (a 10) g_ft g_er g_eb g_li g_st g_rd g_tu g_la g_dl g_sh g_tb]) (c1 := [wG cI (a 1) (a 2) (a 3) (a 4) (a 5) (a 6) (a 7) (a 8) (a 9) (a 10) g_ft g_er g_eb g_li g_st g_rd g_tu g_la g_dl g_sh g_tb]) (bs2 := [[((a 0), .inr (5, [.ref (a 1), .ref (a 11), .ref (a 21), .ref (a 63)]))], wG cI (a 1) (a 2) (a 3) (a 4) (a 5) (a 6) (a 7) (a 8) (a 9) (a 10) g_ft g_er g_eb g_li g_st g_rd g_tu g_la g_dl g_sh g_tb, wG cI (a 11) (a 12) (a 13) (a 14) (a 15) (a 16) (a 17) (a 18) (a 19) (a 20) z_ft z_er z_eb z_li z_st z_rd z_tu z_la z_dl z_sh z_tb, wH cI cG (fun i => a (21 + i)) yc yp yg, wS cI (a 63) (a 64) (a 65) (a 66) (a 67) tx cm]) ⟨hx, hb, hml, hown, hts⟩ (cX1_birthOf_ok l G cI cG (a 1) (a 2) (a 3) (a 4) (a 5) (a 6) (a 7) (a 8) (a 9) (a 10) g_ft g_er g_eb g_li g_st g_rd g_tu g_la g_dl g_sh g_tb p1 x2 ex2) (cwV 1 hts gX5_goneAfter_X1_birthOf_165 rfl rfl rfl hdX1_birthOf ⟨Nat.le_of_ble_eq_true rfl, Nat.le_of_ble_eq_true rfl⟩) hP hD hS hA hK 1 rfl rfl rfl [1] rfl rfl rfl rfl rfl rfl rfl rfl rfl hl.1 (Nat.le_of_ble_eq_true rfl) dX5_goneAfter_10 ⟨Nat.zero_le _, Nat.zero_le _⟩ (fun H locs hP hD hS => ?_)
  refine lv_istore_n (lv' := [(2, .int x2), (0, .ref (a 0)), (1, .int p1)]) hx hb dX5_goneAfter_13 rfl hl (by decide) rfl (fun ls hl => ?_)
  refine lv_aload_n hx hb dX5_goneAfter_14 rfl (lv_at hl 1 rfl) ?_
  refine va_get (D := G) (ci := 5) (v := .ref (a 11)) (C := RX5) (T := TX5) (N := 4) hx hb hts huX5_goneAfter_X5 hown hK.1 hP 0 rfl rfl 1 (by decide) hw1 (fun _ h9 => h9) rfl dX5_goneAfter_15 ?_
  refine lv_aload_n hx hb dX5_goneAfter_18 rfl (lv_at hl 1 rfl) ?_
  refine va_get (D := G) (ci := 5) (v := .ref (a 1)) (C := RX5) (T := TX5) (N := 4) hx hb hts huX5_goneAfter_X5 hown hK.1 hP 0 rfl rfl 0 (by decide) hw0 (fun _ h9 => h9) rfl dX5_goneAfter_19 ?_
  obtain ⟨x3, ex3, h⟩ := o_b h
  refine bcall_vV (As := [.ref (a 1)]) (rest := []) (c0 := [wG cI (a 11) (a 12) (a 13) (a 14) (a 15) (a 16) (a 17) (a 18) (a 19) (a 20) z_ft z_er z_eb z_li z_st z_rd z_tu z_la z_dl z_sh z_tb, wG cI (a 1) (a 2) (a 3) (a 4) (a 5) (a 6) (a 7) (a 8) (a 9) (a 10) g_ft g_er g_eb g_li g_st g_rd g_tu g_la g_dl g_sh g_tb]) (c1 := [wG cI (a 11) (a 12) (a 13) (a 14) (a 15) (a 16) (a 17) (a 18) (a 19) (a 20) x3.1 x3.2.1 x3.2.2.1 x3.2.2.2.1 x3.2.2.2.2.1 x3.2.2.2.2.2.1 x3.2.2.2.2.2.2.1 x3.2.2.2.2.2.2.2.1 x3.2.2.2.2.2.2.2.2.1 x3.2.2.2.2.2.2.2.2.2.1 x3.2.2.2.2.2.2.2.2.2.2, wG cI (a 1) (a 2) (a 3) (a 4) (a 5) (a 6) (a 7) (a 8) (a 9) (a 10) g_ft g_er g_eb g_li g_st g_rd g_tu g_la g_dl g_sh g_tb]) (bs2 := [[((a 0), .inr (5, [.ref (a 1), .ref (a 11), .ref (a 21), .ref (a 63)]))], wG cI (a 1) (a 2) (a 3) (a 4) (a 5) (a 6) (a 7) (a 8) (a 9) (a 10) g_ft g_er g_eb g_li g_st g_rd g_tu g_la g_dl g_sh g_tb, wG cI (a 11) (a 12) (a 13) (a 14) (a 15) (a 16) (a 17) (a 18) (a 19) (a 20) x3.1 x3.2.1 x3.2.2.1 x3.2.2.2.1 x3.2.2.2.2.1 x3.2.2.2.2.2.1 x3.2.2.2.2.2.2.1 x3.2.2.2.2.2.2.2.1 x3.2.2.2.2.2.2.2.2.1 x3.2.2.2.2.2.2.2.2.2.1 x3.2.2.2.2.2.2.2.2.2.2, wH cI cG (fun i => a (21 + i)) yc yp yg, wS cI (a 63) (a 64) (a 65) (a 66) (a 67) tx cm]) ⟨hx, hb, hml, hown, hts⟩ (cX1_copyFrom_ok l G cI cG (a 11) (a 12) (a 13) (a 14) (a 15) (a 16) (a 17) (a 18) (a 19) (a 20) (a 1) (a 2) (a 3) (a 4) (a 5) (a 6) (a 7) (a 8) (a 9) (a 10) z_ft z_er z_eb z_li z_st z_rd z_tu z_la z_dl z_sh z_tb g_ft g_er g_eb g_li g_st g_rd g_tu g_la g_dl g_sh g_tb x3 ex3) (cwV 1 hts gX5_goneAfter_X1_copyFrom_156 rfl rfl rfl hdX1_copyFrom ⟨Nat.le_of_ble_eq_true rfl, Nat.le_of_ble_eq_true rfl⟩) hP hD hS hA hK 1 rfl rfl rfl [2, 1] rfl rfl rfl rfl rfl rfl rfl rfl rfl hl.1 (Nat.le_of_ble_eq_true rfl) dX5_goneAfter_22 ⟨Nat.zero_le _, Nat.zero_le _⟩ (fun H locs hP hD hS => ?_)
  refine lv_aload_n hx hb dX5_goneAfter_25 rfl (lv_at hl 1 rfl) ?_
  refine va_get (D := G) (ci := 5) (v := .ref (a 11)) (C := RX5) (T := TX5) (N := 4) hx hb hts huX5_goneAfter_X5 hown hK.1 hP 0 rfl rfl 1 (by decide) hw1 (fun _ h9 => h9) rfl dX5_goneAfter_26 ?_
  obtain ⟨x4, ex4, h⟩ := o_b h
  refine bcall_vV (As := []) (rest := []) (c0 := [wG cI (a 11) (a 12) (a 13) (a 14) (a 15) (a 16) (a 17) (a 18) (a 19) (a 20) x3.1 x3.2.1 x3.2.2.1 x3.2.2.2.1 x3.2.2.2.2.1 x3.2.2.2.2.2.1 x3.2.2.2.2.2.2.1 x3.2.2.2.2.2.2.2.1 x3.2.2.2.2.2.2.2.2.1 x3.2.2.2.2.2.2.2.2.2.1 x3.2.2.2.2.2.2.2.2.2.2]) (c1 := [wG cI (a 11) (a 12) (a 13) (a 14) (a 15) (a 16) (a 17) (a 18) (a 19) (a 20) x3.1 x4.1 x3.2.2.1 x3.2.2.2.1 x4.2.1 x3.2.2.2.2.2.1 x4.2.2 x3.2.2.2.2.2.2.2.1 x3.2.2.2.2.2.2.2.2.1 x3.2.2.2.2.2.2.2.2.2.1 x3.2.2.2.2.2.2.2.2.2.2]) (bs2 := [[((a 0), .inr (5, [.ref (a 1), .ref (a 11), .ref (a 21), .ref (a 63)]))], wG cI (a 1) (a 2) (a 3) (a 4) (a 5) (a 6) (a 7) (a 8) (a 9) (a 10) g_ft g_er g_eb g_li g_st g_rd g_tu g_la g_dl g_sh g_tb, wG cI (a 11) (a 12) (a 13) (a 14) (a 15) (a 16) (a 17) (a 18) (a 19) (a 20) x3.1 x4.1 x3.2.2.1 x3.2.2.2.1 x4.2.1 x3.2.2.2.2.2.1 x4.2.2 x3.2.2.2.2.2.2.2.1 x3.2.2.2.2.2.2.2.2.1 x3.2.2.2.2.2.2.2.2.2.1 x3.2.2.2.2.2.2.2.2.2.2, wH cI cG (fun i => a (21 + i)) yc yp yg, wS cI (a 63) (a 64) (a 65) (a 66) (a 67) tx cm]) ⟨hx, hb, hml, hown, hts⟩ (cX1_abandonTurn_ok l G cI cG (a 11) (a 12) (a 13) (a 14) (a 15) (a 16) (a 17) (a 18) (a 19) (a 20) fu x3.1 x3.2.1 x3.2.2.1 x3.2.2.2.1 x3.2.2.2.2.1 x3.2.2.2.2.2.1 x3.2.2.2.2.2.2.1 x3.2.2.2.2.2.2.2.1 x3.2.2.2.2.2.2.2.2.1 x3.2.2.2.2.2.2.2.2.2.1 x3.2.2.2.2.2.2.2.2.2.2 x4 ex4) (cwV 0 hts gX5_goneAfter_X1_abandonTurn_159 rfl rfl rfl hdX1_abandonTurn ⟨Nat.le_of_ble_eq_true rfl, Nat.le_of_ble_eq_true rfl⟩) hP hD hS hA hK 1 rfl rfl rfl [2] rfl rfl rfl rfl rfl rfl rfl rfl rfl hl.1 (Nat.le_of_ble_eq_true rfl) dX5_goneAfter_29 ⟨Nat.zero_le _, Nat.zero_le _⟩ (fun H locs hP hD hS => ?_)
  refine lv_iconst (v := 0) hx hb dX5_goneAfter_32 (by decide) ?_
  refine lv_istore_n (lv' := [(3, .int (0 : Int32)), (2, .int x2), (0, .ref (a 0)), (1, .int p1)]) hx hb dX5_goneAfter_33 rfl hl (by decide) rfl (fun ls hl => ?_)
  exact L34 x3.2.2.1 x4.2.1 x3.2.2.2.2.2.2.2.2.2.1 x2 fu x3.1 x4.1 x3.2.2.2.1 x3.2.2.2.2.2.1 x4.2.2 x3.2.2.2.2.2.2.2.1 x3.2.2.2.2.2.2.2.2.1 x3.2.2.2.2.2.2.2.2.2.2 (0 : Int32) _ _ _ h hP hD hS (lv_sub hl [2, 1, 0] rfl)
theorem hdX5_lifeSettled : yX5_lifeSettled.cls = RX5 ∧ yX5_lifeSettled.cls ≠ "java/lang/invoke/MethodHandle" ∧ yX5_lifeSettled.cls ≠ "java/lang/invoke/VarHandle" ∧ (parseMethodDescriptor yX5_lifeSettled.desc).map (fun d => d.parameters.length) = some 0 := by decide +kernel
set_option maxHeartbeats 4000000 in
set_option maxRecDepth 100000 in
theorem cX5_lifeSettled_ok (l : Launch) (G : va_G) (cI cG : ClassId) (a : Nat → Nat) (fu : Nat) (g_ft : Tab) (g_er : Tab) (g_eb : Int32) (g_li : Tab) (g_st : Tab) (g_rd : Int32) (g_tu : Int32) (g_la : Int32) (g_dl : Bool) (g_sh : Int32) (g_tb : Int32) (z_ft : Tab) (z_er : Tab) (z_eb : Int32) (z_li : Tab) (z_st : Tab) (z_rd : Int32) (z_tu : Int32) (z_la : Int32) (z_dl : Bool) (z_sh : Int32) (z_tb : Int32) (yc : Int32) (yp : (Nat → Nat)) (yg : (Nat → GV)) (tx : Tab) (cm : Tab) (out : Int32 × Tab × Tab × Int32 × Tab × Tab × Int32 × Int32 × Int32 × Bool × Int32 × Int32) (hf : fX5_lifeSettled fu g_ft g_er g_eb g_li g_st g_rd g_tu g_la g_dl g_sh g_tb z_ft z_er z_eb z_li z_st z_rd z_tu z_la z_dl z_sh z_tb = some out) : CI l G (tyz cI cG) yX5_lifeSettled wsX5_lifeSettled ({ frames := 6, cells := 0, slots := 0, locals := 181 } : Room) [.ref (a 0)] (([[((a 0), .inr (5, [.ref (a 1), .ref (a 11), .ref (a 21), .ref (a 63)]))], wG cI (a 1) (a 2) (a 3) (a 4) (a 5) (a 6) (a 7) (a 8) (a 9) (a 10) g_ft g_er g_eb g_li g_st g_rd g_tu g_la g_dl g_sh g_tb, wG cI (a 11) (a 12) (a 13) (a 14) (a 15) (a 16) (a 17) (a 18) (a 19) (a 20) z_ft z_er z_eb z_li z_st z_rd z_tu z_la z_dl z_sh z_tb, wH cI cG (fun i => a (21 + i)) yc yp yg, wS cI (a 63) (a 64) (a 65) (a 66) (a 67) tx cm] : List va_W).flatten) out.1 (([[((a 0), .inr (5, [.ref (a 1), .ref (a 11), .ref (a 21), .ref (a 63)]))], wG cI (a 1) (a 2) (a 3) (a 4) (a 5) (a 6) (a 7) (a 8) (a 9) (a 10) g_ft g_er g_eb g_li g_st g_rd g_tu g_la g_dl g_sh g_tb, wG cI (a 11) (a 12) (a 13) (a 14) (a 15) (a 16) (a 17) (a 18) (a 19) (a 20) out.2.1 out.2.2.1 out.2.2.2.1 out.2.2.2.2.1 out.2.2.2.2.2.1 out.2.2.2.2.2.2.1 out.2.2.2.2.2.2.2.1 out.2.2.2.2.2.2.2.2.1 out.2.2.2.2.2.2.2.2.2.1 out.2.2.2.2.2.2.2.2.2.2.1 out.2.2.2.2.2.2.2.2.2.2.2, wH cI cG (fun i => a (21 + i)) yc yp yg, wS cI (a 63) (a 64) (a 65) (a 66) (a 67) tx cm] : List va_W).flatten) := by
  intro sz
  refine Met.ofW (cc := cX5_lifeSettled) (maxL := 1) (ret := (some .int)) (by decide) rfl ?_
  intro p e s m args below meth c s₁ B hml hv
  obtain ⟨rfl, hsz, hP, hK, hD0⟩ := hv
  have hx := B.exec
  have hb := B.bytes
  have hr := B.returns
  have hts := atoms_spec (ws := wsX5_lifeSettled) B.pre
  have hown : s.vm.findClass RX5 = some m.cls := findClass_of_methodNamed B.named
  have hlocks := B.notSynchronized
  subst hsz
  have hD := hD0.self (sz := s.heap.size)
  generalize hAe : va_A (([[((a 0), .inr (5, [.ref (a 1), .ref (a 11), .ref (a 21), .ref (a 63)]))], wG cI (a 1) (a 2) (a 3) (a 4) (a 5) (a 6) (a 7) (a 8) (a 9) (a 10) g_ft g_er g_eb g_li g_st g_rd g_tu g_la g_dl g_sh g_tb, wG cI (a 11) (a 12) (a 13) (a 14) (a 15) (a 16) (a 17) (a 18) (a 19) (a 20) z_ft z_er z_eb z_li z_st z_rd z_tu z_la z_dl z_sh z_tb, wH cI cG (fun i => a (21 + i)) yc yp yg, wS cI (a 63) (a 64) (a 65) (a 66) (a 67) tx cm] : List va_W).flatten) s.heap.size = A at hD ⊢
  have hA : ∀ q : Nat, s.heap.size ≤ q → A q := fun q h => by rw [← hAe]; exact Or.inr h
  have hS : va_S A s.heap s.heap [] := va_S.rf
  have hw0 := hts (.fieldLink RX5 16 "SpeedTurns" "scratch" "LSpeedTurns$Game;") (List.mem_of_getElem? (i := 1) rfl)
  have hw1 := hts (.fieldLink RX5 10 "SpeedTurns" "game" "LSpeedTurns$Game;") (List.mem_of_getElem? (i := 2) rfl)
  show W p l e ({ frames := 6, cells := 0, slots := 0, locals := 181 } : Room) s m _ below meth c s.heap [] 0 0 _ _
  refine W_genQ (fun Q hQ => ?_)
  have h := hf
  rw [fX5_lifeSettled] at h
  have hl := lv_entry ([.ref (a 0)]) (n := 1) (Nat.le_of_ble_eq_true rfl)
  rw [lg_entry_eq]
  generalize (lg_sl ([.ref (a 0)]) ++ List.replicate (1 - (lg_sl ([.ref (a 0)])).length) Slot.unset).toArray = ls at hl ⊢
  have hl : lv_has ls 1 [(0, .ref (a 0))] := hl
  refine lv_aload_n hx hb dX5_lifeSettled_0 rfl (lv_at hl 0 rfl) ?_
  refine va_get (D := G) (ci := 5) (v := .ref (a 11)) (C := RX5) (T := TX5) (N := 4) hx hb hts huX5_lifeSettled_X5 hown hK.1 hP 0 rfl rfl 1 (by decide) hw0 (fun _ h9 => h9) rfl dX5_lifeSettled_1 ?_
  refine lv_aload_n hx hb dX5_lifeSettled_4 rfl (lv_at hl 0 rfl) ?_
  refine va_get (D := G) (ci := 5) (v := .ref (a 1)) (C := RX5) (T := TX5) (N := 4) hx hb hts huX5_lifeSettled_X5 hown hK.1 hP 0 rfl rfl 0 (by decide) hw1 (fun _ h9 => h9) rfl dX5_lifeSettled_5 ?_
  obtain ⟨x1, ex1, h⟩ := o_b h
  refine bcall_vV (As := [.ref (a 1)]) (rest := []) (c0 := [wG cI (a 11) (a 12) (a 13) (a 14) (a 15) (a 16) (a 17) (a 18) (a 19) (a 20) z_ft z_er z_eb z_li z_st z_rd z_tu z_la z_dl z_sh z_tb, wG cI (a 1) (a 2) (a 3) (a 4) (a 5) (a 6) (a 7) (a 8) (a 9) (a 10) g_ft g_er g_eb g_li g_st g_rd g_tu g_la g_dl g_sh g_tb]) (c1 := [wG cI (a 11) (a 12) (a 13) (a 14) (a 15) (a 16) (a 17) (a 18) (a 19) (a 20) x1.1 x1.2.1 x1.2.2.1 x1.2.2.2.1 x1.2.2.2.2.1 x1.2.2.2.2.2.1 x1.2.2.2.2.2.2.1 x1.2.2.2.2.2.2.2.1 x1.2.2.2.2.2.2.2.2.1 x1.2.2.2.2.2.2.2.2.2.1 x1.2.2.2.2.2.2.2.2.2.2, wG cI (a 1) (a 2) (a 3) (a 4) (a 5) (a 6) (a 7) (a 8) (a 9) (a 10) g_ft g_er g_eb g_li g_st g_rd g_tu g_la g_dl g_sh g_tb]) (bs2 := [[((a 0), .inr (5, [.ref (a 1), .ref (a 11), .ref (a 21), .ref (a 63)]))], wG cI (a 1) (a 2) (a 3) (a 4) (a 5) (a 6) (a 7) (a 8) (a 9) (a 10) g_ft g_er g_eb g_li g_st g_rd g_tu g_la g_dl g_sh g_tb, wG cI (a 11) (a 12) (a 13) (a 14) (a 15) (a 16) (a 17) (a 18) (a 19) (a 20) x1.1 x1.2.1 x1.2.2.1 x1.2.2.2.1 x1.2.2.2.2.1 x1.2.2.2.2.2.1 x1.2.2.2.2.2.2.1 x1.2.2.2.2.2.2.2.1 x1.2.2.2.2.2.2.2.2.1 x1.2.2.2.2.2.2.2.2.2.1 x1.2.2.2.2.2.2.2.2.2.2, wH cI cG (fun i => a (21 + i)) yc yp yg, wS cI (a 63) (a 64) (a 65) (a 66) (a 67) tx cm]) ⟨hx, hb, hml, hown, hts⟩ (cX1_copyFrom_ok l G cI cG (a 11) (a 12) (a 13) (a 14) (a 15) (a 16) (a 17) (a 18) (a 19) (a 20) (a 1) (a 2) (a 3) (a 4) (a 5) (a 6) (a 7) (a 8) (a 9) (a 10) z_ft z_er z_eb z_li z_st z_rd z_tu z_la z_dl z_sh z_tb g_ft g_er g_eb g_li g_st g_rd g_tu g_la g_dl g_sh g_tb x1 ex1) (cwV 1 hts gX5_lifeSettled_X1_copyFrom_156 rfl rfl rfl hdX1_copyFrom ⟨Nat.le_of_ble_eq_true rfl, Nat.le_of_ble_eq_true rfl⟩) hP hD hS hA hK 1 rfl rfl rfl [2, 1] rfl rfl rfl rfl rfl rfl rfl rfl rfl hl.1 (Nat.le_of_ble_eq_true rfl) dX5_lifeSettled_8 ⟨Nat.zero_le _, Nat.zero_le _⟩ (fun H locs hP hD hS => ?_)
  refine lv_aload_n hx hb dX5_lifeSettled_11 rfl (lv_at hl 0 rfl) ?_
  refine va_get (D := G) (ci := 5) (v := .ref (a 11)) (C := RX5) (T := TX5) (N := 4) hx hb hts huX5_lifeSettled_X5 hown hK.1 hP 0 rfl rfl 1 (by decide) hw0 (fun _ h9 => h9) rfl dX5_lifeSettled_12 ?_
  obtain ⟨x2, ex2, h⟩ := o_b h
  refine bcall_iV (As := []) (rest := []) (c0 := [wG cI (a 11) (a 12) (a 13) (a 14) (a 15) (a 16) (a 17) (a 18) (a 19) (a 20) x1.1 x1.2.1 x1.2.2.1 x1.2.2.2.1 x1.2.2.2.2.1 x1.2.2.2.2.2.1 x1.2.2.2.2.2.2.1 x1.2.2.2.2.2.2.2.1 x1.2.2.2.2.2.2.2.2.1 x1.2.2.2.2.2.2.2.2.2.1 x1.2.2.2.2.2.2.2.2.2.2]) (c1 := [wG cI (a 11) (a 12) (a 13) (a 14) (a 15) (a 16) (a 17) (a 18) (a 19) (a 20) x2.2.1 x2.2.2.1 x2.2.2.2.1 x1.2.2.2.1 x2.2.2.2.2.1 x1.2.2.2.2.2.1 x2.2.2.2.2.2 x1.2.2.2.2.2.2.2.1 x1.2.2.2.2.2.2.2.2.1 x1.2.2.2.2.2.2.2.2.2.1 x1.2.2.2.2.2.2.2.2.2.2]) (bs2 := [[((a 0), .inr (5, [.ref (a 1), .ref (a 11), .ref (a 21), .ref (a 63)]))], wG cI (a 1) (a 2) (a 3) (a 4) (a 5) (a 6) (a 7) (a 8) (a 9) (a 10) g_ft g_er g_eb g_li g_st g_rd g_tu g_la g_dl g_sh g_tb, wG cI (a 11) (a 12) (a 13) (a 14) (a 15) (a 16) (a 17) (a 18) (a 19) (a 20) x2.2.1 x2.2.2.1 x2.2.2.2.1 x1.2.2.2.1 x2.2.2.2.2.1 x1.2.2.2.2.2.1 x2.2.2.2.2.2 x1.2.2.2.2.2.2.2.1 x1.2.2.2.2.2.2.2.2.1 x1.2.2.2.2.2.2.2.2.2.1 x1.2.2.2.2.2.2.2.2.2.2, wH cI cG (fun i => a (21 + i)) yc yp yg, wS cI (a 63) (a 64) (a 65) (a 66) (a 67) tx cm]) ⟨hx, hb, hml, hown, hts⟩ (cX1_settleStack_ok l G cI cG (a 11) (a 12) (a 13) (a 14) (a 15) (a 16) (a 17) (a 18) (a 19) (a 20) fu x1.1 x1.2.1 x1.2.2.1 x1.2.2.2.1 x1.2.2.2.2.1 x1.2.2.2.2.2.1 x1.2.2.2.2.2.2.1 x1.2.2.2.2.2.2.2.1 x1.2.2.2.2.2.2.2.2.1 x1.2.2.2.2.2.2.2.2.2.1 x1.2.2.2.2.2.2.2.2.2.2 x2 ex2) (cwV 0 hts gX5_lifeSettled_X1_settleStack_142 rfl rfl rfl hdX1_settleStack ⟨Nat.le_of_ble_eq_true rfl, Nat.le_of_ble_eq_true rfl⟩) hP hD hS hA hK 1 rfl rfl rfl [2] rfl rfl rfl rfl rfl rfl rfl rfl rfl hl.1 (Nat.le_of_ble_eq_true rfl) dX5_lifeSettled_15 ⟨Nat.zero_le _, Nat.zero_le _⟩ (fun H locs hP hD hS => ?_)
  refine lv_pop hx hb dX5_lifeSettled_18 rfl ?_
  refine lv_aload_n hx hb dX5_lifeSettled_19 rfl (lv_at hl 0 rfl) ?_
  refine va_get (D := G) (ci := 5) (v := .ref (a 11)) (C := RX5) (T := TX5) (N := 4) hx hb hts huX5_lifeSettled_X5 hown hK.1 hP 0 rfl rfl 1 (by decide) hw0 (fun _ h9 => h9) rfl dX5_lifeSettled_20 ?_
  obtain ⟨x3, ex3, h⟩ := o_b h
  refine bcall_iV (As := []) (rest := []) (c0 := [wG cI (a 11) (a 12) (a 13) (a 14) (a 15) (a 16) (a 17) (a 18) (a 19) (a 20) x2.2.1 x2.2.2.1 x2.2.2.2.1 x1.2.2.2.1 x2.2.2.2.2.1 x1.2.2.2.2.2.1 x2.2.2.2.2.2 x1.2.2.2.2.2.2.2.1 x1.2.2.2.2.2.2.2.2.1 x1.2.2.2.2.2.2.2.2.2.1 x1.2.2.2.2.2.2.2.2.2.2]) (c1 := [wG cI (a 11) (a 12) (a 13) (a 14) (a 15) (a 16) (a 17) (a 18) (a 19) (a 20) x2.2.1 x2.2.2.1 x2.2.2.2.1 x1.2.2.2.1 x2.2.2.2.2.1 x1.2.2.2.2.2.1 x2.2.2.2.2.2 x1.2.2.2.2.2.2.2.1 x1.2.2.2.2.2.2.2.2.1 x1.2.2.2.2.2.2.2.2.2.1 x1.2.2.2.2.2.2.2.2.2.2]) (bs2 := [[((a 0), .inr (5, [.ref (a 1), .ref (a 11), .ref (a 21), .ref (a 63)]))], wG cI (a 1) (a 2) (a 3) (a 4) (a 5) (a 6) (a 7) (a 8) (a 9) (a 10) g_ft g_er g_eb g_li g_st g_rd g_tu g_la g_dl g_sh g_tb, wG cI (a 11) (a 12) (a 13) (a 14) (a 15) (a 16) (a 17) (a 18) (a 19) (a 20) x2.2.1 x2.2.2.1 x2.2.2.2.1 x1.2.2.2.1 x2.2.2.2.2.1 x1.2.2.2.2.2.1 x2.2.2.2.2.2 x1.2.2.2.2.2.2.2.1 x1.2.2.2.2.2.2.2.2.1 x1.2.2.2.2.2.2.2.2.2.1 x1.2.2.2.2.2.2.2.2.2.2, wH cI cG (fun i => a (21 + i)) yc yp yg, wS cI (a 63) (a 64) (a 65) (a 66) (a 67) tx cm]) ⟨hx, hb, hml, hown, hts⟩ (cX1_lives_ok l G cI cG (a 11) (a 12) (a 13) (a 14) (a 15) (a 16) (a 17) (a 18) (a 19) (a 20) fu x2.2.1 x2.2.2.1 x2.2.2.2.1 x1.2.2.2.1 x2.2.2.2.2.1 x1.2.2.2.2.2.1 x2.2.2.2.2.2 x1.2.2.2.2.2.2.2.1 x1.2.2.2.2.2.2.2.2.1 x1.2.2.2.2.2.2.2.2.2.1 x1.2.2.2.2.2.2.2.2.2.2 x3 ex3) (cwV 0 hts gX5_lifeSettled_X1_lives_171 rfl rfl rfl hdX1_lives ⟨Nat.le_of_ble_eq_true rfl, Nat.le_of_ble_eq_true rfl⟩) hP hD hS hA hK 1 rfl rfl rfl [2] rfl rfl rfl rfl rfl rfl rfl rfl rfl hl.1 (Nat.le_of_ble_eq_true rfl) dX5_lifeSettled_23 ⟨Nat.zero_le _, Nat.zero_le _⟩ (fun H locs hP hD hS => ?_)
  obtain rfl := o_s h
  rw [hQ]
  exact end_i hx hb hr rfl hP hD hS dX5_lifeSettled_26 hlocks
theorem hdX5_carryOut : yX5_carryOut.cls = RX5 ∧ yX5_carryOut.cls ≠ "java/lang/invoke/MethodHandle" ∧ yX5_carryOut.cls ≠ "java/lang/invoke/VarHandle" ∧ (parseMethodDescriptor yX5_carryOut.desc).map (fun d => d.parameters.length) = some 0 := by decide +kernel
set_option maxHeartbeats 4000000 in
set_option maxRecDepth 100000 in
theorem cX5_carryOut_ok (l : Launch) (G : va_G) (cI cG : ClassId) (a : Nat → Nat) (fu : Nat) (g_ft : Tab) (g_er : Tab) (g_eb : Int32) (g_li : Tab) (g_st : Tab) (g_rd : Int32) (g_tu : Int32) (g_la : Int32) (g_dl : Bool) (g_sh : Int32) (g_tb : Int32) (z_ft : Tab) (z_er : Tab) (z_eb : Int32) (z_li : Tab) (z_st : Tab) (z_rd : Int32) (z_tu : Int32) (z_la : Int32) (z_dl : Bool) (z_sh : Int32) (z_tb : Int32) (yc : Int32) (yp : (Nat → Nat)) (yg : (Nat → GV)) (tx : Tab) (cm : Tab) (out : Int32 × Tab × Tab × Int32 × Tab × Tab × Int32 × Int32 × Int32 × Bool × Int32 × Int32 × Tab × Tab × Int32 × Tab × Tab × Int32 × Int32 × Int32 × Bool × Int32 × Int32 × Int32 × (Nat → Nat) × (Nat → GV) × Tab) (hf : fX5_carryOut fu g_ft g_er g_eb g_li g_st g_rd g_tu g_la g_dl g_sh g_tb z_ft z_er z_eb z_li z_st z_rd z_tu z_la z_dl z_sh z_tb yc yp yg tx cm = some out) : CI l G (tyz cI cG) yX5_carryOut wsX5_carryOut ({ frames := 7, cells := 0, slots := 0, locals := 206 } : Room) [.ref (a 0)] (([[((a 0), .inr (5, [.ref (a 1), .ref (a 11), .ref (a 21), .ref (a 63)]))], wG cI (a 1) (a 2) (a 3) (a 4) (a 5) (a 6) (a 7) (a 8) (a 9) (a 10) g_ft g_er g_eb g_li g_st g_rd g_tu g_la g_dl g_sh g_tb, wG cI (a 11) (a 12) (a 13) (a 14) (a 15) (a 16) (a 17) (a 18) (a 19) (a 20) z_ft z_er z_eb z_li z_st z_rd z_tu z_la z_dl z_sh z_tb, wH cI cG (fun i => a (21 + i)) yc yp yg, wS cI (a 63) (a 64) (a 65) (a 66) (a 67) tx cm] : List va_W).flatten) out.1 (([[((a 0), .inr (5, [.ref (a 1), .ref (a 11), .ref (a 21), .ref (a 63)]))], wG cI (a 1) (a 2) (a 3) (a 4) (a 5) (a 6) (a 7) (a 8) (a 9) (a 10) out.2.1 out.2.2.1 out.2.2.2.1 out.2.2.2.2.1 out.2.2.2.2.2.1 out.2.2.2.2.2.2.1 out.2.2.2.2.2.2.2.1 out.2.2.2.2.2.2.2.2.1 out.2.2.2.2.2.2.2.2.2.1 out.2.2.2.2.2.2.2.2.2.2.1 out.2.2.2.2.2.2.2.2.2.2.2.1, wG cI (a 11) (a 12) (a 13) (a 14) (a 15) (a 16) (a 17) (a 18) (a 19) (a 20) out.2.2.2.2.2.2.2.2.2.2.2.2.1 out.2.2.2.2.2.2.2.2.2.2.2.2.2.1 out.2.2.2.2.2.2.2.2.2.2.2.2.2.2.1 out.2.2.2.2.2.2.2.2.2.2.2.2.2.2.2.1 out.2.2.2.2.2.2.2.2.2.2.2.2.2.2.2.2.1 out.2.2.2.2.2.2.2.2.2.2.2.2.2.2.2.2.2.1 out.2.2.2.2.2.2.2.2.2.2.2.2.2.2.2.2.2.2.1 out.2.2.2.2.2.2.2.2.2.2.2.2.2.2.2.2.2.2.2.1 out.2.2.2.2.2.2.2.2.2.2.2.2.2.2.2.2.2.2.2.2.1 out.2.2.2.2.2.2.2.2.2.2.2.2.2.2.2.2.2.2.2.2.2.1 out.2.2.2.2.2.2.2.2.2.2.2.2.2.2.2.2.2.2.2.2.2.2.1, wH cI cG (fun i => a (21 + i)) out.2.2.2.2.2.2.2.2.2.2.2.2.2.2.2.2.2.2.2.2.2.2.2.1 out.2.2.2.2.2.2.2.2.2.2.2.2.2.2.2.2.2.2.2.2.2.2.2.2.1 out.2.2.2.2.2.2.2.2.2.2.2.2.2.2.2.2.2.2.2.2.2.2.2.2.2.1, wS cI (a 63) (a 64) (a 65) (a 66) (a 67) tx out.2.2.2.2.2.2.2.2.2.2.2.2.2.2.2.2.2.2.2.2.2.2.2.2.2.2] : List va_W).flatten) := by
  intro sz
  refine Met.ofW (cc := cX5_carryOut) (maxL := 3) (ret := (some .int)) (by decide) rfl ?_
  intro p e s m args below meth c s₁ B hml hv
  obtain ⟨rfl, hsz, hP, hK, hD0⟩ := hv
  have hx := B.exec
  have hb := B.bytes
  have hr := B.returns
  have hts := atoms_spec (ws := wsX5_carryOut) B.pre
  have hown : s.vm.findClass RX5 = some m.cls := findClass_of_methodNamed B.named
  have hlocks := B.notSynchronized
  subst hsz
  have hD := hD0.self (sz := s.heap.size)
  generalize hAe : va_A (([[((a 0), .inr (5, [.ref (a 1), .ref (a 11), .ref (a 21), .ref (a 63)]))], wG cI (a 1) (a 2) (a 3) (a 4) (a 5) (a 6) (a 7) (a 8) (a 9) (a 10) g_ft g_er g_eb g_li g_st g_rd g_tu g_la g_dl g_sh g_tb, wG cI (a 11) (a 12) (a 13) (a 14) (a 15) (a 16) (a 17) (a 18) (a 19) (a 20) z_ft z_er z_eb z_li z_st z_rd z_tu z_la z_dl z_sh z_tb, wH cI cG (fun i => a (21 + i)) yc yp yg, wS cI (a 63) (a 64) (a 65) (a 66) (a 67) tx cm] : List va_W).flatten) s.heap.size = A at hD ⊢
  have hA : ∀ q : Nat, s.heap.size ≤ q → A q := fun q h => by rw [← hAe]; exact Or.inr h
  have hS : va_S A s.heap s.heap [] := va_S.rf
  have hw0 := hts (.fieldLink RX5 29 "SpeedTurns" "script" "LSpeedTurns$Script;") (List.mem_of_getElem? (i := 1) rfl)
  have hw1 := hts (.fieldLink RX5 16 "SpeedTurns" "scratch" "LSpeedTurns$Game;") (List.mem_of_getElem? (i := 6) rfl)
  have hw2 := hts (.fieldLink RX5 10 "SpeedTurns" "game" "LSpeedTurns$Game;") (List.mem_of_getElem? (i := 7) rfl)
  have hw3 := hts (.fieldLink RX5 22 "SpeedTurns" "history" "LSpeedTurns$History;") (List.mem_of_getElem? (i := 15) rfl)
  show W p l e ({ frames := 7, cells := 0, slots := 0, locals := 206 } : Room) s m _ below meth c s.heap [] 0 0 _ _
  refine W_genQ (fun Q hQ => ?_)
  have L31 : ∀ (z_sh : Int32) (cm : Tab) (k : Nat) (z_ft : Tab) (z_er : Tab) (z_eb : Int32) (z_li : Tab) (z_st : Tab) (z_rd : Int32) (z_tu : Int32) (z_la : Int32) (z_dl : Bool) (z_tb : Int32) (v2 : Int32) (H : Heap) (locs : List Loc) (ls : Array Slot), fX5_carryOut_L31 fu g_ft g_er g_eb g_li g_st g_rd g_tu g_la g_dl g_sh g_tb yc yp yg tx z_sh cm k z_ft z_er z_eb z_li z_st z_rd z_tu z_la z_dl z_tb v2 = some out → va_P G vwCl (([[((a 0), .inr (5, [.ref (a 1), .ref (a 11), .ref (a 21), .ref (a 63)]))], wG cI (a 1) (a 2) (a 3) (a 4) (a 5) (a 6) (a 7) (a 8) (a 9) (a 10) g_ft g_er g_eb g_li g_st g_rd g_tu g_la g_dl g_sh g_tb, wG cI (a 11) (a 12) (a 13) (a 14) (a 15) (a 16) (a 17) (a 18) (a 19) (a 20) z_ft z_er z_eb z_li z_st z_rd z_tu z_la z_dl z_sh z_tb, wH cI cG (fun i => a (21 + i)) yc yp yg, wS cI (a 63) (a 64) (a 65) (a 66) (a 67) tx cm] : List va_W).flatten) H → va_D A (([[((a 0), .inr (5, [.ref (a 1), .ref (a 11), .ref (a 21), .ref (a 63)]))], wG cI (a 1) (a 2) (a 3) (a 4) (a 5) (a 6) (a 7) (a 8) (a 9) (a 10) g_ft g_er g_eb g_li g_st g_rd g_tu g_la g_dl g_sh g_tb, wG cI (a 11) (a 12) (a 13) (a 14) (a 15) (a 16) (a 17) (a 18) (a 19) (a 20) z_ft z_er z_eb z_li z_st z_rd z_tu z_la z_dl z_sh z_tb, wH cI cG (fun i => a (21 + i)) yc yp yg, wS cI (a 63) (a 64) (a 65) (a 66) (a 67) tx cm] : List va_W).flatten) → va_S A s.heap H locs → lv_has ls 3 [(0, .ref (a 0)), (2, .int v2)] → W p l e ({ frames := 7, cells := 0, slots := 0, locals := 206 } : Room) s m ([.ref (a 0)] : List Value).toArray below meth c H locs 0 0 Q (F0 m 31 ls []) := by
    intro z_sh cm k
    induction k with
    | zero => intro z_ft z_er z_eb z_li z_st z_rd z_tu z_la z_dl z_tb v2 H locs ls h hP hD hS hl; rw [fX5_carryOut_L31] at h; exact o_n h
    | succ k ih =>
      intro z_ft z_er z_eb z_li z_st z_rd z_tu z_la z_dl z_tb v2 H locs ls h hP hD hS hl
      rw [fX5_carryOut_L31] at h
      refine lv_iload_n hx hb dX5_carryOut_31 rfl (lv_at hl 1 rfl) ?_
      refine lv_aload_n hx hb dX5_carryOut_32 rfl (lv_at hl 0 rfl) ?_
      refine va_get (D := G) (ci := 5) (v := .ref (a 63)) (C := RX5) (T := TX5) (N := 4) hx hb hts huX5_carryOut_X5 hown hK.1 hP 0 rfl rfl 3 (by decide) hw0 (fun _ h9 => h9) rfl dX5_carryOut_33 ?_
      obtain ⟨x3, ex3, h⟩ := o_b h
      refine bcall_iV (As := []) (rest := [.int v2]) (c0 := [wS cI (a 63) (a 64) (a 65) (a 66) (a 67) tx cm]) (c1 := [wS cI (a 63) (a 64) (a 65) (a 66) (a 67) tx cm]) (bs2 := [[((a 0), .inr (5, [.ref (a 1), .ref (a 11), .ref (a 21), .ref (a 63)]))], wG cI (a 1) (a 2) (a 3) (a 4) (a 5) (a 6) (a 7) (a 8) (a 9) (a 10) g_ft g_er g_eb g_li g_st g_rd g_tu g_la g_dl g_sh g_tb, wG cI (a 11) (a 12) (a 13) (a 14) (a 15) (a 16) (a 17) (a 18) (a 19) (a 20) z_ft z_er z_eb z_li z_st z_rd z_tu z_la z_dl z_sh z_tb, wH cI cG (fun i => a (21 + i)) yc yp yg, wS cI (a 63) (a 64) (a 65) (a 66) (a 67) tx cm]) ⟨hx, hb, hml, hown, hts⟩ (cX3_commandCount_ok l G cI cG (a 63) (a 64) (a 65) (a 66) (a 67) tx cm x3 ex3) (cwV 0 hts gX5_carryOut_X3_commandCount_189 rfl rfl rfl hdX3_commandCount ⟨Nat.le_of_ble_eq_true rfl, Nat.le_of_ble_eq_true rfl⟩) hP hD hS hA hK 3 rfl rfl rfl [4] rfl rfl rfl rfl rfl rfl rfl rfl rfl hl.1 (Nat.le_of_ble_eq_true rfl) dX5_carryOut_36 ⟨Nat.zero_le _, Nat.zero_le _⟩ (fun H locs hP hD hS => ?_)
      refine lv_icmp_ge (tgt := 69) hx hb dX5_carryOut_39 (by decide) (fun hc => ?_) (fun hc => ?_)
      · have h := o_t h hc
        refine lv_aload_n hx hb dX5_carryOut_69 rfl (lv_at hl 0 rfl) ?_
        refine va_get (D := G) (ci := 5) (v := .ref (a 21)) (C := RX5) (T := TX5) (N := 4) hx hb hts huX5_carryOut_X5 hown hK.1 hP 0 rfl rfl 2 (by decide) hw3 (fun _ h9 => h9) rfl dX5_carryOut_70 ?_
        refine lv_aload_n hx hb dX5_carryOut_73 rfl (lv_at hl 0 rfl) ?_
        refine va_get (D := G) (ci := 5) (v := .ref (a 1)) (C := RX5) (T := TX5) (N := 4) hx hb hts huX5_carryOut_X5 hown hK.1 hP 0 rfl rfl 0 (by decide) hw2 (fun _ h9 => h9) rfl dX5_carryOut_74 ?_
        obtain ⟨x4, ex4, h⟩ := o_b h
        refine bcall_vV (As := [.ref (a 1)]) (rest := []) (c0 := [wH cI cG (fun i => a (21 + i)) yc yp yg, wG cI (a 1) (a 2) (a 3) (a 4) (a 5) (a 6) (a 7) (a 8) (a 9) (a 10) g_ft g_er g_eb g_li g_st g_rd g_tu g_la g_dl g_sh g_tb]) (c1 := [wH cI cG (fun i => a (21 + i)) x4.1 x4.2.1 x4.2.2, wG cI (a 1) (a 2) (a 3) (a 4) (a 5) (a 6) (a 7) (a 8) (a 9) (a 10) g_ft g_er g_eb g_li g_st g_rd g_tu g_la g_dl g_sh g_tb]) (bs2 := [[((a 0), .inr (5, [.ref (a 1), .ref (a 11), .ref (a 21), .ref (a 63)]))], wG cI (a 1) (a 2) (a 3) (a 4) (a 5) (a 6) (a 7) (a 8) (a 9) (a 10) g_ft g_er g_eb g_li g_st g_rd g_tu g_la g_dl g_sh g_tb, wG cI (a 11) (a 12) (a 13) (a 14) (a 15) (a 16) (a 17) (a 18) (a 19) (a 20) z_ft z_er z_eb z_li z_st z_rd z_tu z_la z_dl z_sh z_tb, wH cI cG (fun i => a (21 + i)) x4.1 x4.2.1 x4.2.2, wS cI (a 63) (a 64) (a 65) (a 66) (a 67) tx cm]) ⟨hx, hb, hml, hown, hts⟩ (cX2_save_ok l G cI cG (fun i => a (21 + i)) (a 1) (a 2) (a 3) (a 4) (a 5) (a 6) (a 7) (a 8) (a 9) (a 10) fu yc yp yg g_ft g_er g_eb g_li g_st g_rd g_tu g_la g_dl g_sh g_tb x4 ex4) (cwV 1 hts gX5_carryOut_X2_save_53 rfl rfl rfl hdX2_save ⟨Nat.le_of_ble_eq_true rfl, Nat.le_of_ble_eq_true rfl⟩) hP hD hS hA hK 2 rfl rfl rfl [3, 1] rfl rfl rfl rfl rfl rfl rfl rfl rfl hl.1 (Nat.le_of_ble_eq_true rfl) dX5_carryOut_77 ⟨Nat.zero_le _, Nat.zero_le _⟩ (fun H locs hP hD hS => ?_)
        refine lv_aload_n hx hb dX5_carryOut_80 rfl (lv_at hl 0 rfl) ?_
        refine va_get (D := G) (ci := 5) (v := .ref (a 1)) (C := RX5) (T := TX5) (N := 4) hx hb hts huX5_carryOut_X5 hown hK.1 hP 0 rfl rfl 0 (by decide) hw2 (fun _ h9 => h9) rfl dX5_carryOut_81 ?_
        refine lv_aload_n hx hb dX5_carryOut_84 rfl (lv_at hl 0 rfl) ?_
        refine va_get (D := G) (ci := 5) (v := .ref (a 11)) (C := RX5) (T := TX5) (N := 4) hx hb hts huX5_carryOut_X5 hown hK.1 hP 0 rfl rfl 1 (by decide) hw1 (fun _ h9 => h9) rfl dX5_carryOut_85 ?_
        obtain ⟨x5, ex5, h⟩ := o_b h
        refine bcall_vV (As := [.ref (a 11)]) (rest := []) (c0 := [wG cI (a 1) (a 2) (a 3) (a 4) (a 5) (a 6) (a 7) (a 8) (a 9) (a 10) g_ft g_er g_eb g_li g_st g_rd g_tu g_la g_dl g_sh g_tb, wG cI (a 11) (a 12) (a 13) (a 14) (a 15) (a 16) (a 17) (a 18) (a 19) (a 20) z_ft z_er z_eb z_li z_st z_rd z_tu z_la z_dl z_sh z_tb]) (c1 := [wG cI (a 1) (a 2) (a 3) (a 4) (a 5) (a 6) (a 7) (a 8) (a 9) (a 10) x5.1 x5.2.1 x5.2.2.1 x5.2.2.2.1 x5.2.2.2.2.1 x5.2.2.2.2.2.1 x5.2.2.2.2.2.2.1 x5.2.2.2.2.2.2.2.1 x5.2.2.2.2.2.2.2.2.1 x5.2.2.2.2.2.2.2.2.2.1 x5.2.2.2.2.2.2.2.2.2.2, wG cI (a 11) (a 12) (a 13) (a 14) (a 15) (a 16) (a 17) (a 18) (a 19) (a 20) z_ft z_er z_eb z_li z_st z_rd z_tu z_la z_dl z_sh z_tb]) (bs2 := [[((a 0), .inr (5, [.ref (a 1), .ref (a 11), .ref (a 21), .ref (a 63)]))], wG cI (a 1) (a 2) (a 3) (a 4) (a 5) (a 6) (a 7) (a 8) (a 9) (a 10) x5.1 x5.2.1 x5.2.2.1 x5.2.2.2.1 x5.2.2.2.2.1 x5.2.2.2.2.2.1 x5.2.2.2.2.2.2.1 x5.2.2.2.2.2.2.2.1 x5.2.2.2.2.2.2.2.2.1 x5.2.2.2.2.2.2.2.2.2.1 x5.2.2.2.2.2.2.2.2.2.2, wG cI (a 11) (a 12) (a 13) (a 14) (a 15) (a 16) (a 17) (a 18) (a 19) (a 20) z_ft z_er z_eb z_li z_st z_rd z_tu z_la z_dl z_sh z_tb, wH cI cG (fun i => a (21 + i)) x4.1 x4.2.1 x4.2.2, wS cI (a 63) (a 64) (a 65) (a 66) (a 67) tx cm]) ⟨hx, hb, hml, hown, hts⟩ (cX1_copyFrom_ok l G cI cG (a 1) (a 2) (a 3) (a 4) (a 5) (a 6) (a 7) (a 8) (a 9) (a 10) (a 11) (a 12) (a 13) (a 14) (a 15) (a 16) (a 17) (a 18) (a 19) (a 20) g_ft g_er g_eb g_li g_st g_rd g_tu g_la g_dl g_sh g_tb z_ft z_er z_eb z_li z_st z_rd z_tu z_la z_dl z_sh z_tb x5 ex5) (cwV 1 hts gX5_carryOut_X1_copyFrom_156 rfl rfl rfl hdX1_copyFrom ⟨Nat.le_of_ble_eq_true rfl, Nat.le_of_ble_eq_true rfl⟩) hP hD hS hA hK 1 rfl rfl rfl [1, 2] rfl rfl rfl rfl rfl rfl rfl rfl rfl hl.1 (Nat.le_of_ble_eq_true rfl) dX5_carryOut_88 ⟨Nat.zero_le _, Nat.zero_le _⟩ (fun H locs hP hD hS => ?_)
        refine lv_aload_n hx hb dX5_carryOut_91 rfl (lv_at hl 0 rfl) ?_
        refine va_get (D := G) (ci := 5) (v := .ref (a 63)) (C := RX5) (T := TX5) (N := 4) hx hb hts huX5_carryOut_X5 hown hK.1 hP 0 rfl rfl 3 (by decide) hw0 (fun _ h9 => h9) rfl dX5_carryOut_92 ?_
        obtain ⟨x6, ex6, h⟩ := o_b h
        refine bcall_iV (As := []) (rest := []) (c0 := [wS cI (a 63) (a 64) (a 65) (a 66) (a 67) tx cm]) (c1 := [wS cI (a 63) (a 64) (a 65) (a 66) (a 67) tx cm]) (bs2 := [[((a 0), .inr (5, [.ref (a 1), .ref (a 11), .ref (a 21), .ref (a 63)]))], wG cI (a 1) (a 2) (a 3) (a 4) (a 5) (a 6) (a 7) (a 8) (a 9) (a 10) x5.1 x5.2.1 x5.2.2.1 x5.2.2.2.1 x5.2.2.2.2.1 x5.2.2.2.2.2.1 x5.2.2.2.2.2.2.1 x5.2.2.2.2.2.2.2.1 x5.2.2.2.2.2.2.2.2.1 x5.2.2.2.2.2.2.2.2.2.1 x5.2.2.2.2.2.2.2.2.2.2, wG cI (a 11) (a 12) (a 13) (a 14) (a 15) (a 16) (a 17) (a 18) (a 19) (a 20) z_ft z_er z_eb z_li z_st z_rd z_tu z_la z_dl z_sh z_tb, wH cI cG (fun i => a (21 + i)) x4.1 x4.2.1 x4.2.2, wS cI (a 63) (a 64) (a 65) (a 66) (a 67) tx cm]) ⟨hx, hb, hml, hown, hts⟩ (cX3_commandCount_ok l G cI cG (a 63) (a 64) (a 65) (a 66) (a 67) tx cm x6 ex6) (cwV 0 hts gX5_carryOut_X3_commandCount_189 rfl rfl rfl hdX3_commandCount ⟨Nat.le_of_ble_eq_true rfl, Nat.le_of_ble_eq_true rfl⟩) hP hD hS hA hK 3 rfl rfl rfl [4] rfl rfl rfl rfl rfl rfl rfl rfl rfl hl.1 (Nat.le_of_ble_eq_true rfl) dX5_carryOut_95 ⟨Nat.zero_le _, Nat.zero_le _⟩ (fun H locs hP hD hS => ?_)
        obtain rfl := o_s h
        rw [hQ]
        exact end_i hx hb hr rfl hP hD hS dX5_carryOut_98 hlocks
      · have h := o_f h hc
        refine lv_aload_n hx hb dX5_carryOut_42 rfl (lv_at hl 0 rfl) ?_
        refine va_get (D := G) (ci := 5) (v := .ref (a 63)) (C := RX5) (T := TX5) (N := 4) hx hb hts huX5_carryOut_X5 hown hK.1 hP 0 rfl rfl 3 (by decide) hw0 (fun _ h9 => h9) rfl dX5_carryOut_43 ?_
        refine lv_iload_n hx hb dX5_carryOut_46 rfl (lv_at hl 1 rfl) ?_
        refine lv_aload_n hx hb dX5_carryOut_47 rfl (lv_at hl 0 rfl) ?_
        refine va_get (D := G) (ci := 5) (v := .ref (a 11)) (C := RX5) (T := TX5) (N := 4) hx hb hts huX5_carryOut_X5 hown hK.1 hP 0 rfl rfl 1 (by decide) hw1 (fun _ h9 => h9) rfl dX5_carryOut_48 ?_
        obtain ⟨x7, ex7, h⟩ := o_b h
        refine bcall_iV (As := [.int v2, .ref (a 11)]) (rest := []) (c0 := [wS cI (a 63) (a 64) (a 65) (a 66) (a 67) tx cm, wG cI (a 11) (a 12) (a 13) (a 14) (a 15) (a 16) (a 17) (a 18) (a 19) (a 20) z_ft z_er z_eb z_li z_st z_rd z_tu z_la z_dl z_sh z_tb]) (c1 := [wS cI (a 63) (a 64) (a 65) (a 66) (a 67) tx cm, wG cI (a 11) (a 12) (a 13) (a 14) (a 15) (a 16) (a 17) (a 18) (a 19) (a 20) x7.2.1 x7.2.2.1 x7.2.2.2.1 x7.2.2.2.2.1 x7.2.2.2.2.2.1 x7.2.2.2.2.2.2.1 x7.2.2.2.2.2.2.2.1 x7.2.2.2.2.2.2.2.2.1 x7.2.2.2.2.2.2.2.2.2.1 z_sh x7.2.2.2.2.2.2.2.2.2.2]) (bs2 := [[((a 0), .inr (5, [.ref (a 1), .ref (a 11), .ref (a 21), .ref (a 63)]))], wG cI (a 1) (a 2) (a 3) (a 4) (a 5) (a 6) (a 7) (a 8) (a 9) (a 10) g_ft g_er g_eb g_li g_st g_rd g_tu g_la g_dl g_sh g_tb, wG cI (a 11) (a 12) (a 13) (a 14) (a 15) (a 16) (a 17) (a 18) (a 19) (a 20) x7.2.1 x7.2.2.1 x7.2.2.2.1 x7.2.2.2.2.1 x7.2.2.2.2.2.1 x7.2.2.2.2.2.2.1 x7.2.2.2.2.2.2.2.1 x7.2.2.2.2.2.2.2.2.1 x7.2.2.2.2.2.2.2.2.2.1 z_sh x7.2.2.2.2.2.2.2.2.2.2, wH cI cG (fun i => a (21 + i)) yc yp yg, wS cI (a 63) (a 64) (a 65) (a 66) (a 67) tx cm]) ⟨hx, hb, hml, hown, hts⟩ (cX3_perform_ok l G cI cG (a 63) (a 64) (a 65) (a 66) (a 67) (a 11) (a 12) (a 13) (a 14) (a 15) (a 16) (a 17) (a 18) (a 19) (a 20) fu tx cm z_ft z_er z_eb z_li z_st z_rd z_tu z_la z_dl z_sh z_tb v2 x7 ex7) (cwV 2 hts gX5_carryOut_X3_perform_192 rfl rfl rfl hdX3_perform ⟨Nat.le_of_ble_eq_true rfl, Nat.le_of_ble_eq_true rfl⟩) hP hD hS hA hK 3 rfl rfl rfl [4, 2] rfl rfl rfl rfl rfl rfl rfl rfl rfl hl.1 (Nat.le_of_ble_eq_true rfl) dX5_carryOut_51 ⟨Nat.zero_le _, Nat.zero_le _⟩ (fun H locs hP hD hS => ?_)
        refine lv_if_ne (tgt := 63) hx hb dX5_carryOut_54 (by decide) (fun hc => ?_) (fun hc => ?_)
        · have h := o_f h hc
          refine lv_iinc (v := (v2 + 1)) (lv' := [(2, .int (v2 + 1)), (0, .ref (a 0))]) hx hb dX5_carryOut_63 hl (k := 1) rfl rfl (by decide) rfl (fun ls hl => ?_)
          refine lv_goto (tgt := 31) hx hb dX5_carryOut_66 (by decide) ?_
          exact ih x7.2.1 x7.2.2.1 x7.2.2.2.1 x7.2.2.2.2.1 x7.2.2.2.2.2.1 x7.2.2.2.2.2.2.1 x7.2.2.2.2.2.2.2.1 x7.2.2.2.2.2.2.2.2.1 x7.2.2.2.2.2.2.2.2.2.1 x7.2.2.2.2.2.2.2.2.2.2 (v2 + 1) _ _ _ h hP hD hS (lv_sub hl [1, 0] rfl)
        · have h := o_t h hc
          refine lv_sipush (v := (-1000)) hx hb dX5_carryOut_57 (by decide) ?_
          refine lv_iload_n hx hb dX5_carryOut_60 rfl (lv_at hl 1 rfl) ?_
          refine lv_isub hx hb dX5_carryOut_61 ?_
          obtain rfl := o_s h
          rw [hQ]
          exact end_i hx hb hr rfl hP hD hS dX5_carryOut_62 hlocks
  have h := hf
  rw [fX5_carryOut] at h
  have hl := lv_entry ([.ref (a 0)]) (n := 3) (Nat.le_of_ble_eq_true rfl)
  rw [lg_entry_eq]
  generalize (lg_sl ([.ref (a 0)]) ++ List.replicate (3 - (lg_sl ([.ref (a 0)])).length) Slot.unset).toArray = ls at hl ⊢
  have hl : lv_has ls 3 [(0, .ref (a 0))] := hl
  refine lv_aload_n hx hb dX5_carryOut_0 rfl (lv_at hl 0 rfl) ?_
  refine va_get (D := G) (ci := 5) (v := .ref (a 63)) (C := RX5) (T := TX5) (N := 4) hx hb hts huX5_carryOut_X5 hown hK.1 hP 0 rfl rfl 3 (by decide) hw0 (fun _ h9 => h9) rfl dX5_carryOut_1 ?_
  obtain ⟨x1, ex1, h⟩ := o_b h
  refine bcall_iV (As := []) (rest := []) (c0 := [wS cI (a 63) (a 64) (a 65) (a 66) (a 67) tx cm]) (c1 := [wS cI (a 63) (a 64) (a 65) (a 66) (a 67) tx x1.2]) (bs2 := [[((a 0), .inr (5, [.ref (a 1), .ref (a 11), .ref (a 21), .ref (a 63)]))], wG cI (a 1) (a 2) (a 3) (a 4) (a 5) (a 6) (a 7) (a 8) (a 9) (a 10) g_ft g_er g_eb g_li g_st g_rd g_tu g_la g_dl g_sh g_tb, wG cI (a 11) (a 12) (a 13) (a 14) (a 15) (a 16) (a 17) (a 18) (a 19) (a 20) z_ft z_er z_eb z_li z_st z_rd z_tu z_la z_dl z_sh z_tb, wH cI cG (fun i => a (21 + i)) yc yp yg, wS cI (a 63) (a 64) (a 65) (a 66) (a 67) tx x1.2]) ⟨hx, hb, hml, hown, hts⟩ (cX3_read_ok l G cI cG (a 63) (a 64) (a 65) (a 66) (a 67) fu tx cm x1 ex1) (cwV 0 hts gX5_carryOut_X3_read_186 rfl rfl rfl hdX3_read ⟨Nat.le_of_ble_eq_true rfl, Nat.le_of_ble_eq_true rfl⟩) hP hD hS hA hK 3 rfl rfl rfl [4] rfl rfl rfl rfl rfl rfl rfl rfl rfl hl.1 (Nat.le_of_ble_eq_true rfl) dX5_carryOut_4 ⟨Nat.zero_le _, Nat.zero_le _⟩ (fun H locs hP hD hS => ?_)
  refine lv_istore_n (lv' := [(1, .int x1.1), (0, .ref (a 0))]) hx hb dX5_carryOut_7 rfl hl (by decide) rfl (fun ls hl => ?_)
  refine lv_iload_n hx hb dX5_carryOut_8 rfl (lv_at hl 0 rfl) ?_
  refine lv_iconst (v := (-1)) hx hb dX5_carryOut_9 (by decide) ?_
  refine lv_icmp_eq (tgt := 18) hx hb dX5_carryOut_10 (by decide) (fun hc => ?_) (fun hc => ?_)
  · have h := o_t h hc
    refine lv_aload_n hx hb dX5_carryOut_18 rfl (lv_at hl 1 rfl) ?_
    refine va_get (D := G) (ci := 5) (v := .ref (a 11)) (C := RX5) (T := TX5) (N := 4) hx hb hts huX5_carryOut_X5 hown hK.1 hP 0 rfl rfl 1 (by decide) hw1 (fun _ h9 => h9) rfl dX5_carryOut_19 ?_
    refine lv_aload_n hx hb dX5_carryOut_22 rfl (lv_at hl 1 rfl) ?_
    refine va_get (D := G) (ci := 5) (v := .ref (a 1)) (C := RX5) (T := TX5) (N := 4) hx hb hts huX5_carryOut_X5 hown hK.1 hP 0 rfl rfl 0 (by decide) hw2 (fun _ h9 => h9) rfl dX5_carryOut_23 ?_
    obtain ⟨x2, ex2, h⟩ := o_b h
    refine bcall_vV (As := [.ref (a 1)]) (rest := []) (c0 := [wG cI (a 11) (a 12) (a 13) (a 14) (a 15) (a 16) (a 17) (a 18) (a 19) (a 20) z_ft z_er z_eb z_li z_st z_rd z_tu z_la z_dl z_sh z_tb, wG cI (a 1) (a 2) (a 3) (a 4) (a 5) (a 6) (a 7) (a 8) (a 9) (a 10) g_ft g_er g_eb g_li g_st g_rd g_tu g_la g_dl g_sh g_tb]) (c1 := [wG cI (a 11) (a 12) (a 13) (a 14) (a 15) (a 16) (a 17) (a 18) (a 19) (a 20) x2.1 x2.2.1 x2.2.2.1 x2.2.2.2.1 x2.2.2.2.2.1 x2.2.2.2.2.2.1 x2.2.2.2.2.2.2.1 x2.2.2.2.2.2.2.2.1 x2.2.2.2.2.2.2.2.2.1 x2.2.2.2.2.2.2.2.2.2.1 x2.2.2.2.2.2.2.2.2.2.2, wG cI (a 1) (a 2) (a 3) (a 4) (a 5) (a 6) (a 7) (a 8) (a 9) (a 10) g_ft g_er g_eb g_li g_st g_rd g_tu g_la g_dl g_sh g_tb]) (bs2 := [[((a 0), .inr (5, [.ref (a 1), .ref (a 11), .ref (a 21), .ref (a 63)]))], wG cI (a 1) (a 2) (a 3) (a 4) (a 5) (a 6) (a 7) (a 8) (a 9) (a 10) g_ft g_er g_eb g_li g_st g_rd g_tu g_la g_dl g_sh g_tb, wG cI (a 11) (a 12) (a 13) (a 14) (a 15) (a 16) (a 17) (a 18) (a 19) (a 20) x2.1 x2.2.1 x2.2.2.1 x2.2.2.2.1 x2.2.2.2.2.1 x2.2.2.2.2.2.1 x2.2.2.2.2.2.2.1 x2.2.2.2.2.2.2.2.1 x2.2.2.2.2.2.2.2.2.1 x2.2.2.2.2.2.2.2.2.2.1 x2.2.2.2.2.2.2.2.2.2.2, wH cI cG (fun i => a (21 + i)) yc yp yg, wS cI (a 63) (a 64) (a 65) (a 66) (a 67) tx x1.2]) ⟨hx, hb, hml, hown, hts⟩ (cX1_copyFrom_ok l G cI cG (a 11) (a 12) (a 13) (a 14) (a 15) (a 16) (a 17) (a 18) (a 19) (a 20) (a 1) (a 2) (a 3) (a 4) (a 5) (a 6) (a 7) (a 8) (a 9) (a 10) z_ft z_er z_eb z_li z_st z_rd z_tu z_la z_dl z_sh z_tb g_ft g_er g_eb g_li g_st g_rd g_tu g_la g_dl g_sh g_tb x2 ex2) (cwV 1 hts gX5_carryOut_X1_copyFrom_156 rfl rfl rfl hdX1_copyFrom ⟨Nat.le_of_ble_eq_true rfl, Nat.le_of_ble_eq_true rfl⟩) hP hD hS hA hK 1 rfl rfl rfl [2, 1] rfl rfl rfl rfl rfl rfl rfl rfl rfl hl.1 (Nat.le_of_ble_eq_true rfl) dX5_carryOut_26 ⟨Nat.zero_le _, Nat.zero_le _⟩ (fun H locs hP hD hS => ?_)
    refine lv_iconst (v := 0) hx hb dX5_carryOut_29 (by decide) ?_
    refine lv_istore_n (lv' := [(2, .int (0 : Int32)), (1, .int x1.1), (0, .ref (a 0))]) hx hb dX5_carryOut_30 rfl hl (by decide) rfl (fun ls hl => ?_)
    exact L31 x2.2.2.2.2.2.2.2.2.2.1 x1.2 fu x2.1 x2.2.1 x2.2.2.1 x2.2.2.2.1 x2.2.2.2.2.1 x2.2.2.2.2.2.1 x2.2.2.2.2.2.2.1 x2.2.2.2.2.2.2.2.1 x2.2.2.2.2.2.2.2.2.1 x2.2.2.2.2.2.2.2.2.2.2 (0 : Int32) _ _ _ h hP hD hS (lv_sub hl [2, 0] rfl)
  · have h := o_f h hc
    refine lv_bipush (v := (-10)) hx hb dX5_carryOut_13 (by decide) ?_
    refine lv_iload_n hx hb dX5_carryOut_15 rfl (lv_at hl 0 rfl) ?_
    refine lv_isub hx hb dX5_carryOut_16 ?_
    obtain rfl := o_s h
    rw [hQ]
    exact end_i hx hb hr rfl hP hD hS dX5_carryOut_17 hlocks
theorem hdX5_undo : yX5_undo.cls = RX5 ∧ yX5_undo.cls ≠ "java/lang/invoke/MethodHandle" ∧ yX5_undo.cls ≠ "java/lang/invoke/VarHandle" ∧ (parseMethodDescriptor yX5_undo.desc).map (fun d => d.parameters.length) = some 0 := by decide +kernel
set_option maxHeartbeats 4000000 in
set_option maxRecDepth 100000 in
theorem cX5_undo_ok (l : Launch) (G : va_G) (cI cG : ClassId) (a : Nat → Nat) (g_ft : Tab) (g_er : Tab) (g_eb : Int32) (g_li : Tab) (g_st : Tab) (g_rd : Int32) (g_tu : Int32) (g_la : Int32) (g_dl : Bool) (g_sh : Int32) (g_tb : Int32) (z_ft : Tab) (z_er : Tab) (z_eb : Int32) (z_li : Tab) (z_st : Tab) (z_rd : Int32) (z_tu : Int32) (z_la : Int32) (z_dl : Bool) (z_sh : Int32) (z_tb : Int32) (yc : Int32) (yp : (Nat → Nat)) (yg : (Nat → GV)) (tx : Tab) (cm : Tab) (out : Int32 × Tab × Tab × Int32 × Tab × Tab × Int32 × Int32 × Int32 × Bool × Int32 × Int32 × Int32) (hf : fX5_undo g_ft g_er g_eb g_li g_st g_rd g_tu g_la g_dl g_sh g_tb yc yp yg = some out) : CI l G (tyz cI cG) yX5_undo wsX5_undo ({ frames := 5, cells := 0, slots := 0, locals := 145 } : Room) [.ref (a 0)] (([[((a 0), .inr (5, [.ref (a 1), .ref (a 11), .ref (a 21), .ref (a 63)]))], wG cI (a 1) (a 2) (a 3) (a 4) (a 5) (a 6) (a 7) (a 8) (a 9) (a 10) g_ft g_er g_eb g_li g_st g_rd g_tu g_la g_dl g_sh g_tb, wG cI (a 11) (a 12) (a 13) (a 14) (a 15) (a 16) (a 17) (a 18) (a 19) (a 20) z_ft z_er z_eb z_li z_st z_rd z_tu z_la z_dl z_sh z_tb, wH cI cG (fun i => a (21 + i)) yc yp yg, wS cI (a 63) (a 64) (a 65) (a 66) (a 67) tx cm] : List va_W).flatten) out.1 (([[((a 0), .inr (5, [.ref (a 1), .ref (a 11), .ref (a 21), .ref (a 63)]))], wG cI (a 1) (a 2) (a 3) (a 4) (a 5) (a 6) (a 7) (a 8) (a 9) (a 10) out.2.1 out.2.2.1 out.2.2.2.1 out.2.2.2.2.1 out.2.2.2.2.2.1 out.2.2.2.2.2.2.1 out.2.2.2.2.2.2.2.1 out.2.2.2.2.2.2.2.2.1 out.2.2.2.2.2.2.2.2.2.1 out.2.2.2.2.2.2.2.2.2.2.1 out.2.2.2.2.2.2.2.2.2.2.2.1, wG cI (a 11) (a 12) (a 13) (a 14) (a 15) (a 16) (a 17) (a 18) (a 19) (a 20) z_ft z_er z_eb z_li z_st z_rd z_tu z_la z_dl z_sh z_tb, wH cI cG (fun i => a (21 + i)) out.2.2.2.2.2.2.2.2.2.2.2.2 yp yg, wS cI (a 63) (a 64) (a 65) (a 66) (a 67) tx cm] : List va_W).flatten) := by
  intro sz
  refine Met.ofW (cc := cX5_undo) (maxL := 1) (ret := (some .int)) (by decide) rfl ?_
  intro p e s m args below meth c s₁ B hml hv
  obtain ⟨rfl, hsz, hP, hK, hD0⟩ := hv
  have hx := B.exec
  have hb := B.bytes
  have hr := B.returns
  have hts := atoms_spec (ws := wsX5_undo) B.pre
  have hown : s.vm.findClass RX5 = some m.cls := findClass_of_methodNamed B.named
  have hlocks := B.notSynchronized
  subst hsz
  have hD := hD0.self (sz := s.heap.size)
  generalize hAe : va_A (([[((a 0), .inr (5, [.ref (a 1), .ref (a 11), .ref (a 21), .ref (a 63)]))], wG cI (a 1) (a 2) (a 3) (a 4) (a 5) (a 6) (a 7) (a 8) (a 9) (a 10) g_ft g_er g_eb g_li g_st g_rd g_tu g_la g_dl g_sh g_tb, wG cI (a 11) (a 12) (a 13) (a 14) (a 15) (a 16) (a 17) (a 18) (a 19) (a 20) z_ft z_er z_eb z_li z_st z_rd z_tu z_la z_dl z_sh z_tb, wH cI cG (fun i => a (21 + i)) yc yp yg, wS cI (a 63) (a 64) (a 65) (a 66) (a 67) tx cm] : List va_W).flatten) s.heap.size = A at hD ⊢
  have hA : ∀ q : Nat, s.heap.size ≤ q → A q := fun q h => by rw [← hAe]; exact Or.inr h
  have hS : va_S A s.heap s.heap [] := va_S.rf
  have hw0 := hts (.fieldLink RX5 22 "SpeedTurns" "history" "LSpeedTurns$History;") (List.mem_of_getElem? (i := 1) rfl)
  have hw1 := hts (.fieldLink RX5 10 "SpeedTurns" "game" "LSpeedTurns$Game;") (List.mem_of_getElem? (i := 9) rfl)
  show W p l e ({ frames := 5, cells := 0, slots := 0, locals := 145 } : Room) s m _ below meth c s.heap [] 0 0 _ _
  refine W_genQ (fun Q hQ => ?_)
  have J15 : ∀ (t0 : Bool) (H : Heap) (locs : List Loc) (ls : Array Slot), fX5_undo_J15 g_ft g_er g_eb g_li g_st g_rd g_tu g_la g_dl g_sh g_tb yc yp yg t0 = some out → va_P G vwCl (([[((a 0), .inr (5, [.ref (a 1), .ref (a 11), .ref (a 21), .ref (a 63)]))], wG cI (a 1) (a 2) (a 3) (a 4) (a 5) (a 6) (a 7) (a 8) (a 9) (a 10) g_ft g_er g_eb g_li g_st g_rd g_tu g_la g_dl g_sh g_tb, wG cI (a 11) (a 12) (a 13) (a 14) (a 15) (a 16) (a 17) (a 18) (a 19) (a 20) z_ft z_er z_eb z_li z_st z_rd z_tu z_la z_dl z_sh z_tb, wH cI cG (fun i => a (21 + i)) yc yp yg, wS cI (a 63) (a 64) (a 65) (a 66) (a 67) tx cm] : List va_W).flatten) H → va_D A (([[((a 0), .inr (5, [.ref (a 1), .ref (a 11), .ref (a 21), .ref (a 63)]))], wG cI (a 1) (a 2) (a 3) (a 4) (a 5) (a 6) (a 7) (a 8) (a 9) (a 10) g_ft g_er g_eb g_li g_st g_rd g_tu g_la g_dl g_sh g_tb, wG cI (a 11) (a 12) (a 13) (a 14) (a 15) (a 16) (a 17) (a 18) (a 19) (a 20) z_ft z_er z_eb z_li z_st z_rd z_tu z_la z_dl z_sh z_tb, wH cI cG (fun i => a (21 + i)) yc yp yg, wS cI (a 63) (a 64) (a 65) (a 66) (a 67) tx cm] : List va_W).flatten) → va_S A s.heap H locs → lv_has ls 1 [(0, .ref (a 0))] → W p l e ({ frames := 5, cells := 0, slots := 0, locals := 145 } : Room) s m ([.ref (a 0)] : List Value).toArray below meth c H locs 0 0 Q (F0 m 15 ls [.int (bI t0)]) := by
    intro t0 H locs ls h hP hD hS hl
    rw [fX5_undo_J15] at h
    obtain ⟨x2, ex2, h⟩ := o_b h
    refine bcall_vS (As := [.int (bI t0)]) (rest := []) (c0 := []) (c1 := []) (bs2 := [[((a 0), .inr (5, [.ref (a 1), .ref (a 11), .ref (a 21), .ref (a 63)]))], wG cI (a 1) (a 2) (a 3) (a 4) (a 5) (a 6) (a 7) (a 8) (a 9) (a 10) g_ft g_er g_eb g_li g_st g_rd g_tu g_la g_dl g_sh g_tb, wG cI (a 11) (a 12) (a 13) (a 14) (a 15) (a 16) (a 17) (a 18) (a 19) (a 20) z_ft z_er z_eb z_li z_st z_rd z_tu z_la z_dl z_sh z_tb, wH cI cG (fun i => a (21 + i)) yc yp yg, wS cI (a 63) (a 64) (a 65) (a 66) (a 67) tx cm]) ⟨hx, hb, hml, hown, hts⟩ (cX5_requirePossible_ok l G cI cG t0 x2 ex2) (va_cwS 1 hts gX5_undo_X5_requirePossible_103 rfl rfl rfl hdX5_requirePossible ⟨Nat.le_of_ble_eq_true rfl, Nat.le_of_ble_eq_true rfl⟩) hP hD hS hA hK [] rfl rfl rfl rfl rfl rfl rfl rfl rfl hl.1 (Nat.le_of_ble_eq_true rfl) dX5_undo_15 ⟨Nat.zero_le _, Nat.zero_le _⟩ (fun H locs hP hD hS => ?_)
    refine lv_aload_n hx hb dX5_undo_18 rfl (lv_at hl 0 rfl) ?_
    refine va_get (D := G) (ci := 5) (v := .ref (a 21)) (C := RX5) (T := TX5) (N := 4) hx hb hts huX5_undo_X5 hown hK.1 hP 0 rfl rfl 2 (by decide) hw0 (fun _ h9 => h9) rfl dX5_undo_19 ?_
    refine lv_aload_n hx hb dX5_undo_22 rfl (lv_at hl 0 rfl) ?_
    refine va_get (D := G) (ci := 5) (v := .ref (a 1)) (C := RX5) (T := TX5) (N := 4) hx hb hts huX5_undo_X5 hown hK.1 hP 0 rfl rfl 0 (by decide) hw1 (fun _ h9 => h9) rfl dX5_undo_23 ?_
    obtain ⟨x3, ex3, h⟩ := o_b h
    refine bcall_vV (As := [.ref (a 1)]) (rest := []) (c0 := [wH cI cG (fun i => a (21 + i)) yc yp yg, wG cI (a 1) (a 2) (a 3) (a 4) (a 5) (a 6) (a 7) (a 8) (a 9) (a 10) g_ft g_er g_eb g_li g_st g_rd g_tu g_la g_dl g_sh g_tb]) (c1 := [wH cI cG (fun i => a (21 + i)) x3.1 yp yg, wG cI (a 1) (a 2) (a 3) (a 4) (a 5) (a 6) (a 7) (a 8) (a 9) (a 10) x3.2.1 x3.2.2.1 x3.2.2.2.1 x3.2.2.2.2.1 x3.2.2.2.2.2.1 x3.2.2.2.2.2.2.1 x3.2.2.2.2.2.2.2.1 x3.2.2.2.2.2.2.2.2.1 x3.2.2.2.2.2.2.2.2.2.1 x3.2.2.2.2.2.2.2.2.2.2.1 x3.2.2.2.2.2.2.2.2.2.2.2]) (bs2 := [[((a 0), .inr (5, [.ref (a 1), .ref (a 11), .ref (a 21), .ref (a 63)]))], wG cI (a 1) (a 2) (a 3) (a 4) (a 5) (a 6) (a 7) (a 8) (a 9) (a 10) x3.2.1 x3.2.2.1 x3.2.2.2.1 x3.2.2.2.2.1 x3.2.2.2.2.2.1 x3.2.2.2.2.2.2.1 x3.2.2.2.2.2.2.2.1 x3.2.2.2.2.2.2.2.2.1 x3.2.2.2.2.2.2.2.2.2.1 x3.2.2.2.2.2.2.2.2.2.2.1 x3.2.2.2.2.2.2.2.2.2.2.2, wG cI (a 11) (a 12) (a 13) (a 14) (a 15) (a 16) (a 17) (a 18) (a 19) (a 20) z_ft z_er z_eb z_li z_st z_rd z_tu z_la z_dl z_sh z_tb, wH cI cG (fun i => a (21 + i)) x3.1 yp yg, wS cI (a 63) (a 64) (a 65) (a 66) (a 67) tx cm]) ⟨hx, hb, hml, hown, hts⟩ (cX2_restore_ok l G cI cG (fun i => a (21 + i)) (a 1) (a 2) (a 3) (a 4) (a 5) (a 6) (a 7) (a 8) (a 9) (a 10) yc yp yg g_ft g_er g_eb g_li g_st g_rd g_tu g_la g_dl g_sh g_tb x3 ex3) (cwV 1 hts gX5_undo_X2_restore_199 rfl rfl rfl hdX2_restore ⟨Nat.le_of_ble_eq_true rfl, Nat.le_of_ble_eq_true rfl⟩) hP hD hS hA hK 2 rfl rfl rfl [3, 1] rfl rfl rfl rfl rfl rfl rfl rfl rfl hl.1 (Nat.le_of_ble_eq_true rfl) dX5_undo_26 ⟨Nat.zero_le _, Nat.zero_le _⟩ (fun H locs hP hD hS => ?_)
    refine lv_aload_n hx hb dX5_undo_29 rfl (lv_at hl 0 rfl) ?_
    refine va_get (D := G) (ci := 5) (v := .ref (a 21)) (C := RX5) (T := TX5) (N := 4) hx hb hts huX5_undo_X5 hown hK.1 hP 0 rfl rfl 2 (by decide) hw0 (fun _ h9 => h9) rfl dX5_undo_30 ?_
    obtain ⟨x4, ex4, h⟩ := o_b h
    refine bcall_iV (As := []) (rest := []) (c0 := [wH cI cG (fun i => a (21 + i)) x3.1 yp yg]) (c1 := [wH cI cG (fun i => a (21 + i)) x3.1 yp yg]) (bs2 := [[((a 0), .inr (5, [.ref (a 1), .ref (a 11), .ref (a 21), .ref (a 63)]))], wG cI (a 1) (a 2) (a 3) (a 4) (a 5) (a 6) (a 7) (a 8) (a 9) (a 10) x3.2.1 x3.2.2.1 x3.2.2.2.1 x3.2.2.2.2.1 x3.2.2.2.2.2.1 x3.2.2.2.2.2.2.1 x3.2.2.2.2.2.2.2.1 x3.2.2.2.2.2.2.2.2.1 x3.2.2.2.2.2.2.2.2.2.1 x3.2.2.2.2.2.2.2.2.2.2.1 x3.2.2.2.2.2.2.2.2.2.2.2, wG cI (a 11) (a 12) (a 13) (a 14) (a 15) (a 16) (a 17) (a 18) (a 19) (a 20) z_ft z_er z_eb z_li z_st z_rd z_tu z_la z_dl z_sh z_tb, wH cI cG (fun i => a (21 + i)) x3.1 yp yg, wS cI (a 63) (a 64) (a 65) (a 66) (a 67) tx cm]) ⟨hx, hb, hml, hown, hts⟩ (cX2_size_ok l G cI cG (fun i => a (21 + i)) x3.1 yp yg x4 ex4) (cwV 0 hts gX5_undo_X2_size_196 rfl rfl rfl hdX2_size ⟨Nat.le_of_ble_eq_true rfl, Nat.le_of_ble_eq_true rfl⟩) hP hD hS hA hK 2 rfl rfl rfl [3] rfl rfl rfl rfl rfl rfl rfl rfl rfl hl.1 (Nat.le_of_ble_eq_true rfl) dX5_undo_33 ⟨Nat.zero_le _, Nat.zero_le _⟩ (fun H locs hP hD hS => ?_)
    obtain rfl := o_s h
    rw [hQ]
    exact end_i hx hb hr rfl hP hD hS dX5_undo_36 hlocks
  have h := hf
  rw [fX5_undo] at h
  have hl := lv_entry ([.ref (a 0)]) (n := 1) (Nat.le_of_ble_eq_true rfl)
  rw [lg_entry_eq]
  generalize (lg_sl ([.ref (a 0)]) ++ List.replicate (1 - (lg_sl ([.ref (a 0)])).length) Slot.unset).toArray = ls at hl ⊢
  have hl : lv_has ls 1 [(0, .ref (a 0))] := hl
  refine lv_aload_n hx hb dX5_undo_0 rfl (lv_at hl 0 rfl) ?_
  refine va_get (D := G) (ci := 5) (v := .ref (a 21)) (C := RX5) (T := TX5) (N := 4) hx hb hts huX5_undo_X5 hown hK.1 hP 0 rfl rfl 2 (by decide) hw0 (fun _ h9 => h9) rfl dX5_undo_1 ?_
  obtain ⟨x1, ex1, h⟩ := o_b h
  refine bcall_iV (As := []) (rest := []) (c0 := [wH cI cG (fun i => a (21 + i)) yc yp yg]) (c1 := [wH cI cG (fun i => a (21 + i)) yc yp yg]) (bs2 := [[((a 0), .inr (5, [.ref (a 1), .ref (a 11), .ref (a 21), .ref (a 63)]))], wG cI (a 1) (a 2) (a 3) (a 4) (a 5) (a 6) (a 7) (a 8) (a 9) (a 10) g_ft g_er g_eb g_li g_st g_rd g_tu g_la g_dl g_sh g_tb, wG cI (a 11) (a 12) (a 13) (a 14) (a 15) (a 16) (a 17) (a 18) (a 19) (a 20) z_ft z_er z_eb z_li z_st z_rd z_tu z_la z_dl z_sh z_tb, wH cI cG (fun i => a (21 + i)) yc yp yg, wS cI (a 63) (a 64) (a 65) (a 66) (a 67) tx cm]) ⟨hx, hb, hml, hown, hts⟩ (cX2_size_ok l G cI cG (fun i => a (21 + i)) yc yp yg x1 ex1) (cwV 0 hts gX5_undo_X2_size_196 rfl rfl rfl hdX2_size ⟨Nat.le_of_ble_eq_true rfl, Nat.le_of_ble_eq_true rfl⟩) hP hD hS hA hK 2 rfl rfl rfl [3] rfl rfl rfl rfl rfl rfl rfl rfl rfl hl.1 (Nat.le_of_ble_eq_true rfl) dX5_undo_4 ⟨Nat.zero_le _, Nat.zero_le _⟩ (fun H locs hP hD hS => ?_)
  refine lv_if_le (tgt := 14) hx hb dX5_undo_7 (by decide) (fun hc => ?_) (fun hc => ?_)
  · have h := o_t h hc
    refine lv_iconst (v := 0) hx hb dX5_undo_14 (by decide) ?_
    exact J15 false _ _ _ h hP hD hS (lv_sub hl [0] rfl)
  · have h := o_f h hc
    refine lv_iconst (v := 1) hx hb dX5_undo_10 (by decide) ?_
    refine lv_goto (tgt := 15) hx hb dX5_undo_11 (by decide) ?_
    exact J15 true _ _ _ h hP hD hS (lv_sub hl [0] rfl)
theorem hdX5_withFighters : yX5_withFighters.cls = RX5 ∧ yX5_withFighters.cls ≠ "java/lang/invoke/MethodHandle" ∧ yX5_withFighters.cls ≠ "java/lang/invoke/VarHandle" ∧ (parseMethodDescriptor yX5_withFighters.desc).map (fun d => d.parameters.length) = some 1 := by decide +kernel
set_option maxHeartbeats 4000000 in
set_option maxRecDepth 100000 in
theorem cX5_withFighters_ok (l : Launch) (G : va_G) (cI cG : ClassId) (a : Nat → Nat) (fu : Nat) (g_ft : Tab) (g_er : Tab) (g_eb : Int32) (g_li : Tab) (g_st : Tab) (g_rd : Int32) (g_tu : Int32) (g_la : Int32) (g_dl : Bool) (g_sh : Int32) (g_tb : Int32) (z_ft : Tab) (z_er : Tab) (z_eb : Int32) (z_li : Tab) (z_st : Tab) (z_rd : Int32) (z_tu : Int32) (z_la : Int32) (z_dl : Bool) (z_sh : Int32) (z_tb : Int32) (yc : Int32) (yp : (Nat → Nat)) (yg : (Nat → GV)) (tx : Tab) (cm : Tab) (p1 : Int64) (out : Int64) (hf : fX5_withFighters fu g_ft g_er g_li p1 = some out) : CL l G (tyz cI cG) yX5_withFighters wsX5_withFighters ({ frames := 4, cells := 0, slots := 0, locals := 92 } : Room) [.ref (a 0), .long p1] (([[((a 0), .inr (5, [.ref (a 1), .ref (a 11), .ref (a 21), .ref (a 63)]))], wG cI (a 1) (a 2) (a 3) (a 4) (a 5) (a 6) (a 7) (a 8) (a 9) (a 10) g_ft g_er g_eb g_li g_st g_rd g_tu g_la g_dl g_sh g_tb, wG cI (a 11) (a 12) (a 13) (a 14) (a 15) (a 16) (a 17) (a 18) (a 19) (a 20) z_ft z_er z_eb z_li z_st z_rd z_tu z_la z_dl z_sh z_tb, wH cI cG (fun i => a (21 + i)) yc yp yg, wS cI (a 63) (a 64) (a 65) (a 66) (a 67) tx cm] : List va_W).flatten) out (([[((a 0), .inr (5, [.ref (a 1), .ref (a 11), .ref (a 21), .ref (a 63)]))], wG cI (a 1) (a 2) (a 3) (a 4) (a 5) (a 6) (a 7) (a 8) (a 9) (a 10) g_ft g_er g_eb g_li g_st g_rd g_tu g_la g_dl g_sh g_tb, wG cI (a 11) (a 12) (a 13) (a 14) (a 15) (a 16) (a 17) (a 18) (a 19) (a 20) z_ft z_er z_eb z_li z_st z_rd z_tu z_la z_dl z_sh z_tb, wH cI cG (fun i => a (21 + i)) yc yp yg, wS cI (a 63) (a 64) (a 65) (a 66) (a 67) tx cm] : List va_W).flatten) := by
  intro sz
  refine Met.ofW (cc := cX5_withFighters) (maxL := 7) (ret := (some .long)) (by decide) rfl ?_
  intro p e s m args below meth c s₁ B hml hv
  obtain ⟨rfl, hsz, hP, hK, hD0⟩ := hv
  have hx := B.exec
  have hb := B.bytes
  have hr := B.returns
  have hts := atoms_spec (ws := wsX5_withFighters) B.pre
  have hown : s.vm.findClass RX5 = some m.cls := findClass_of_methodNamed B.named
  have hlocks := B.notSynchronized
  subst hsz
  have hD := hD0.self (sz := s.heap.size)
  generalize hAe : va_A (([[((a 0), .inr (5, [.ref (a 1), .ref (a 11), .ref (a 21), .ref (a 63)]))], wG cI (a 1) (a 2) (a 3) (a 4) (a 5) (a 6) (a 7) (a 8) (a 9) (a 10) g_ft g_er g_eb g_li g_st g_rd g_tu g_la g_dl g_sh g_tb, wG cI (a 11) (a 12) (a 13) (a 14) (a 15) (a 16) (a 17) (a 18) (a 19) (a 20) z_ft z_er z_eb z_li z_st z_rd z_tu z_la z_dl z_sh z_tb, wH cI cG (fun i => a (21 + i)) yc yp yg, wS cI (a 63) (a 64) (a 65) (a 66) (a 67) tx cm] : List va_W).flatten) s.heap.size = A at hD ⊢
  have hA : ∀ q : Nat, s.heap.size ≤ q → A q := fun q h => by rw [← hAe]; exact Or.inr h
  have hS : va_S A s.heap s.heap [] := va_S.rf
  have hw0 := hts (.fieldLink RX5 10 "SpeedTurns" "game" "LSpeedTurns$Game;") (List.mem_of_getElem? (i := 1) rfl)
  have hw1 := hts (.constantLong RX5 204 (31)) (List.mem_of_getElem? (i := 6) rfl)
  show W p l e ({ frames := 4, cells := 0, slots := 0, locals := 92 } : Room) s m _ below meth c s.heap [] 0 0 _ _
  refine W_genQ (fun Q hQ => ?_)
  have L20 : ∀ (out20 : Int64) (v5 : Int32) (k : Nat) (v3 : Int64) (v6 : Int32) (H : Heap) (locs : List Loc) (ls : Array Slot), fX5_withFighters_L20 fu g_ft g_er g_li v5 k v3 v6 = some out20 → (∀ (H : Heap) (locs : List Loc) (ls : Array Slot), va_P G vwCl (([[((a 0), .inr (5, [.ref (a 1), .ref (a 11), .ref (a 21), .ref (a 63)]))], wG cI (a 1) (a 2) (a 3) (a 4) (a 5) (a 6) (a 7) (a 8) (a 9) (a 10) g_ft g_er g_eb g_li g_st g_rd g_tu g_la g_dl g_sh g_tb, wG cI (a 11) (a 12) (a 13) (a 14) (a 15) (a 16) (a 17) (a 18) (a 19) (a 20) z_ft z_er z_eb z_li z_st z_rd z_tu z_la z_dl z_sh z_tb, wH cI cG (fun i => a (21 + i)) yc yp yg, wS cI (a 63) (a 64) (a 65) (a 66) (a 67) tx cm] : List va_W).flatten) H → va_D A (([[((a 0), .inr (5, [.ref (a 1), .ref (a 11), .ref (a 21), .ref (a 63)]))], wG cI (a 1) (a 2) (a 3) (a 4) (a 5) (a 6) (a 7) (a 8) (a 9) (a 10) g_ft g_er g_eb g_li g_st g_rd g_tu g_la g_dl g_sh g_tb, wG cI (a 11) (a 12) (a 13) (a 14) (a 15) (a 16) (a 17) (a 18) (a 19) (a 20) z_ft z_er z_eb z_li z_st z_rd z_tu z_la z_dl z_sh z_tb, wH cI cG (fun i => a (21 + i)) yc yp yg, wS cI (a 63) (a 64) (a 65) (a 66) (a 67) tx cm] : List va_W).flatten) → va_S A s.heap H locs → lv_has ls 7 [(0, .ref (a 0)), (3, .long out20), (5, .int v5)] → W p l e ({ frames := 4, cells := 0, slots := 0, locals := 92 } : Room) s m ([.ref (a 0), .long p1] : List Value).toArray below meth c H locs 0 0 Q (F0 m 52 ls [])) → va_P G vwCl (([[((a 0), .inr (5, [.ref (a 1), .ref (a 11), .ref (a 21), .ref (a 63)]))], wG cI (a 1) (a 2) (a 3) (a 4) (a 5) (a 6) (a 7) (a 8) (a 9) (a 10) g_ft g_er g_eb g_li g_st g_rd g_tu g_la g_dl g_sh g_tb, wG cI (a 11) (a 12) (a 13) (a 14) (a 15) (a 16) (a 17) (a 18) (a 19) (a 20) z_ft z_er z_eb z_li z_st z_rd z_tu z_la z_dl z_sh z_tb, wH cI cG (fun i => a (21 + i)) yc yp yg, wS cI (a 63) (a 64) (a 65) (a 66) (a 67) tx cm] : List va_W).flatten) H → va_D A (([[((a 0), .inr (5, [.ref (a 1), .ref (a 11), .ref (a 21), .ref (a 63)]))], wG cI (a 1) (a 2) (a 3) (a 4) (a 5) (a 6) (a 7) (a 8) (a 9) (a 10) g_ft g_er g_eb g_li g_st g_rd g_tu g_la g_dl g_sh g_tb, wG cI (a 11) (a 12) (a 13) (a 14) (a 15) (a 16) (a 17) (a 18) (a 19) (a 20) z_ft z_er z_eb z_li z_st z_rd z_tu z_la z_dl z_sh z_tb, wH cI cG (fun i => a (21 + i)) yc yp yg, wS cI (a 63) (a 64) (a 65) (a 66) (a 67) tx cm] : List va_W).flatten) → va_S A s.heap H locs → lv_has ls 7 [(0, .ref (a 0)), (3, .long v3), (5, .int v5), (6, .int v6)] → W p l e ({ frames := 4, cells := 0, slots := 0, locals := 92 } : Room) s m ([.ref (a 0), .long p1] : List Value).toArray below meth c H locs 0 0 Q (F0 m 20 ls []) := by
    intro out20 v5 k
    induction k with
    | zero => intro v3 v6 H locs ls h kk hP hD hS hl; rw [fX5_withFighters_L20] at h; exact o_n h
    | succ k ih =>
      intro v3 v6 H locs ls h kk hP hD hS hl
      rw [fX5_withFighters_L20] at h
      refine lv_iload hx hb dX5_withFighters_20 (lv_at hl 3 rfl) ?_
      refine lv_bipush (v := 8) hx hb dX5_withFighters_22 (by decide) ?_
      refine lv_icmp_gt (tgt := 52) hx hb dX5_withFighters_24 (by decide) (fun hc => ?_) (fun hc => ?_)
      · have h := o_t h hc
        obtain rfl := o_s h
        exact kk _ _ _ hP hD hS (lv_sub hl [0, 1, 2] rfl)
      · have h := o_f h hc
        refine lv_ldc2 (v := 31) hx hb hown hw1 dX5_withFighters_27 ?_
        refine lv_lload_n hx hb dX5_withFighters_30 rfl (lv_at hl 1 rfl) ?_
        refine lv_lmul hx hb dX5_withFighters_31 ?_
        refine lv_aload_n hx hb dX5_withFighters_32 rfl (lv_at hl 0 rfl) ?_
        refine va_get (D := G) (ci := 5) (v := .ref (a 1)) (C := RX5) (T := TX5) (N := 4) hx hb hts huX5_withFighters_X5 hown hK.1 hP 0 rfl rfl 0 (by decide) hw0 (fun _ h9 => h9) rfl dX5_withFighters_33 ?_
        refine lv_iload hx hb dX5_withFighters_36 (lv_at hl 2 rfl) ?_
        refine lv_iload hx hb dX5_withFighters_38 (lv_at hl 3 rfl) ?_
        obtain ⟨x2, ex2, h⟩ := o_b h
        refine bcall_iV (As := [.int v5, .int v6]) (rest := [.long ((31 : Int64) * v3)]) (c0 := [wG cI (a 1) (a 2) (a 3) (a 4) (a 5) (a 6) (a 7) (a 8) (a 9) (a 10) g_ft g_er g_eb g_li g_st g_rd g_tu g_la g_dl g_sh g_tb]) (c1 := [wG cI (a 1) (a 2) (a 3) (a 4) (a 5) (a 6) (a 7) (a 8) (a 9) (a 10) g_ft g_er g_eb g_li g_st g_rd g_tu g_la g_dl g_sh g_tb]) (bs2 := [[((a 0), .inr (5, [.ref (a 1), .ref (a 11), .ref (a 21), .ref (a 63)]))], wG cI (a 1) (a 2) (a 3) (a 4) (a 5) (a 6) (a 7) (a 8) (a 9) (a 10) g_ft g_er g_eb g_li g_st g_rd g_tu g_la g_dl g_sh g_tb, wG cI (a 11) (a 12) (a 13) (a 14) (a 15) (a 16) (a 17) (a 18) (a 19) (a 20) z_ft z_er z_eb z_li z_st z_rd z_tu z_la z_dl z_sh z_tb, wH cI cG (fun i => a (21 + i)) yc yp yg, wS cI (a 63) (a 64) (a 65) (a 66) (a 67) tx cm]) ⟨hx, hb, hml, hown, hts⟩ (cX1_aboutFighter_ok l G cI cG (a 1) (a 2) (a 3) (a 4) (a 5) (a 6) (a 7) (a 8) (a 9) (a 10) fu g_ft g_er g_eb g_li g_st g_rd g_tu g_la g_dl g_sh g_tb v5 v6 x2 ex2) (cwV 2 hts gX5_withFighters_X1_aboutFighter_76 rfl rfl rfl hdX1_aboutFighter ⟨Nat.le_of_ble_eq_true rfl, Nat.le_of_ble_eq_true rfl⟩) hP hD hS hA hK 1 rfl rfl rfl [1] rfl rfl rfl rfl rfl rfl rfl rfl rfl hl.1 (Nat.le_of_ble_eq_true rfl) dX5_withFighters_40 ⟨Nat.zero_le _, Nat.zero_le _⟩ (fun H locs hP hD hS => ?_)
        refine lv_i2l (v := (x2).toInt64) hx hb dX5_withFighters_43 rfl ?_
        refine lv_ladd hx hb dX5_withFighters_44 ?_
        refine lv_lstore_n (lv' := [(3, .long (((31 : Int64) * v3) + ((x2).toInt64))), (0, .ref (a 0)), (5, .int v5), (6, .int v6)]) hx hb dX5_withFighters_45 rfl hl (by decide) rfl (fun ls hl => ?_)
        refine lv_iinc (v := (v6 + 1)) (lv' := [(6, .int (v6 + 1)), (3, .long (((31 : Int64) * v3) + ((x2).toInt64))), (0, .ref (a 0)), (5, .int v5)]) hx hb dX5_withFighters_46 hl (k := 3) rfl rfl (by decide) rfl (fun ls hl => ?_)
        refine lv_goto (tgt := 20) hx hb dX5_withFighters_49 (by decide) ?_
        exact ih (((31 : Int64) * v3) + ((x2).toInt64)) (v6 + 1) _ _ _ h kk hP hD hS (lv_sub hl [2, 1, 3, 0] rfl)
  have L5 : ∀  (k : Nat) (v3 : Int64) (v5 : Int32) (H : Heap) (locs : List Loc) (ls : Array Slot), fX5_withFighters_L5 fu g_ft g_er g_li k v3 v5 = some out → va_P G vwCl (([[((a 0), .inr (5, [.ref (a 1), .ref (a 11), .ref (a 21), .ref (a 63)]))], wG cI (a 1) (a 2) (a 3) (a 4) (a 5) (a 6) (a 7) (a 8) (a 9) (a 10) g_ft g_er g_eb g_li g_st g_rd g_tu g_la g_dl g_sh g_tb, wG cI (a 11) (a 12) (a 13) (a 14) (a 15) (a 16) (a 17) (a 18) (a 19) (a 20) z_ft z_er z_eb z_li z_st z_rd z_tu z_la z_dl z_sh z_tb, wH cI cG (fun i => a (21 + i)) yc yp yg, wS cI (a 63) (a 64) (a 65) (a 66) (a 67) tx cm] : List va_W).flatten) H → va_D A (([[((a 0), .inr (5, [.ref (a 1), .ref (a 11), .ref (a 21), .ref (a 63)]))], wG cI (a 1) (a 2) (a 3) (a 4) (a 5) (a 6) (a 7) (a 8) (a 9) (a 10) g_ft g_er g_eb g_li g_st g_rd g_tu g_la g_dl g_sh g_tb, wG cI (a 11) (a 12) (a 13) (a 14) (a 15) (a 16) (a 17) (a 18) (a 19) (a 20) z_ft z_er z_eb z_li z_st z_rd z_tu z_la z_dl z_sh z_tb, wH cI cG (fun i => a (21 + i)) yc yp yg, wS cI (a 63) (a 64) (a 65) (a 66) (a 67) tx cm] : List va_W).flatten) → va_S A s.heap H locs → lv_has ls 7 [(0, .ref (a 0)), (3, .long v3), (5, .int v5)] → W p l e ({ frames := 4, cells := 0, slots := 0, locals := 92 } : Room) s m ([.ref (a 0), .long p1] : List Value).toArray below meth c H locs 0 0 Q (F0 m 5 ls []) := by
    intro  k
    induction k with
    | zero => intro v3 v5 H locs ls h hP hD hS hl; rw [fX5_withFighters_L5] at h; exact o_n h
    | succ k ih =>
      intro v3 v5 H locs ls h hP hD hS hl
      rw [fX5_withFighters_L5] at h
      refine lv_iload hx hb dX5_withFighters_5 (lv_at hl 2 rfl) ?_
      refine lv_aload_n hx hb dX5_withFighters_7 rfl (lv_at hl 0 rfl) ?_
      refine va_get (D := G) (ci := 5) (v := .ref (a 1)) (C := RX5) (T := TX5) (N := 4) hx hb hts huX5_withFighters_X5 hown hK.1 hP 0 rfl rfl 0 (by decide) hw0 (fun _ h9 => h9) rfl dX5_withFighters_8 ?_
      obtain ⟨x1, ex1, h⟩ := o_b h
      refine bcall_iV (As := []) (rest := [.int v5]) (c0 := [wG cI (a 1) (a 2) (a 3) (a 4) (a 5) (a 6) (a 7) (a 8) (a 9) (a 10) g_ft g_er g_eb g_li g_st g_rd g_tu g_la g_dl g_sh g_tb]) (c1 := [wG cI (a 1) (a 2) (a 3) (a 4) (a 5) (a 6) (a 7) (a 8) (a 9) (a 10) g_ft g_er g_eb g_li g_st g_rd g_tu g_la g_dl g_sh g_tb]) (bs2 := [[((a 0), .inr (5, [.ref (a 1), .ref (a 11), .ref (a 21), .ref (a 63)]))], wG cI (a 1) (a 2) (a 3) (a 4) (a 5) (a 6) (a 7) (a 8) (a 9) (a 10) g_ft g_er g_eb g_li g_st g_rd g_tu g_la g_dl g_sh g_tb, wG cI (a 11) (a 12) (a 13) (a 14) (a 15) (a 16) (a 17) (a 18) (a 19) (a 20) z_ft z_er z_eb z_li z_st z_rd z_tu z_la z_dl z_sh z_tb, wH cI cG (fun i => a (21 + i)) yc yp yg, wS cI (a 63) (a 64) (a 65) (a 66) (a 67) tx cm]) ⟨hx, hb, hml, hown, hts⟩ (cX1_fighterCount_ok l G cI cG (a 1) (a 2) (a 3) (a 4) (a 5) (a 6) (a 7) (a 8) (a 9) (a 10) g_ft g_er g_eb g_li g_st g_rd g_tu g_la g_dl g_sh g_tb x1 ex1) (cwV 0 hts gX5_withFighters_X1_fighterCount_44 rfl rfl rfl hdX1_fighterCount ⟨Nat.le_of_ble_eq_true rfl, Nat.le_of_ble_eq_true rfl⟩) hP hD hS hA hK 1 rfl rfl rfl [1] rfl rfl rfl rfl rfl rfl rfl rfl rfl hl.1 (Nat.le_of_ble_eq_true rfl) dX5_withFighters_11 ⟨Nat.zero_le _, Nat.zero_le _⟩ (fun H locs hP hD hS => ?_)
      refine lv_icmp_ge (tgt := 58) hx hb dX5_withFighters_14 (by decide) (fun hc => ?_) (fun hc => ?_)
      · have h := o_t h hc
        refine lv_lload_n hx hb dX5_withFighters_58 rfl (lv_at hl 1 rfl) ?_
        obtain rfl := o_s h
        rw [hQ]
        exact end_l hx hb hr rfl hP hD hS dX5_withFighters_59 hlocks
      · have h := o_f h hc
        refine lv_iconst (v := 0) hx hb dX5_withFighters_17 (by decide) ?_
        refine lv_istore (lv' := [(6, .int (0 : Int32)), (0, .ref (a 0)), (3, .long v3), (5, .int v5)]) hx hb dX5_withFighters_18 hl (by decide) rfl (fun ls hl => ?_)
        obtain ⟨y3, ey3, h⟩ := o_b h
        refine L20 y3 v5 fu v3 (0 : Int32) _ _ _ ey3 (fun H locs ls hP hD hS hl => ?_) hP hD hS (lv_sub hl [1, 2, 3, 0] rfl)
        refine lv_iinc (v := (v5 + 1)) (lv' := [(5, .int (v5 + 1)), (0, .ref (a 0)), (3, .long y3)]) hx hb dX5_withFighters_52 hl (k := 2) rfl rfl (by decide) rfl (fun ls hl => ?_)
        refine lv_goto (tgt := 5) hx hb dX5_withFighters_55 (by decide) ?_
        exact ih y3 (v5 + 1) _ _ _ h hP hD hS (lv_sub hl [1, 2, 0] rfl)
  have h := hf
  rw [fX5_withFighters] at h
  have hl := lv_entry ([.ref (a 0), .long p1]) (n := 7) (Nat.le_of_ble_eq_true rfl)
  rw [lg_entry_eq]
  generalize (lg_sl ([.ref (a 0), .long p1]) ++ List.replicate (7 - (lg_sl ([.ref (a 0), .long p1])).length) Slot.unset).toArray = ls at hl ⊢
  have hl : lv_has ls 7 [(0, .ref (a 0)), (1, .long p1)] := hl
  refine lv_lload_n hx hb dX5_withFighters_0 rfl (lv_at hl 1 rfl) ?_
  refine lv_lstore_n (lv' := [(3, .long p1), (0, .ref (a 0)), (1, .long p1)]) hx hb dX5_withFighters_1 rfl hl (by decide) rfl (fun ls hl => ?_)
  refine lv_iconst (v := 0) hx hb dX5_withFighters_2 (by decide) ?_
  refine lv_istore (lv' := [(5, .int (0 : Int32)), (3, .long p1), (0, .ref (a 0)), (1, .long p1)]) hx hb dX5_withFighters_3 hl (by decide) rfl (fun ls hl => ?_)
  exact L5 fu p1 (0 : Int32) _ _ _ h hP hD hS (lv_sub hl [2, 1, 0] rfl)
theorem hdX5_withEffects : yX5_withEffects.cls = RX5 ∧ yX5_withEffects.cls ≠ "java/lang/invoke/MethodHandle" ∧ yX5_withEffects.cls ≠ "java/lang/invoke/VarHandle" ∧ (parseMethodDescriptor yX5_withEffects.desc).map (fun d => d.parameters.length) = some 1 := by decide +kernel
set_option maxHeartbeats 4000000 in
set_option maxRecDepth 100000 in
theorem cX5_withEffects_ok (l : Launch) (G : va_G) (cI cG : ClassId) (a : Nat → Nat) (fu : Nat) (g_ft : Tab) (g_er : Tab) (g_eb : Int32) (g_li : Tab) (g_st : Tab) (g_rd : Int32) (g_tu : Int32) (g_la : Int32) (g_dl : Bool) (g_sh : Int32) (g_tb : Int32) (z_ft : Tab) (z_er : Tab) (z_eb : Int32) (z_li : Tab) (z_st : Tab) (z_rd : Int32) (z_tu : Int32) (z_la : Int32) (z_dl : Bool) (z_sh : Int32) (z_tb : Int32) (yc : Int32) (yp : (Nat → Nat)) (yg : (Nat → GV)) (tx : Tab) (cm : Tab) (p1 : Int64) (out : Int64) (hf : fX5_withEffects fu g_er p1 = some out) : CL l G (tyz cI cG) yX5_withEffects wsX5_withEffects ({ frames := 3, cells := 0, slots := 0, locals := 67 } : Room) [.ref (a 0), .long p1] (([[((a 0), .inr (5, [.ref (a 1), .ref (a 11), .ref (a 21), .ref (a 63)]))], wG cI (a 1) (a 2) (a 3) (a 4) (a 5) (a 6) (a 7) (a 8) (a 9) (a 10) g_ft g_er g_eb g_li g_st g_rd g_tu g_la g_dl g_sh g_tb, wG cI (a 11) (a 12) (a 13) (a 14) (a 15) (a 16) (a 17) (a 18) (a 19) (a 20) z_ft z_er z_eb z_li z_st z_rd z_tu z_la z_dl z_sh z_tb, wH cI cG (fun i => a (21 + i)) yc yp yg, wS cI (a 63) (a 64) (a 65) (a 66) (a 67) tx cm] : List va_W).flatten) out (([[((a 0), .inr (5, [.ref (a 1), .ref (a 11), .ref (a 21), .ref (a 63)]))], wG cI (a 1) (a 2) (a 3) (a 4) (a 5) (a 6) (a 7) (a 8) (a 9) (a 10) g_ft g_er g_eb g_li g_st g_rd g_tu g_la g_dl g_sh g_tb, wG cI (a 11) (a 12) (a 13) (a 14) (a 15) (a 16) (a 17) (a 18) (a 19) (a 20) z_ft z_er z_eb z_li z_st z_rd z_tu z_la z_dl z_sh z_tb, wH cI cG (fun i => a (21 + i)) yc yp yg, wS cI (a 63) (a 64) (a 65) (a 66) (a 67) tx cm] : List va_W).flatten) := by
  intro sz
  refine Met.ofW (cc := cX5_withEffects) (maxL := 7) (ret := (some .long)) (by decide) rfl ?_
  intro p e s m args below meth c s₁ B hml hv
  obtain ⟨rfl, hsz, hP, hK, hD0⟩ := hv
  have hx := B.exec
  have hb := B.bytes
  have hr := B.returns
  have hts := atoms_spec (ws := wsX5_withEffects) B.pre
  have hown : s.vm.findClass RX5 = some m.cls := findClass_of_methodNamed B.named
  have hlocks := B.notSynchronized
  subst hsz
  have hD := hD0.self (sz := s.heap.size)
  generalize hAe : va_A (([[((a 0), .inr (5, [.ref (a 1), .ref (a 11), .ref (a 21), .ref (a 63)]))], wG cI (a 1) (a 2) (a 3) (a 4) (a 5) (a 6) (a 7) (a 8) (a 9) (a 10) g_ft g_er g_eb g_li g_st g_rd g_tu g_la g_dl g_sh g_tb, wG cI (a 11) (a 12) (a 13) (a 14) (a 15) (a 16) (a 17) (a 18) (a 19) (a 20) z_ft z_er z_eb z_li z_st z_rd z_tu z_la z_dl z_sh z_tb, wH cI cG (fun i => a (21 + i)) yc yp yg, wS cI (a 63) (a 64) (a 65) (a 66) (a 67) tx cm] : List va_W).flatten) s.heap.size = A at hD ⊢
  have hA : ∀ q : Nat, s.heap.size ≤ q → A q := fun q h => by rw [← hAe]; exact Or.inr h
  have hS : va_S A s.heap s.heap [] := va_S.rf
  have hw0 := hts (.fieldLink RX5 10 "SpeedTurns" "game" "LSpeedTurns$Game;") (List.mem_of_getElem? (i := 1) rfl)
  have hw1 := hts (.constantLong RX5 204 (31)) (List.mem_of_getElem? (i := 6) rfl)
  show W p l e ({ frames := 3, cells := 0, slots := 0, locals := 67 } : Room) s m _ below meth c s.heap [] 0 0 _ _
  refine W_genQ (fun Q hQ => ?_)
  have L20 : ∀ (out20 : Int64) (v5 : Int32) (k : Nat) (v3 : Int64) (v6 : Int32) (H : Heap) (locs : List Loc) (ls : Array Slot), fX5_withEffects_L20 fu g_er v5 k v3 v6 = some out20 → (∀ (H : Heap) (locs : List Loc) (ls : Array Slot), va_P G vwCl (([[((a 0), .inr (5, [.ref (a 1), .ref (a 11), .ref (a 21), .ref (a 63)]))], wG cI (a 1) (a 2) (a 3) (a 4) (a 5) (a 6) (a 7) (a 8) (a 9) (a 10) g_ft g_er g_eb g_li g_st g_rd g_tu g_la g_dl g_sh g_tb, wG cI (a 11) (a 12) (a 13) (a 14) (a 15) (a 16) (a 17) (a 18) (a 19) (a 20) z_ft z_er z_eb z_li z_st z_rd z_tu z_la z_dl z_sh z_tb, wH cI cG (fun i => a (21 + i)) yc yp yg, wS cI (a 63) (a 64) (a 65) (a 66) (a 67) tx cm] : List va_W).flatten) H → va_D A (([[((a 0), .inr (5, [.ref (a 1), .ref (a 11), .ref (a 21), .ref (a 63)]))], wG cI (a 1) (a 2) (a 3) (a 4) (a 5) (a 6) (a 7) (a 8) (a 9) (a 10) g_ft g_er g_eb g_li g_st g_rd g_tu g_la g_dl g_sh g_tb, wG cI (a 11) (a 12) (a 13) (a 14) (a 15) (a 16) (a 17) (a 18) (a 19) (a 20) z_ft z_er z_eb z_li z_st z_rd z_tu z_la z_dl z_sh z_tb, wH cI cG (fun i => a (21 + i)) yc yp yg, wS cI (a 63) (a 64) (a 65) (a 66) (a 67) tx cm] : List va_W).flatten) → va_S A s.heap H locs → lv_has ls 7 [(0, .ref (a 0)), (3, .long out20), (5, .int v5)] → W p l e ({ frames := 3, cells := 0, slots := 0, locals := 67 } : Room) s m ([.ref (a 0), .long p1] : List Value).toArray below meth c H locs 0 0 Q (F0 m 52 ls [])) → va_P G vwCl (([[((a 0), .inr (5, [.ref (a 1), .ref (a 11), .ref (a 21), .ref (a 63)]))], wG cI (a 1) (a 2) (a 3) (a 4) (a 5) (a 6) (a 7) (a 8) (a 9) (a 10) g_ft g_er g_eb g_li g_st g_rd g_tu g_la g_dl g_sh g_tb, wG cI (a 11) (a 12) (a 13) (a 14) (a 15) (a 16) (a 17) (a 18) (a 19) (a 20) z_ft z_er z_eb z_li z_st z_rd z_tu z_la z_dl z_sh z_tb, wH cI cG (fun i => a (21 + i)) yc yp yg, wS cI (a 63) (a 64) (a 65) (a 66) (a 67) tx cm] : List va_W).flatten) H → va_D A (([[((a 0), .inr (5, [.ref (a 1), .ref (a 11), .ref (a 21), .ref (a 63)]))], wG cI (a 1) (a 2) (a 3) (a 4) (a 5) (a 6) (a 7) (a 8) (a 9) (a 10) g_ft g_er g_eb g_li g_st g_rd g_tu g_la g_dl g_sh g_tb, wG cI (a 11) (a 12) (a 13) (a 14) (a 15) (a 16) (a 17) (a 18) (a 19) (a 20) z_ft z_er z_eb z_li z_st z_rd z_tu z_la z_dl z_sh z_tb, wH cI cG (fun i => a (21 + i)) yc yp yg, wS cI (a 63) (a 64) (a 65) (a 66) (a 67) tx cm] : List va_W).flatten) → va_S A s.heap H locs → lv_has ls 7 [(0, .ref (a 0)), (3, .long v3), (5, .int v5), (6, .int v6)] → W p l e ({ frames := 3, cells := 0, slots := 0, locals := 67 } : Room) s m ([.ref (a 0), .long p1] : List Value).toArray below meth c H locs 0 0 Q (F0 m 20 ls []) := by
    intro out20 v5 k
    induction k with
    | zero => intro v3 v6 H locs ls h kk hP hD hS hl; rw [fX5_withEffects_L20] at h; exact o_n h
    | succ k ih =>
      intro v3 v6 H locs ls h kk hP hD hS hl
      rw [fX5_withEffects_L20] at h
      refine lv_iload hx hb dX5_withEffects_20 (lv_at hl 3 rfl) ?_
      refine lv_bipush (v := 6) hx hb dX5_withEffects_22 (by decide) ?_
      refine lv_icmp_gt (tgt := 52) hx hb dX5_withEffects_24 (by decide) (fun hc => ?_) (fun hc => ?_)
      · have h := o_t h hc
        obtain rfl := o_s h
        exact kk _ _ _ hP hD hS (lv_sub hl [0, 1, 2] rfl)
      · have h := o_f h hc
        refine lv_ldc2 (v := 31) hx hb hown hw1 dX5_withEffects_27 ?_
        refine lv_lload_n hx hb dX5_withEffects_30 rfl (lv_at hl 1 rfl) ?_
        refine lv_lmul hx hb dX5_withEffects_31 ?_
        refine lv_aload_n hx hb dX5_withEffects_32 rfl (lv_at hl 0 rfl) ?_
        refine va_get (D := G) (ci := 5) (v := .ref (a 1)) (C := RX5) (T := TX5) (N := 4) hx hb hts huX5_withEffects_X5 hown hK.1 hP 0 rfl rfl 0 (by decide) hw0 (fun _ h9 => h9) rfl dX5_withEffects_33 ?_
        refine lv_iload hx hb dX5_withEffects_36 (lv_at hl 2 rfl) ?_
        refine lv_iload hx hb dX5_withEffects_38 (lv_at hl 3 rfl) ?_
        obtain ⟨x2, ex2, h⟩ := o_b h
        refine bcall_iV (As := [.int v5, .int v6]) (rest := [.long ((31 : Int64) * v3)]) (c0 := [wG cI (a 1) (a 2) (a 3) (a 4) (a 5) (a 6) (a 7) (a 8) (a 9) (a 10) g_ft g_er g_eb g_li g_st g_rd g_tu g_la g_dl g_sh g_tb]) (c1 := [wG cI (a 1) (a 2) (a 3) (a 4) (a 5) (a 6) (a 7) (a 8) (a 9) (a 10) g_ft g_er g_eb g_li g_st g_rd g_tu g_la g_dl g_sh g_tb]) (bs2 := [[((a 0), .inr (5, [.ref (a 1), .ref (a 11), .ref (a 21), .ref (a 63)]))], wG cI (a 1) (a 2) (a 3) (a 4) (a 5) (a 6) (a 7) (a 8) (a 9) (a 10) g_ft g_er g_eb g_li g_st g_rd g_tu g_la g_dl g_sh g_tb, wG cI (a 11) (a 12) (a 13) (a 14) (a 15) (a 16) (a 17) (a 18) (a 19) (a 20) z_ft z_er z_eb z_li z_st z_rd z_tu z_la z_dl z_sh z_tb, wH cI cG (fun i => a (21 + i)) yc yp yg, wS cI (a 63) (a 64) (a 65) (a 66) (a 67) tx cm]) ⟨hx, hb, hml, hown, hts⟩ (cX1_aboutEffect_ok l G cI cG (a 1) (a 2) (a 3) (a 4) (a 5) (a 6) (a 7) (a 8) (a 9) (a 10) g_ft g_er g_eb g_li g_st g_rd g_tu g_la g_dl g_sh g_tb v5 v6 x2 ex2) (cwV 2 hts gX5_withEffects_X1_aboutEffect_82 rfl rfl rfl hdX1_aboutEffect ⟨Nat.le_of_ble_eq_true rfl, Nat.le_of_ble_eq_true rfl⟩) hP hD hS hA hK 1 rfl rfl rfl [1] rfl rfl rfl rfl rfl rfl rfl rfl rfl hl.1 (Nat.le_of_ble_eq_true rfl) dX5_withEffects_40 ⟨Nat.zero_le _, Nat.zero_le _⟩ (fun H locs hP hD hS => ?_)
        refine lv_i2l (v := (x2).toInt64) hx hb dX5_withEffects_43 rfl ?_
        refine lv_ladd hx hb dX5_withEffects_44 ?_
        refine lv_lstore_n (lv' := [(3, .long (((31 : Int64) * v3) + ((x2).toInt64))), (0, .ref (a 0)), (5, .int v5), (6, .int v6)]) hx hb dX5_withEffects_45 rfl hl (by decide) rfl (fun ls hl => ?_)
        refine lv_iinc (v := (v6 + 1)) (lv' := [(6, .int (v6 + 1)), (3, .long (((31 : Int64) * v3) + ((x2).toInt64))), (0, .ref (a 0)), (5, .int v5)]) hx hb dX5_withEffects_46 hl (k := 3) rfl rfl (by decide) rfl (fun ls hl => ?_)
        refine lv_goto (tgt := 20) hx hb dX5_withEffects_49 (by decide) ?_
        exact ih (((31 : Int64) * v3) + ((x2).toInt64)) (v6 + 1) _ _ _ h kk hP hD hS (lv_sub hl [2, 1, 3, 0] rfl)
  have L5 : ∀  (k : Nat) (v3 : Int64) (v5 : Int32) (H : Heap) (locs : List Loc) (ls : Array Slot), fX5_withEffects_L5 fu g_er k v3 v5 = some out → va_P G vwCl (([[((a 0), .inr (5, [.ref (a 1), .ref (a 11), .ref (a 21), .ref (a 63)]))], wG cI (a 1) (a 2) (a 3) (a 4) (a 5) (a 6) (a 7) (a 8) (a 9) (a 10) g_ft g_er g_eb g_li g_st g_rd g_tu g_la g_dl g_sh g_tb, wG cI (a 11) (a 12) (a 13) (a 14) (a 15) (a 16) (a 17) (a 18) (a 19) (a 20) z_ft z_er z_eb z_li z_st z_rd z_tu z_la z_dl z_sh z_tb, wH cI cG (fun i => a (21 + i)) yc yp yg, wS cI (a 63) (a 64) (a 65) (a 66) (a 67) tx cm] : List va_W).flatten) H → va_D A (([[((a 0), .inr (5, [.ref (a 1), .ref (a 11), .ref (a 21), .ref (a 63)]))], wG cI (a 1) (a 2) (a 3) (a 4) (a 5) (a 6) (a 7) (a 8) (a 9) (a 10) g_ft g_er g_eb g_li g_st g_rd g_tu g_la g_dl g_sh g_tb, wG cI (a 11) (a 12) (a 13) (a 14) (a 15) (a 16) (a 17) (a 18) (a 19) (a 20) z_ft z_er z_eb z_li z_st z_rd z_tu z_la z_dl z_sh z_tb, wH cI cG (fun i => a (21 + i)) yc yp yg, wS cI (a 63) (a 64) (a 65) (a 66) (a 67) tx cm] : List va_W).flatten) → va_S A s.heap H locs → lv_has ls 7 [(0, .ref (a 0)), (3, .long v3), (5, .int v5)] → W p l e ({ frames := 3, cells := 0, slots := 0, locals := 67 } : Room) s m ([.ref (a 0), .long p1] : List Value).toArray below meth c H locs 0 0 Q (F0 m 5 ls []) := by
    intro  k
    induction k with
    | zero => intro v3 v5 H locs ls h hP hD hS hl; rw [fX5_withEffects_L5] at h; exact o_n h
    | succ k ih =>
      intro v3 v5 H locs ls h hP hD hS hl
      rw [fX5_withEffects_L5] at h
      refine lv_iload hx hb dX5_withEffects_5 (lv_at hl 2 rfl) ?_
      refine lv_aload_n hx hb dX5_withEffects_7 rfl (lv_at hl 0 rfl) ?_
      refine va_get (D := G) (ci := 5) (v := .ref (a 1)) (C := RX5) (T := TX5) (N := 4) hx hb hts huX5_withEffects_X5 hown hK.1 hP 0 rfl rfl 0 (by decide) hw0 (fun _ h9 => h9) rfl dX5_withEffects_8 ?_
      obtain ⟨x1, ex1, h⟩ := o_b h
      refine bcall_iV (As := []) (rest := [.int v5]) (c0 := [wG cI (a 1) (a 2) (a 3) (a 4) (a 5) (a 6) (a 7) (a 8) (a 9) (a 10) g_ft g_er g_eb g_li g_st g_rd g_tu g_la g_dl g_sh g_tb]) (c1 := [wG cI (a 1) (a 2) (a 3) (a 4) (a 5) (a 6) (a 7) (a 8) (a 9) (a 10) g_ft g_er g_eb g_li g_st g_rd g_tu g_la g_dl g_sh g_tb]) (bs2 := [[((a 0), .inr (5, [.ref (a 1), .ref (a 11), .ref (a 21), .ref (a 63)]))], wG cI (a 1) (a 2) (a 3) (a 4) (a 5) (a 6) (a 7) (a 8) (a 9) (a 10) g_ft g_er g_eb g_li g_st g_rd g_tu g_la g_dl g_sh g_tb, wG cI (a 11) (a 12) (a 13) (a 14) (a 15) (a 16) (a 17) (a 18) (a 19) (a 20) z_ft z_er z_eb z_li z_st z_rd z_tu z_la z_dl z_sh z_tb, wH cI cG (fun i => a (21 + i)) yc yp yg, wS cI (a 63) (a 64) (a 65) (a 66) (a 67) tx cm]) ⟨hx, hb, hml, hown, hts⟩ (cX1_effectCount_ok l G cI cG (a 1) (a 2) (a 3) (a 4) (a 5) (a 6) (a 7) (a 8) (a 9) (a 10) g_ft g_er g_eb g_li g_st g_rd g_tu g_la g_dl g_sh g_tb x1 ex1) (cwV 0 hts gX5_withEffects_X1_effectCount_216 rfl rfl rfl hdX1_effectCount ⟨Nat.le_of_ble_eq_true rfl, Nat.le_of_ble_eq_true rfl⟩) hP hD hS hA hK 1 rfl rfl rfl [1] rfl rfl rfl rfl rfl rfl rfl rfl rfl hl.1 (Nat.le_of_ble_eq_true rfl) dX5_withEffects_11 ⟨Nat.zero_le _, Nat.zero_le _⟩ (fun H locs hP hD hS => ?_)
      refine lv_icmp_ge (tgt := 58) hx hb dX5_withEffects_14 (by decide) (fun hc => ?_) (fun hc => ?_)
      · have h := o_t h hc
        refine lv_lload_n hx hb dX5_withEffects_58 rfl (lv_at hl 1 rfl) ?_
        obtain rfl := o_s h
        rw [hQ]
        exact end_l hx hb hr rfl hP hD hS dX5_withEffects_59 hlocks
      · have h := o_f h hc
        refine lv_iconst (v := 0) hx hb dX5_withEffects_17 (by decide) ?_
        refine lv_istore (lv' := [(6, .int (0 : Int32)), (0, .ref (a 0)), (3, .long v3), (5, .int v5)]) hx hb dX5_withEffects_18 hl (by decide) rfl (fun ls hl => ?_)
        obtain ⟨y3, ey3, h⟩ := o_b h
        refine L20 y3 v5 fu v3 (0 : Int32) _ _ _ ey3 (fun H locs ls hP hD hS hl => ?_) hP hD hS (lv_sub hl [1, 2, 3, 0] rfl)
        refine lv_iinc (v := (v5 + 1)) (lv' := [(5, .int (v5 + 1)), (0, .ref (a 0)), (3, .long y3)]) hx hb dX5_withEffects_52 hl (k := 2) rfl rfl (by decide) rfl (fun ls hl => ?_)
        refine lv_goto (tgt := 5) hx hb dX5_withEffects_55 (by decide) ?_
        exact ih y3 (v5 + 1) _ _ _ h hP hD hS (lv_sub hl [1, 2, 0] rfl)
  have h := hf
  rw [fX5_withEffects] at h
  have hl := lv_entry ([.ref (a 0), .long p1]) (n := 7) (Nat.le_of_ble_eq_true rfl)
  rw [lg_entry_eq]
  generalize (lg_sl ([.ref (a 0), .long p1]) ++ List.replicate (7 - (lg_sl ([.ref (a 0), .long p1])).length) Slot.unset).toArray = ls at hl ⊢
  have hl : lv_has ls 7 [(0, .ref (a 0)), (1, .long p1)] := hl
  refine lv_lload_n hx hb dX5_withEffects_0 rfl (lv_at hl 1 rfl) ?_
  refine lv_lstore_n (lv' := [(3, .long p1), (0, .ref (a 0)), (1, .long p1)]) hx hb dX5_withEffects_1 rfl hl (by decide) rfl (fun ls hl => ?_)
  refine lv_iconst (v := 0) hx hb dX5_withEffects_2 (by decide) ?_
  refine lv_istore (lv' := [(5, .int (0 : Int32)), (3, .long p1), (0, .ref (a 0)), (1, .long p1)]) hx hb dX5_withEffects_3 hl (by decide) rfl (fun ls hl => ?_)
  exact L5 fu p1 (0 : Int32) _ _ _ h hP hD hS (lv_sub hl [2, 1, 0] rfl)
theorem hdX5_withStack : yX5_withStack.cls = RX5 ∧ yX5_withStack.cls ≠ "java/lang/invoke/MethodHandle" ∧ yX5_withStack.cls ≠ "java/lang/invoke/VarHandle" ∧ (parseMethodDescriptor yX5_withStack.desc).map (fun d => d.parameters.length) = some 1 := by decide +kernel
set_option maxHeartbeats 4000000 in
set_option maxRecDepth 100000 in
theorem cX5_withStack_ok (l : Launch) (G : va_G) (cI cG : ClassId) (a : Nat → Nat) (fu : Nat) (g_ft : Tab) (g_er : Tab) (g_eb : Int32) (g_li : Tab) (g_st : Tab) (g_rd : Int32) (g_tu : Int32) (g_la : Int32) (g_dl : Bool) (g_sh : Int32) (g_tb : Int32) (z_ft : Tab) (z_er : Tab) (z_eb : Int32) (z_li : Tab) (z_st : Tab) (z_rd : Int32) (z_tu : Int32) (z_la : Int32) (z_dl : Bool) (z_sh : Int32) (z_tb : Int32) (yc : Int32) (yp : (Nat → Nat)) (yg : (Nat → GV)) (tx : Tab) (cm : Tab) (p1 : Int64) (out : Int64) (hf : fX5_withStack fu g_st p1 = some out) : CL l G (tyz cI cG) yX5_withStack wsX5_withStack ({ frames := 2, cells := 0, slots := 0, locals := 45 } : Room) [.ref (a 0), .long p1] (([[((a 0), .inr (5, [.ref (a 1), .ref (a 11), .ref (a 21), .ref (a 63)]))], wG cI (a 1) (a 2) (a 3) (a 4) (a 5) (a 6) (a 7) (a 8) (a 9) (a 10) g_ft g_er g_eb g_li g_st g_rd g_tu g_la g_dl g_sh g_tb, wG cI (a 11) (a 12) (a 13) (a 14) (a 15) (a 16) (a 17) (a 18) (a 19) (a 20) z_ft z_er z_eb z_li z_st z_rd z_tu z_la z_dl z_sh z_tb, wH cI cG (fun i => a (21 + i)) yc yp yg, wS cI (a 63) (a 64) (a 65) (a 66) (a 67) tx cm] : List va_W).flatten) out (([[((a 0), .inr (5, [.ref (a 1), .ref (a 11), .ref (a 21), .ref (a 63)]))], wG cI (a 1) (a 2) (a 3) (a 4) (a 5) (a 6) (a 7) (a 8) (a 9) (a 10) g_ft g_er g_eb g_li g_st g_rd g_tu g_la g_dl g_sh g_tb, wG cI (a 11) (a 12) (a 13) (a 14) (a 15) (a 16) (a 17) (a 18) (a 19) (a 20) z_ft z_er z_eb z_li z_st z_rd z_tu z_la z_dl z_sh z_tb, wH cI cG (fun i => a (21 + i)) yc yp yg, wS cI (a 63) (a 64) (a 65) (a 66) (a 67) tx cm] : List va_W).flatten) := by
  intro sz
  refine Met.ofW (cc := cX5_withStack) (maxL := 7) (ret := (some .long)) (by decide) rfl ?_
  intro p e s m args below meth c s₁ B hml hv
  obtain ⟨rfl, hsz, hP, hK, hD0⟩ := hv
  have hx := B.exec
  have hb := B.bytes
  have hr := B.returns
  have hts := atoms_spec (ws := wsX5_withStack) B.pre
  have hown : s.vm.findClass RX5 = some m.cls := findClass_of_methodNamed B.named
  have hlocks := B.notSynchronized
  subst hsz
  have hD := hD0.self (sz := s.heap.size)
  generalize hAe : va_A (([[((a 0), .inr (5, [.ref (a 1), .ref (a 11), .ref (a 21), .ref (a 63)]))], wG cI (a 1) (a 2) (a 3) (a 4) (a 5) (a 6) (a 7) (a 8) (a 9) (a 10) g_ft g_er g_eb g_li g_st g_rd g_tu g_la g_dl g_sh g_tb, wG cI (a 11) (a 12) (a 13) (a 14) (a 15) (a 16) (a 17) (a 18) (a 19) (a 20) z_ft z_er z_eb z_li z_st z_rd z_tu z_la z_dl z_sh z_tb, wH cI cG (fun i => a (21 + i)) yc yp yg, wS cI (a 63) (a 64) (a 65) (a 66) (a 67) tx cm] : List va_W).flatten) s.heap.size = A at hD ⊢
  have hA : ∀ q : Nat, s.heap.size ≤ q → A q := fun q h => by rw [← hAe]; exact Or.inr h
  have hS : va_S A s.heap s.heap [] := va_S.rf
  have hw0 := hts (.fieldLink RX5 10 "SpeedTurns" "game" "LSpeedTurns$Game;") (List.mem_of_getElem? (i := 1) rfl)
  have hw1 := hts (.constantLong RX5 204 (31)) (List.mem_of_getElem? (i := 6) rfl)
  show W p l e ({ frames := 2, cells := 0, slots := 0, locals := 45 } : Room) s m _ below meth c s.heap [] 0 0 _ _
  refine W_genQ (fun Q hQ => ?_)
  have L20 : ∀ (out20 : Int64) (v5 : Int32) (k : Nat) (v3 : Int64) (v6 : Int32) (H : Heap) (locs : List Loc) (ls : Array Slot), fX5_withStack_L20 fu g_st v5 k v3 v6 = some out20 → (∀ (H : Heap) (locs : List Loc) (ls : Array Slot), va_P G vwCl (([[((a 0), .inr (5, [.ref (a 1), .ref (a 11), .ref (a 21), .ref (a 63)]))], wG cI (a 1) (a 2) (a 3) (a 4) (a 5) (a 6) (a 7) (a 8) (a 9) (a 10) g_ft g_er g_eb g_li g_st g_rd g_tu g_la g_dl g_sh g_tb, wG cI (a 11) (a 12) (a 13) (a 14) (a 15) (a 16) (a 17) (a 18) (a 19) (a 20) z_ft z_er z_eb z_li z_st z_rd z_tu z_la z_dl z_sh z_tb, wH cI cG (fun i => a (21 + i)) yc yp yg, wS cI (a 63) (a 64) (a 65) (a 66) (a 67) tx cm] : List va_W).flatten) H → va_D A (([[((a 0), .inr (5, [.ref (a 1), .ref (a 11), .ref (a 21), .ref (a 63)]))], wG cI (a 1) (a 2) (a 3) (a 4) (a 5) (a 6) (a 7) (a 8) (a 9) (a 10) g_ft g_er g_eb g_li g_st g_rd g_tu g_la g_dl g_sh g_tb, wG cI (a 11) (a 12) (a 13) (a 14) (a 15) (a 16) (a 17) (a 18) (a 19) (a 20) z_ft z_er z_eb z_li z_st z_rd z_tu z_la z_dl z_sh z_tb, wH cI cG (fun i => a (21 + i)) yc yp yg, wS cI (a 63) (a 64) (a 65) (a 66) (a 67) tx cm] : List va_W).flatten) → va_S A s.heap H locs → lv_has ls 7 [(0, .ref (a 0)), (3, .long out20), (5, .int v5)] → W p l e ({ frames := 2, cells := 0, slots := 0, locals := 45 } : Room) s m ([.ref (a 0), .long p1] : List Value).toArray below meth c H locs 0 0 Q (F0 m 51 ls [])) → va_P G vwCl (([[((a 0), .inr (5, [.ref (a 1), .ref (a 11), .ref (a 21), .ref (a 63)]))], wG cI (a 1) (a 2) (a 3) (a 4) (a 5) (a 6) (a 7) (a 8) (a 9) (a 10) g_ft g_er g_eb g_li g_st g_rd g_tu g_la g_dl g_sh g_tb, wG cI (a 11) (a 12) (a 13) (a 14) (a 15) (a 16) (a 17) (a 18) (a 19) (a 20) z_ft z_er z_eb z_li z_st z_rd z_tu z_la z_dl z_sh z_tb, wH cI cG (fun i => a (21 + i)) yc yp yg, wS cI (a 63) (a 64) (a 65) (a 66) (a 67) tx cm] : List va_W).flatten) H → va_D A (([[((a 0), .inr (5, [.ref (a 1), .ref (a 11), .ref (a 21), .ref (a 63)]))], wG cI (a 1) (a 2) (a 3) (a 4) (a 5) (a 6) (a 7) (a 8) (a 9) (a 10) g_ft g_er g_eb g_li g_st g_rd g_tu g_la g_dl g_sh g_tb, wG cI (a 11) (a 12) (a 13) (a 14) (a 15) (a 16) (a 17) (a 18) (a 19) (a 20) z_ft z_er z_eb z_li z_st z_rd z_tu z_la z_dl z_sh z_tb, wH cI cG (fun i => a (21 + i)) yc yp yg, wS cI (a 63) (a 64) (a 65) (a 66) (a 67) tx cm] : List va_W).flatten) → va_S A s.heap H locs → lv_has ls 7 [(0, .ref (a 0)), (3, .long v3), (5, .int v5), (6, .int v6)] → W p l e ({ frames := 2, cells := 0, slots := 0, locals := 45 } : Room) s m ([.ref (a 0), .long p1] : List Value).toArray below meth c H locs 0 0 Q (F0 m 20 ls []) := by
    intro out20 v5 k
    induction k with
    | zero => intro v3 v6 H locs ls h kk hP hD hS hl; rw [fX5_withStack_L20] at h; exact o_n h
    | succ k ih =>
      intro v3 v6 H locs ls h kk hP hD hS hl
      rw [fX5_withStack_L20] at h
      refine lv_iload hx hb dX5_withStack_20 (lv_at hl 3 rfl) ?_
      refine lv_iconst (v := 3) hx hb dX5_withStack_22 (by decide) ?_
      refine lv_icmp_gt (tgt := 51) hx hb dX5_withStack_23 (by decide) (fun hc => ?_) (fun hc => ?_)
      · have h := o_t h hc
        obtain rfl := o_s h
        exact kk _ _ _ hP hD hS (lv_sub hl [0, 1, 2] rfl)
      · have h := o_f h hc
        refine lv_ldc2 (v := 31) hx hb hown hw1 dX5_withStack_26 ?_
        refine lv_lload_n hx hb dX5_withStack_29 rfl (lv_at hl 1 rfl) ?_
        refine lv_lmul hx hb dX5_withStack_30 ?_
        refine lv_aload_n hx hb dX5_withStack_31 rfl (lv_at hl 0 rfl) ?_
        refine va_get (D := G) (ci := 5) (v := .ref (a 1)) (C := RX5) (T := TX5) (N := 4) hx hb hts huX5_withStack_X5 hown hK.1 hP 0 rfl rfl 0 (by decide) hw0 (fun _ h9 => h9) rfl dX5_withStack_32 ?_
        refine lv_iload hx hb dX5_withStack_35 (lv_at hl 2 rfl) ?_
        refine lv_iload hx hb dX5_withStack_37 (lv_at hl 3 rfl) ?_
        obtain ⟨x2, ex2, h⟩ := o_b h
        refine bcall_iV (As := [.int v5, .int v6]) (rest := [.long ((31 : Int64) * v3)]) (c0 := [wG cI (a 1) (a 2) (a 3) (a 4) (a 5) (a 6) (a 7) (a 8) (a 9) (a 10) g_ft g_er g_eb g_li g_st g_rd g_tu g_la g_dl g_sh g_tb]) (c1 := [wG cI (a 1) (a 2) (a 3) (a 4) (a 5) (a 6) (a 7) (a 8) (a 9) (a 10) g_ft g_er g_eb g_li g_st g_rd g_tu g_la g_dl g_sh g_tb]) (bs2 := [[((a 0), .inr (5, [.ref (a 1), .ref (a 11), .ref (a 21), .ref (a 63)]))], wG cI (a 1) (a 2) (a 3) (a 4) (a 5) (a 6) (a 7) (a 8) (a 9) (a 10) g_ft g_er g_eb g_li g_st g_rd g_tu g_la g_dl g_sh g_tb, wG cI (a 11) (a 12) (a 13) (a 14) (a 15) (a 16) (a 17) (a 18) (a 19) (a 20) z_ft z_er z_eb z_li z_st z_rd z_tu z_la z_dl z_sh z_tb, wH cI cG (fun i => a (21 + i)) yc yp yg, wS cI (a 63) (a 64) (a 65) (a 66) (a 67) tx cm]) ⟨hx, hb, hml, hown, hts⟩ (cX1_aboutAct_ok l G cI cG (a 1) (a 2) (a 3) (a 4) (a 5) (a 6) (a 7) (a 8) (a 9) (a 10) g_ft g_er g_eb g_li g_st g_rd g_tu g_la g_dl g_sh g_tb v5 v6 x2 ex2) (cwV 2 hts gX5_withStack_X1_aboutAct_150 rfl rfl rfl hdX1_aboutAct ⟨Nat.le_of_ble_eq_true rfl, Nat.le_of_ble_eq_true rfl⟩) hP hD hS hA hK 1 rfl rfl rfl [1] rfl rfl rfl rfl rfl rfl rfl rfl rfl hl.1 (Nat.le_of_ble_eq_true rfl) dX5_withStack_39 ⟨Nat.zero_le _, Nat.zero_le _⟩ (fun H locs hP hD hS => ?_)
        refine lv_i2l (v := (x2).toInt64) hx hb dX5_withStack_42 rfl ?_
        refine lv_ladd hx hb dX5_withStack_43 ?_
        refine lv_lstore_n (lv' := [(3, .long (((31 : Int64) * v3) + ((x2).toInt64))), (0, .ref (a 0)), (5, .int v5), (6, .int v6)]) hx hb dX5_withStack_44 rfl hl (by decide) rfl (fun ls hl => ?_)
        refine lv_iinc (v := (v6 + 1)) (lv' := [(6, .int (v6 + 1)), (3, .long (((31 : Int64) * v3) + ((x2).toInt64))), (0, .ref (a 0)), (5, .int v5)]) hx hb dX5_withStack_45 hl (k := 3) rfl rfl (by decide) rfl (fun ls hl => ?_)
        refine lv_goto (tgt := 20) hx hb dX5_withStack_48 (by decide) ?_
        exact ih (((31 : Int64) * v3) + ((x2).toInt64)) (v6 + 1) _ _ _ h kk hP hD hS (lv_sub hl [2, 1, 3, 0] rfl)
  have L5 : ∀  (k : Nat) (v3 : Int64) (v5 : Int32) (H : Heap) (locs : List Loc) (ls : Array Slot), fX5_withStack_L5 fu g_st k v3 v5 = some out → va_P G vwCl (([[((a 0), .inr (5, [.ref (a 1), .ref (a 11), .ref (a 21), .ref (a 63)]))], wG cI (a 1) (a 2) (a 3) (a 4) (a 5) (a 6) (a 7) (a 8) (a 9) (a 10) g_ft g_er g_eb g_li g_st g_rd g_tu g_la g_dl g_sh g_tb, wG cI (a 11) (a 12) (a 13) (a 14) (a 15) (a 16) (a 17) (a 18) (a 19) (a 20) z_ft z_er z_eb z_li z_st z_rd z_tu z_la z_dl z_sh z_tb, wH cI cG (fun i => a (21 + i)) yc yp yg, wS cI (a 63) (a 64) (a 65) (a 66) (a 67) tx cm] : List va_W).flatten) H → va_D A (([[((a 0), .inr (5, [.ref (a 1), .ref (a 11), .ref (a 21), .ref (a 63)]))], wG cI (a 1) (a 2) (a 3) (a 4) (a 5) (a 6) (a 7) (a 8) (a 9) (a 10) g_ft g_er g_eb g_li g_st g_rd g_tu g_la g_dl g_sh g_tb, wG cI (a 11) (a 12) (a 13) (a 14) (a 15) (a 16) (a 17) (a 18) (a 19) (a 20) z_ft z_er z_eb z_li z_st z_rd z_tu z_la z_dl z_sh z_tb, wH cI cG (fun i => a (21 + i)) yc yp yg, wS cI (a 63) (a 64) (a 65) (a 66) (a 67) tx cm] : List va_W).flatten) → va_S A s.heap H locs → lv_has ls 7 [(0, .ref (a 0)), (3, .long v3), (5, .int v5)] → W p l e ({ frames := 2, cells := 0, slots := 0, locals := 45 } : Room) s m ([.ref (a 0), .long p1] : List Value).toArray below meth c H locs 0 0 Q (F0 m 5 ls []) := by
    intro  k
    induction k with
    | zero => intro v3 v5 H locs ls h hP hD hS hl; rw [fX5_withStack_L5] at h; exact o_n h
    | succ k ih =>
      intro v3 v5 H locs ls h hP hD hS hl
      rw [fX5_withStack_L5] at h
      refine lv_iload hx hb dX5_withStack_5 (lv_at hl 2 rfl) ?_
      refine lv_aload_n hx hb dX5_withStack_7 rfl (lv_at hl 0 rfl) ?_
      refine va_get (D := G) (ci := 5) (v := .ref (a 1)) (C := RX5) (T := TX5) (N := 4) hx hb hts huX5_withStack_X5 hown hK.1 hP 0 rfl rfl 0 (by decide) hw0 (fun _ h9 => h9) rfl dX5_withStack_8 ?_
      obtain ⟨x1, ex1, h⟩ := o_b h
      refine bcall_iV (As := []) (rest := [.int v5]) (c0 := [wG cI (a 1) (a 2) (a 3) (a 4) (a 5) (a 6) (a 7) (a 8) (a 9) (a 10) g_ft g_er g_eb g_li g_st g_rd g_tu g_la g_dl g_sh g_tb]) (c1 := [wG cI (a 1) (a 2) (a 3) (a 4) (a 5) (a 6) (a 7) (a 8) (a 9) (a 10) g_ft g_er g_eb g_li g_st g_rd g_tu g_la g_dl g_sh g_tb]) (bs2 := [[((a 0), .inr (5, [.ref (a 1), .ref (a 11), .ref (a 21), .ref (a 63)]))], wG cI (a 1) (a 2) (a 3) (a 4) (a 5) (a 6) (a 7) (a 8) (a 9) (a 10) g_ft g_er g_eb g_li g_st g_rd g_tu g_la g_dl g_sh g_tb, wG cI (a 11) (a 12) (a 13) (a 14) (a 15) (a 16) (a 17) (a 18) (a 19) (a 20) z_ft z_er z_eb z_li z_st z_rd z_tu z_la z_dl z_sh z_tb, wH cI cG (fun i => a (21 + i)) yc yp yg, wS cI (a 63) (a 64) (a 65) (a 66) (a 67) tx cm]) ⟨hx, hb, hml, hown, hts⟩ (cX1_stackSize_ok l G cI cG (a 1) (a 2) (a 3) (a 4) (a 5) (a 6) (a 7) (a 8) (a 9) (a 10) g_ft g_er g_eb g_li g_st g_rd g_tu g_la g_dl g_sh g_tb x1 ex1) (cwV 0 hts gX5_withStack_X1_stackSize_145 rfl rfl rfl hdX1_stackSize ⟨Nat.le_of_ble_eq_true rfl, Nat.le_of_ble_eq_true rfl⟩) hP hD hS hA hK 1 rfl rfl rfl [1] rfl rfl rfl rfl rfl rfl rfl rfl rfl hl.1 (Nat.le_of_ble_eq_true rfl) dX5_withStack_11 ⟨Nat.zero_le _, Nat.zero_le _⟩ (fun H locs hP hD hS => ?_)
      refine lv_icmp_ge (tgt := 57) hx hb dX5_withStack_14 (by decide) (fun hc => ?_) (fun hc => ?_)
      · have h := o_t h hc
        refine lv_lload_n hx hb dX5_withStack_57 rfl (lv_at hl 1 rfl) ?_
        obtain rfl := o_s h
        rw [hQ]
        exact end_l hx hb hr rfl hP hD hS dX5_withStack_58 hlocks
      · have h := o_f h hc
        refine lv_iconst (v := 0) hx hb dX5_withStack_17 (by decide) ?_
        refine lv_istore (lv' := [(6, .int (0 : Int32)), (0, .ref (a 0)), (3, .long v3), (5, .int v5)]) hx hb dX5_withStack_18 hl (by decide) rfl (fun ls hl => ?_)
        obtain ⟨y3, ey3, h⟩ := o_b h
        refine L20 y3 v5 fu v3 (0 : Int32) _ _ _ ey3 (fun H locs ls hP hD hS hl => ?_) hP hD hS (lv_sub hl [1, 2, 3, 0] rfl)
        refine lv_iinc (v := (v5 + 1)) (lv' := [(5, .int (v5 + 1)), (0, .ref (a 0)), (3, .long y3)]) hx hb dX5_withStack_51 hl (k := 2) rfl rfl (by decide) rfl (fun ls hl => ?_)
        refine lv_goto (tgt := 5) hx hb dX5_withStack_54 (by decide) ?_
        exact ih y3 (v5 + 1) _ _ _ h hP hD hS (lv_sub hl [1, 2, 0] rfl)
  have h := hf
  rw [fX5_withStack] at h
  have hl := lv_entry ([.ref (a 0), .long p1]) (n := 7) (Nat.le_of_ble_eq_true rfl)
  rw [lg_entry_eq]
  generalize (lg_sl ([.ref (a 0), .long p1]) ++ List.replicate (7 - (lg_sl ([.ref (a 0), .long p1])).length) Slot.unset).toArray = ls at hl ⊢
  have hl : lv_has ls 7 [(0, .ref (a 0)), (1, .long p1)] := hl
  refine lv_lload_n hx hb dX5_withStack_0 rfl (lv_at hl 1 rfl) ?_
  refine lv_lstore_n (lv' := [(3, .long p1), (0, .ref (a 0)), (1, .long p1)]) hx hb dX5_withStack_1 rfl hl (by decide) rfl (fun ls hl => ?_)
  refine lv_iconst (v := 0) hx hb dX5_withStack_2 (by decide) ?_
  refine lv_istore (lv' := [(5, .int (0 : Int32)), (3, .long p1), (0, .ref (a 0)), (1, .long p1)]) hx hb dX5_withStack_3 hl (by decide) rfl (fun ls hl => ?_)
  exact L5 fu p1 (0 : Int32) _ _ _ h hP hD hS (lv_sub hl [2, 1, 0] rfl)
theorem hdX5_digest : yX5_digest.cls = RX5 ∧ yX5_digest.cls ≠ "java/lang/invoke/MethodHandle" ∧ yX5_digest.cls ≠ "java/lang/invoke/VarHandle" ∧ (parseMethodDescriptor yX5_digest.desc).map (fun d => d.parameters.length) = some 0 := by decide +kernel
set_option maxHeartbeats 4000000 in
set_option maxRecDepth 100000 in
theorem cX5_digest_ok (l : Launch) (G : va_G) (cI cG : ClassId) (a : Nat → Nat) (fu : Nat) (g_ft : Tab) (g_er : Tab) (g_eb : Int32) (g_li : Tab) (g_st : Tab) (g_rd : Int32) (g_tu : Int32) (g_la : Int32) (g_dl : Bool) (g_sh : Int32) (g_tb : Int32) (z_ft : Tab) (z_er : Tab) (z_eb : Int32) (z_li : Tab) (z_st : Tab) (z_rd : Int32) (z_tu : Int32) (z_la : Int32) (z_dl : Bool) (z_sh : Int32) (z_tb : Int32) (yc : Int32) (yp : (Nat → Nat)) (yg : (Nat → GV)) (tx : Tab) (cm : Tab) (out : Int64) (hf : fX5_digest fu g_ft g_er g_eb g_li g_st g_rd g_tu g_sh g_tb yc tx = some out) : CL l G (tyz cI cG) yX5_digest wsX5_digest ({ frames := 5, cells := 0, slots := 0, locals := 118 } : Room) [.ref (a 0)] (([[((a 0), .inr (5, [.ref (a 1), .ref (a 11), .ref (a 21), .ref (a 63)]))], wG cI (a 1) (a 2) (a 3) (a 4) (a 5) (a 6) (a 7) (a 8) (a 9) (a 10) g_ft g_er g_eb g_li g_st g_rd g_tu g_la g_dl g_sh g_tb, wG cI (a 11) (a 12) (a 13) (a 14) (a 15) (a 16) (a 17) (a 18) (a 19) (a 20) z_ft z_er z_eb z_li z_st z_rd z_tu z_la z_dl z_sh z_tb, wH cI cG (fun i => a (21 + i)) yc yp yg, wS cI (a 63) (a 64) (a 65) (a 66) (a 67) tx cm] : List va_W).flatten) out (([[((a 0), .inr (5, [.ref (a 1), .ref (a 11), .ref (a 21), .ref (a 63)]))], wG cI (a 1) (a 2) (a 3) (a 4) (a 5) (a 6) (a 7) (a 8) (a 9) (a 10) g_ft g_er g_eb g_li g_st g_rd g_tu g_la g_dl g_sh g_tb, wG cI (a 11) (a 12) (a 13) (a 14) (a 15) (a 16) (a 17) (a 18) (a 19) (a 20) z_ft z_er z_eb z_li z_st z_rd z_tu z_la z_dl z_sh z_tb, wH cI cG (fun i => a (21 + i)) yc yp yg, wS cI (a 63) (a 64) (a 65) (a 66) (a 67) tx cm] : List va_W).flatten) := by
  intro sz
  refine Met.ofW (cc := cX5_digest) (maxL := 4) (ret := (some .long)) (by decide) rfl ?_
  intro p e s m args below meth c s₁ B hml hv
  obtain ⟨rfl, hsz, hP, hK, hD0⟩ := hv
  have hx := B.exec
  have hb := B.bytes
  have hr := B.returns
  have hts := atoms_spec (ws := wsX5_digest) B.pre
  have hown : s.vm.findClass RX5 = some m.cls := findClass_of_methodNamed B.named
  have hlocks := B.notSynchronized
  subst hsz
  have hD := hD0.self (sz := s.heap.size)
  generalize hAe : va_A (([[((a 0), .inr (5, [.ref (a 1), .ref (a 11), .ref (a 21), .ref (a 63)]))], wG cI (a 1) (a 2) (a 3) (a 4) (a 5) (a 6) (a 7) (a 8) (a 9) (a 10) g_ft g_er g_eb g_li g_st g_rd g_tu g_la g_dl g_sh g_tb, wG cI (a 11) (a 12) (a 13) (a 14) (a 15) (a 16) (a 17) (a 18) (a 19) (a 20) z_ft z_er z_eb z_li z_st z_rd z_tu z_la z_dl z_sh z_tb, wH cI cG (fun i => a (21 + i)) yc yp yg, wS cI (a 63) (a 64) (a 65) (a 66) (a 67) tx cm] : List va_W).flatten) s.heap.size = A at hD ⊢
  have hA : ∀ q : Nat, s.heap.size ≤ q → A q := fun q h => by rw [← hAe]; exact Or.inr h
  have hS : va_S A s.heap s.heap [] := va_S.rf
  have hw0 := hts (.constantLong RX5 202 (103633)) (List.mem_of_getElem? (i := 1) rfl)
  have hw1 := hts (.fieldLink RX5 29 "SpeedTurns" "script" "LSpeedTurns$Script;") (List.mem_of_getElem? (i := 2) rfl)
  have hw2 := hts (.fieldLink RX5 10 "SpeedTurns" "game" "LSpeedTurns$Game;") (List.mem_of_getElem? (i := 14) rfl)
  have hw3 := hts (.constantLong RX5 204 (31)) (List.mem_of_getElem? (i := 22) rfl)
  have hw4 := hts (.fieldLink RX5 22 "SpeedTurns" "history" "LSpeedTurns$History;") (List.mem_of_getElem? (i := 23) rfl)
  show W p l e ({ frames := 5, cells := 0, slots := 0, locals := 118 } : Room) s m _ below meth c s.heap [] 0 0 _ _
  refine W_genQ (fun Q hQ => ?_)
  have L57 : ∀  (k : Nat) (v1 : Int64) (v3 : Int32) (H : Heap) (locs : List Loc) (ls : Array Slot), fX5_digest_L57 fu g_ft g_er g_eb g_li g_st g_rd g_tu g_sh g_tb yc tx k v1 v3 = some out → va_P G vwCl (([[((a 0), .inr (5, [.ref (a 1), .ref (a 11), .ref (a 21), .ref (a 63)]))], wG cI (a 1) (a 2) (a 3) (a 4) (a 5) (a 6) (a 7) (a 8) (a 9) (a 10) g_ft g_er g_eb g_li g_st g_rd g_tu g_la g_dl g_sh g_tb, wG cI (a 11) (a 12) (a 13) (a 14) (a 15) (a 16) (a 17) (a 18) (a 19) (a 20) z_ft z_er z_eb z_li z_st z_rd z_tu z_la z_dl z_sh z_tb, wH cI cG (fun i => a (21 + i)) yc yp yg, wS cI (a 63) (a 64) (a 65) (a 66) (a 67) tx cm] : List va_W).flatten) H → va_D A (([[((a 0), .inr (5, [.ref (a 1), .ref (a 11), .ref (a 21), .ref (a 63)]))], wG cI (a 1) (a 2) (a 3) (a 4) (a 5) (a 6) (a 7) (a 8) (a 9) (a 10) g_ft g_er g_eb g_li g_st g_rd g_tu g_la g_dl g_sh g_tb, wG cI (a 11) (a 12) (a 13) (a 14) (a 15) (a 16) (a 17) (a 18) (a 19) (a 20) z_ft z_er z_eb z_li z_st z_rd z_tu z_la z_dl z_sh z_tb, wH cI cG (fun i => a (21 + i)) yc yp yg, wS cI (a 63) (a 64) (a 65) (a 66) (a 67) tx cm] : List va_W).flatten) → va_S A s.heap H locs → lv_has ls 4 [(0, .ref (a 0)), (1, .long v1), (3, .int v3)] → W p l e ({ frames := 5, cells := 0, slots := 0, locals := 118 } : Room) s m ([.ref (a 0)] : List Value).toArray below meth c H locs 0 0 Q (F0 m 57 ls []) := by
    intro  k
    induction k with
    | zero => intro v1 v3 H locs ls h hP hD hS hl; rw [fX5_digest_L57] at h; exact o_n h
    | succ k ih =>
      intro v1 v3 H locs ls h hP hD hS hl
      rw [fX5_digest_L57] at h
      refine lv_iload_n hx hb dX5_digest_57 rfl (lv_at hl 2 rfl) ?_
      refine lv_aload_n hx hb dX5_digest_58 rfl (lv_at hl 0 rfl) ?_
      refine va_get (D := G) (ci := 5) (v := .ref (a 1)) (C := RX5) (T := TX5) (N := 4) hx hb hts huX5_digest_X5 hown hK.1 hP 0 rfl rfl 0 (by decide) hw2 (fun _ h9 => h9) rfl dX5_digest_59 ?_
      obtain ⟨x4, ex4, h⟩ := o_b h
      refine bcall_iV (As := []) (rest := [.int v3]) (c0 := [wG cI (a 1) (a 2) (a 3) (a 4) (a 5) (a 6) (a 7) (a 8) (a 9) (a 10) g_ft g_er g_eb g_li g_st g_rd g_tu g_la g_dl g_sh g_tb]) (c1 := [wG cI (a 1) (a 2) (a 3) (a 4) (a 5) (a 6) (a 7) (a 8) (a 9) (a 10) g_ft g_er g_eb g_li g_st g_rd g_tu g_la g_dl g_sh g_tb]) (bs2 := [[((a 0), .inr (5, [.ref (a 1), .ref (a 11), .ref (a 21), .ref (a 63)]))], wG cI (a 1) (a 2) (a 3) (a 4) (a 5) (a 6) (a 7) (a 8) (a 9) (a 10) g_ft g_er g_eb g_li g_st g_rd g_tu g_la g_dl g_sh g_tb, wG cI (a 11) (a 12) (a 13) (a 14) (a 15) (a 16) (a 17) (a 18) (a 19) (a 20) z_ft z_er z_eb z_li z_st z_rd z_tu z_la z_dl z_sh z_tb, wH cI cG (fun i => a (21 + i)) yc yp yg, wS cI (a 63) (a 64) (a 65) (a 66) (a 67) tx cm]) ⟨hx, hb, hml, hown, hts⟩ (cX1_listLength_ok l G cI cG (a 1) (a 2) (a 3) (a 4) (a 5) (a 6) (a 7) (a 8) (a 9) (a 10) g_ft g_er g_eb g_li g_st g_rd g_tu g_la g_dl g_sh g_tb x4 ex4) (cwV 0 hts gX5_digest_X1_listLength_88 rfl rfl rfl hdX1_listLength ⟨Nat.le_of_ble_eq_true rfl, Nat.le_of_ble_eq_true rfl⟩) hP hD hS hA hK 1 rfl rfl rfl [1] rfl rfl rfl rfl rfl rfl rfl rfl rfl hl.1 (Nat.le_of_ble_eq_true rfl) dX5_digest_62 ⟨Nat.zero_le _, Nat.zero_le _⟩ (fun H locs hP hD hS => ?_)
      refine lv_icmp_ge (tgt := 90) hx hb dX5_digest_65 (by decide) (fun hc => ?_) (fun hc => ?_)
      · have h := o_t h hc
        refine lv_aload_n hx hb dX5_digest_90 rfl (lv_at hl 0 rfl) ?_
        refine lv_lload_n hx hb dX5_digest_91 rfl (lv_at hl 1 rfl) ?_
        obtain ⟨x5, ex5, h⟩ := o_b h
        refine bcall_lV (As := [.long v1]) (rest := []) (c0 := [[((a 0), .inr (5, [.ref (a 1), .ref (a 11), .ref (a 21), .ref (a 63)]))], wG cI (a 1) (a 2) (a 3) (a 4) (a 5) (a 6) (a 7) (a 8) (a 9) (a 10) g_ft g_er g_eb g_li g_st g_rd g_tu g_la g_dl g_sh g_tb, wG cI (a 11) (a 12) (a 13) (a 14) (a 15) (a 16) (a 17) (a 18) (a 19) (a 20) z_ft z_er z_eb z_li z_st z_rd z_tu z_la z_dl z_sh z_tb, wH cI cG (fun i => a (21 + i)) yc yp yg, wS cI (a 63) (a 64) (a 65) (a 66) (a 67) tx cm]) (c1 := [[((a 0), .inr (5, [.ref (a 1), .ref (a 11), .ref (a 21), .ref (a 63)]))], wG cI (a 1) (a 2) (a 3) (a 4) (a 5) (a 6) (a 7) (a 8) (a 9) (a 10) g_ft g_er g_eb g_li g_st g_rd g_tu g_la g_dl g_sh g_tb, wG cI (a 11) (a 12) (a 13) (a 14) (a 15) (a 16) (a 17) (a 18) (a 19) (a 20) z_ft z_er z_eb z_li z_st z_rd z_tu z_la z_dl z_sh z_tb, wH cI cG (fun i => a (21 + i)) yc yp yg, wS cI (a 63) (a 64) (a 65) (a 66) (a 67) tx cm]) (bs2 := [[((a 0), .inr (5, [.ref (a 1), .ref (a 11), .ref (a 21), .ref (a 63)]))], wG cI (a 1) (a 2) (a 3) (a 4) (a 5) (a 6) (a 7) (a 8) (a 9) (a 10) g_ft g_er g_eb g_li g_st g_rd g_tu g_la g_dl g_sh g_tb, wG cI (a 11) (a 12) (a 13) (a 14) (a 15) (a 16) (a 17) (a 18) (a 19) (a 20) z_ft z_er z_eb z_li z_st z_rd z_tu z_la z_dl z_sh z_tb, wH cI cG (fun i => a (21 + i)) yc yp yg, wS cI (a 63) (a 64) (a 65) (a 66) (a 67) tx cm]) ⟨hx, hb, hml, hown, hts⟩ (cX5_withStack_ok l G cI cG a fu g_ft g_er g_eb g_li g_st g_rd g_tu g_la g_dl g_sh g_tb z_ft z_er z_eb z_li z_st z_rd z_tu z_la z_dl z_sh z_tb yc yp yg tx cm v1 x5 ex5) (cwV 1 hts gX5_digest_X5_withStack_213 rfl rfl rfl hdX5_withStack ⟨Nat.le_of_ble_eq_true rfl, Nat.le_of_ble_eq_true rfl⟩) hP hD hS hA hK 5 rfl rfl rfl [0, 1, 2, 3, 4] rfl rfl rfl rfl rfl rfl rfl rfl rfl hl.1 (Nat.le_of_ble_eq_true rfl) dX5_digest_92 ⟨Nat.zero_le _, Nat.zero_le _⟩ (fun H locs hP hD hS => ?_)
        refine lv_lstore_n (lv' := [(1, .long x5), (0, .ref (a 0)), (3, .int v3)]) hx hb dX5_digest_95 rfl hl (by decide) rfl (fun ls hl => ?_)
        refine lv_ldc2 (v := 31) hx hb hown hw3 dX5_digest_96 ?_
        refine lv_lload_n hx hb dX5_digest_99 rfl (lv_at hl 0 rfl) ?_
        refine lv_lmul hx hb dX5_digest_100 ?_
        refine lv_aload_n hx hb dX5_digest_101 rfl (lv_at hl 1 rfl) ?_
        refine va_get (D := G) (ci := 5) (v := .ref (a 21)) (C := RX5) (T := TX5) (N := 4) hx hb hts huX5_digest_X5 hown hK.1 hP 0 rfl rfl 2 (by decide) hw4 (fun _ h9 => h9) rfl dX5_digest_102 ?_
        obtain ⟨x6, ex6, h⟩ := o_b h
        refine bcall_iV (As := []) (rest := [.long ((31 : Int64) * x5)]) (c0 := [wH cI cG (fun i => a (21 + i)) yc yp yg]) (c1 := [wH cI cG (fun i => a (21 + i)) yc yp yg]) (bs2 := [[((a 0), .inr (5, [.ref (a 1), .ref (a 11), .ref (a 21), .ref (a 63)]))], wG cI (a 1) (a 2) (a 3) (a 4) (a 5) (a 6) (a 7) (a 8) (a 9) (a 10) g_ft g_er g_eb g_li g_st g_rd g_tu g_la g_dl g_sh g_tb, wG cI (a 11) (a 12) (a 13) (a 14) (a 15) (a 16) (a 17) (a 18) (a 19) (a 20) z_ft z_er z_eb z_li z_st z_rd z_tu z_la z_dl z_sh z_tb, wH cI cG (fun i => a (21 + i)) yc yp yg, wS cI (a 63) (a 64) (a 65) (a 66) (a 67) tx cm]) ⟨hx, hb, hml, hown, hts⟩ (cX2_size_ok l G cI cG (fun i => a (21 + i)) yc yp yg x6 ex6) (cwV 0 hts gX5_digest_X2_size_196 rfl rfl rfl hdX2_size ⟨Nat.le_of_ble_eq_true rfl, Nat.le_of_ble_eq_true rfl⟩) hP hD hS hA hK 2 rfl rfl rfl [3] rfl rfl rfl rfl rfl rfl rfl rfl rfl hl.1 (Nat.le_of_ble_eq_true rfl) dX5_digest_105 ⟨Nat.zero_le _, Nat.zero_le _⟩ (fun H locs hP hD hS => ?_)
        refine lv_i2l (v := (x6).toInt64) hx hb dX5_digest_108 rfl ?_
        refine lv_ladd hx hb dX5_digest_109 ?_
        obtain rfl := o_s h
        rw [hQ]
        exact end_l hx hb hr rfl hP hD hS dX5_digest_110 hlocks
      · have h := o_f h hc
        refine lv_ldc2 (v := 31) hx hb hown hw3 dX5_digest_68 ?_
        refine lv_lload_n hx hb dX5_digest_71 rfl (lv_at hl 1 rfl) ?_
        refine lv_lmul hx hb dX5_digest_72 ?_
        refine lv_aload_n hx hb dX5_digest_73 rfl (lv_at hl 0 rfl) ?_
        refine va_get (D := G) (ci := 5) (v := .ref (a 1)) (C := RX5) (T := TX5) (N := 4) hx hb hts huX5_digest_X5 hown hK.1 hP 0 rfl rfl 0 (by decide) hw2 (fun _ h9 => h9) rfl dX5_digest_74 ?_
        refine lv_iload_n hx hb dX5_digest_77 rfl (lv_at hl 2 rfl) ?_
        obtain ⟨x7, ex7, h⟩ := o_b h
        refine bcall_iV (As := [.int v3]) (rest := [.long ((31 : Int64) * v1)]) (c0 := [wG cI (a 1) (a 2) (a 3) (a 4) (a 5) (a 6) (a 7) (a 8) (a 9) (a 10) g_ft g_er g_eb g_li g_st g_rd g_tu g_la g_dl g_sh g_tb]) (c1 := [wG cI (a 1) (a 2) (a 3) (a 4) (a 5) (a 6) (a 7) (a 8) (a 9) (a 10) g_ft g_er g_eb g_li g_st g_rd g_tu g_la g_dl g_sh g_tb]) (bs2 := [[((a 0), .inr (5, [.ref (a 1), .ref (a 11), .ref (a 21), .ref (a 63)]))], wG cI (a 1) (a 2) (a 3) (a 4) (a 5) (a 6) (a 7) (a 8) (a 9) (a 10) g_ft g_er g_eb g_li g_st g_rd g_tu g_la g_dl g_sh g_tb, wG cI (a 11) (a 12) (a 13) (a 14) (a 15) (a 16) (a 17) (a 18) (a 19) (a 20) z_ft z_er z_eb z_li z_st z_rd z_tu z_la z_dl z_sh z_tb, wH cI cG (fun i => a (21 + i)) yc yp yg, wS cI (a 63) (a 64) (a 65) (a 66) (a 67) tx cm]) ⟨hx, hb, hml, hown, hts⟩ (cX1_listed_ok l G cI cG (a 1) (a 2) (a 3) (a 4) (a 5) (a 6) (a 7) (a 8) (a 9) (a 10) g_ft g_er g_eb g_li g_st g_rd g_tu g_la g_dl g_sh g_tb v3 x7 ex7) (cwV 1 hts gX5_digest_X1_listed_96 rfl rfl rfl hdX1_listed ⟨Nat.le_of_ble_eq_true rfl, Nat.le_of_ble_eq_true rfl⟩) hP hD hS hA hK 1 rfl rfl rfl [1] rfl rfl rfl rfl rfl rfl rfl rfl rfl hl.1 (Nat.le_of_ble_eq_true rfl) dX5_digest_78 ⟨Nat.zero_le _, Nat.zero_le _⟩ (fun H locs hP hD hS => ?_)
        refine lv_i2l (v := (x7).toInt64) hx hb dX5_digest_81 rfl ?_
        refine lv_ladd hx hb dX5_digest_82 ?_
        refine lv_lstore_n (lv' := [(1, .long (((31 : Int64) * v1) + ((x7).toInt64))), (0, .ref (a 0)), (3, .int v3)]) hx hb dX5_digest_83 rfl hl (by decide) rfl (fun ls hl => ?_)
        refine lv_iinc (v := (v3 + 1)) (lv' := [(3, .int (v3 + 1)), (1, .long (((31 : Int64) * v1) + ((x7).toInt64))), (0, .ref (a 0))]) hx hb dX5_digest_84 hl (k := 2) rfl rfl (by decide) rfl (fun ls hl => ?_)
        refine lv_goto (tgt := 57) hx hb dX5_digest_87 (by decide) ?_
        exact ih (((31 : Int64) * v1) + ((x7).toInt64)) (v3 + 1) _ _ _ h hP hD hS (lv_sub hl [2, 1, 0] rfl)
  have L15 : ∀  (k : Nat) (v1 : Int64) (v3 : Int32) (H : Heap) (locs : List Loc) (ls : Array Slot), fX5_digest_L15 fu g_ft g_er g_eb g_li g_st g_rd g_tu g_sh g_tb yc tx k v1 v3 = some out → va_P G vwCl (([[((a 0), .inr (5, [.ref (a 1), .ref (a 11), .ref (a 21), .ref (a 63)]))], wG cI (a 1) (a 2) (a 3) (a 4) (a 5) (a 6) (a 7) (a 8) (a 9) (a 10) g_ft g_er g_eb g_li g_st g_rd g_tu g_la g_dl g_sh g_tb, wG cI (a 11) (a 12) (a 13) (a 14) (a 15) (a 16) (a 17) (a 18) (a 19) (a 20) z_ft z_er z_eb z_li z_st z_rd z_tu z_la z_dl z_sh z_tb, wH cI cG (fun i => a (21 + i)) yc yp yg, wS cI (a 63) (a 64) (a 65) (a 66) (a 67) tx cm] : List va_W).flatten) H → va_D A (([[((a 0), .inr (5, [.ref (a 1), .ref (a 11), .ref (a 21), .ref (a 63)]))], wG cI (a 1) (a 2) (a 3) (a 4) (a 5) (a 6) (a 7) (a 8) (a 9) (a 10) g_ft g_er g_eb g_li g_st g_rd g_tu g_la g_dl g_sh g_tb, wG cI (a 11) (a 12) (a 13) (a 14) (a 15) (a 16) (a 17) (a 18) (a 19) (a 20) z_ft z_er z_eb z_li z_st z_rd z_tu z_la z_dl z_sh z_tb, wH cI cG (fun i => a (21 + i)) yc yp yg, wS cI (a 63) (a 64) (a 65) (a 66) (a 67) tx cm] : List va_W).flatten) → va_S A s.heap H locs → lv_has ls 4 [(0, .ref (a 0)), (1, .long v1), (3, .int v3)] → W p l e ({ frames := 5, cells := 0, slots := 0, locals := 118 } : Room) s m ([.ref (a 0)] : List Value).toArray below meth c H locs 0 0 Q (F0 m 15 ls []) := by
    intro  k
    induction k with
    | zero => intro v1 v3 H locs ls h hP hD hS hl; rw [fX5_digest_L15] at h; exact o_n h
    | succ k ih =>
      intro v1 v3 H locs ls h hP hD hS hl
      rw [fX5_digest_L15] at h
      refine lv_iload_n hx hb dX5_digest_15 rfl (lv_at hl 2 rfl) ?_
      refine lv_bipush (v := 8) hx hb dX5_digest_16 (by decide) ?_
      refine lv_icmp_gt (tgt := 43) hx hb dX5_digest_18 (by decide) (fun hc => ?_) (fun hc => ?_)
      · have h := o_t h hc
        refine lv_aload_n hx hb dX5_digest_43 rfl (lv_at hl 0 rfl) ?_
        refine lv_lload_n hx hb dX5_digest_44 rfl (lv_at hl 1 rfl) ?_
        obtain ⟨x2, ex2, h⟩ := o_b h
        refine bcall_lV (As := [.long v1]) (rest := []) (c0 := [[((a 0), .inr (5, [.ref (a 1), .ref (a 11), .ref (a 21), .ref (a 63)]))], wG cI (a 1) (a 2) (a 3) (a 4) (a 5) (a 6) (a 7) (a 8) (a 9) (a 10) g_ft g_er g_eb g_li g_st g_rd g_tu g_la g_dl g_sh g_tb, wG cI (a 11) (a 12) (a 13) (a 14) (a 15) (a 16) (a 17) (a 18) (a 19) (a 20) z_ft z_er z_eb z_li z_st z_rd z_tu z_la z_dl z_sh z_tb, wH cI cG (fun i => a (21 + i)) yc yp yg, wS cI (a 63) (a 64) (a 65) (a 66) (a 67) tx cm]) (c1 := [[((a 0), .inr (5, [.ref (a 1), .ref (a 11), .ref (a 21), .ref (a 63)]))], wG cI (a 1) (a 2) (a 3) (a 4) (a 5) (a 6) (a 7) (a 8) (a 9) (a 10) g_ft g_er g_eb g_li g_st g_rd g_tu g_la g_dl g_sh g_tb, wG cI (a 11) (a 12) (a 13) (a 14) (a 15) (a 16) (a 17) (a 18) (a 19) (a 20) z_ft z_er z_eb z_li z_st z_rd z_tu z_la z_dl z_sh z_tb, wH cI cG (fun i => a (21 + i)) yc yp yg, wS cI (a 63) (a 64) (a 65) (a 66) (a 67) tx cm]) (bs2 := [[((a 0), .inr (5, [.ref (a 1), .ref (a 11), .ref (a 21), .ref (a 63)]))], wG cI (a 1) (a 2) (a 3) (a 4) (a 5) (a 6) (a 7) (a 8) (a 9) (a 10) g_ft g_er g_eb g_li g_st g_rd g_tu g_la g_dl g_sh g_tb, wG cI (a 11) (a 12) (a 13) (a 14) (a 15) (a 16) (a 17) (a 18) (a 19) (a 20) z_ft z_er z_eb z_li z_st z_rd z_tu z_la z_dl z_sh z_tb, wH cI cG (fun i => a (21 + i)) yc yp yg, wS cI (a 63) (a 64) (a 65) (a 66) (a 67) tx cm]) ⟨hx, hb, hml, hown, hts⟩ (cX5_withFighters_ok l G cI cG a fu g_ft g_er g_eb g_li g_st g_rd g_tu g_la g_dl g_sh g_tb z_ft z_er z_eb z_li z_st z_rd z_tu z_la z_dl z_sh z_tb yc yp yg tx cm v1 x2 ex2) (cwV 1 hts gX5_digest_X5_withFighters_206 rfl rfl rfl hdX5_withFighters ⟨Nat.le_of_ble_eq_true rfl, Nat.le_of_ble_eq_true rfl⟩) hP hD hS hA hK 5 rfl rfl rfl [0, 1, 2, 3, 4] rfl rfl rfl rfl rfl rfl rfl rfl rfl hl.1 (Nat.le_of_ble_eq_true rfl) dX5_digest_45 ⟨Nat.zero_le _, Nat.zero_le _⟩ (fun H locs hP hD hS => ?_)
        refine lv_lstore_n (lv' := [(1, .long x2), (0, .ref (a 0)), (3, .int v3)]) hx hb dX5_digest_48 rfl hl (by decide) rfl (fun ls hl => ?_)
        refine lv_aload_n hx hb dX5_digest_49 rfl (lv_at hl 1 rfl) ?_
        refine lv_lload_n hx hb dX5_digest_50 rfl (lv_at hl 0 rfl) ?_
        obtain ⟨x3, ex3, h⟩ := o_b h
        refine bcall_lV (As := [.long x2]) (rest := []) (c0 := [[((a 0), .inr (5, [.ref (a 1), .ref (a 11), .ref (a 21), .ref (a 63)]))], wG cI (a 1) (a 2) (a 3) (a 4) (a 5) (a 6) (a 7) (a 8) (a 9) (a 10) g_ft g_er g_eb g_li g_st g_rd g_tu g_la g_dl g_sh g_tb, wG cI (a 11) (a 12) (a 13) (a 14) (a 15) (a 16) (a 17) (a 18) (a 19) (a 20) z_ft z_er z_eb z_li z_st z_rd z_tu z_la z_dl z_sh z_tb, wH cI cG (fun i => a (21 + i)) yc yp yg, wS cI (a 63) (a 64) (a 65) (a 66) (a 67) tx cm]) (c1 := [[((a 0), .inr (5, [.ref (a 1), .ref (a 11), .ref (a 21), .ref (a 63)]))], wG cI (a 1) (a 2) (a 3) (a 4) (a 5) (a 6) (a 7) (a 8) (a 9) (a 10) g_ft g_er g_eb g_li g_st g_rd g_tu g_la g_dl g_sh g_tb, wG cI (a 11) (a 12) (a 13) (a 14) (a 15) (a 16) (a 17) (a 18) (a 19) (a 20) z_ft z_er z_eb z_li z_st z_rd z_tu z_la z_dl z_sh z_tb, wH cI cG (fun i => a (21 + i)) yc yp yg, wS cI (a 63) (a 64) (a 65) (a 66) (a 67) tx cm]) (bs2 := [[((a 0), .inr (5, [.ref (a 1), .ref (a 11), .ref (a 21), .ref (a 63)]))], wG cI (a 1) (a 2) (a 3) (a 4) (a 5) (a 6) (a 7) (a 8) (a 9) (a 10) g_ft g_er g_eb g_li g_st g_rd g_tu g_la g_dl g_sh g_tb, wG cI (a 11) (a 12) (a 13) (a 14) (a 15) (a 16) (a 17) (a 18) (a 19) (a 20) z_ft z_er z_eb z_li z_st z_rd z_tu z_la z_dl z_sh z_tb, wH cI cG (fun i => a (21 + i)) yc yp yg, wS cI (a 63) (a 64) (a 65) (a 66) (a 67) tx cm]) ⟨hx, hb, hml, hown, hts⟩ (cX5_withEffects_ok l G cI cG a fu g_ft g_er g_eb g_li g_st g_rd g_tu g_la g_dl g_sh g_tb z_ft z_er z_eb z_li z_st z_rd z_tu z_la z_dl z_sh z_tb yc yp yg tx cm x2 x3 ex3) (cwV 1 hts gX5_digest_X5_withEffects_210 rfl rfl rfl hdX5_withEffects ⟨Nat.le_of_ble_eq_true rfl, Nat.le_of_ble_eq_true rfl⟩) hP hD hS hA hK 5 rfl rfl rfl [0, 1, 2, 3, 4] rfl rfl rfl rfl rfl rfl rfl rfl rfl hl.1 (Nat.le_of_ble_eq_true rfl) dX5_digest_51 ⟨Nat.zero_le _, Nat.zero_le _⟩ (fun H locs hP hD hS => ?_)
        refine lv_lstore_n (lv' := [(1, .long x3), (0, .ref (a 0)), (3, .int v3)]) hx hb dX5_digest_54 rfl hl (by decide) rfl (fun ls hl => ?_)
        refine lv_iconst (v := 0) hx hb dX5_digest_55 (by decide) ?_
        refine lv_istore_n (lv' := [(3, .int (0 : Int32)), (1, .long x3), (0, .ref (a 0))]) hx hb dX5_digest_56 rfl hl (by decide) rfl (fun ls hl => ?_)
        exact L57 fu x3 (0 : Int32) _ _ _ h hP hD hS (lv_sub hl [2, 1, 0] rfl)
      · have h := o_f h hc
        refine lv_ldc2 (v := 31) hx hb hown hw3 dX5_digest_21 ?_
        refine lv_lload_n hx hb dX5_digest_24 rfl (lv_at hl 1 rfl) ?_
        refine lv_lmul hx hb dX5_digest_25 ?_
        refine lv_aload_n hx hb dX5_digest_26 rfl (lv_at hl 0 rfl) ?_
        refine va_get (D := G) (ci := 5) (v := .ref (a 1)) (C := RX5) (T := TX5) (N := 4) hx hb hts huX5_digest_X5 hown hK.1 hP 0 rfl rfl 0 (by decide) hw2 (fun _ h9 => h9) rfl dX5_digest_27 ?_
        refine lv_iload_n hx hb dX5_digest_30 rfl (lv_at hl 2 rfl) ?_
        obtain ⟨x8, ex8, h⟩ := o_b h
        refine bcall_iV (As := [.int v3]) (rest := [.long ((31 : Int64) * v1)]) (c0 := [wG cI (a 1) (a 2) (a 3) (a 4) (a 5) (a 6) (a 7) (a 8) (a 9) (a 10) g_ft g_er g_eb g_li g_st g_rd g_tu g_la g_dl g_sh g_tb]) (c1 := [wG cI (a 1) (a 2) (a 3) (a 4) (a 5) (a 6) (a 7) (a 8) (a 9) (a 10) g_ft g_er g_eb g_li g_st g_rd g_tu g_la g_dl g_sh g_tb]) (bs2 := [[((a 0), .inr (5, [.ref (a 1), .ref (a 11), .ref (a 21), .ref (a 63)]))], wG cI (a 1) (a 2) (a 3) (a 4) (a 5) (a 6) (a 7) (a 8) (a 9) (a 10) g_ft g_er g_eb g_li g_st g_rd g_tu g_la g_dl g_sh g_tb, wG cI (a 11) (a 12) (a 13) (a 14) (a 15) (a 16) (a 17) (a 18) (a 19) (a 20) z_ft z_er z_eb z_li z_st z_rd z_tu z_la z_dl z_sh z_tb, wH cI cG (fun i => a (21 + i)) yc yp yg, wS cI (a 63) (a 64) (a 65) (a 66) (a 67) tx cm]) ⟨hx, hb, hml, hown, hts⟩ (cX1_number_ok l G cI cG (a 1) (a 2) (a 3) (a 4) (a 5) (a 6) (a 7) (a 8) (a 9) (a 10) fu g_ft g_er g_eb g_li g_st g_rd g_tu g_la g_dl g_sh g_tb v3 x8 ex8) (cwV 1 hts gX5_digest_X1_number_85 rfl rfl rfl hdX1_number ⟨Nat.le_of_ble_eq_true rfl, Nat.le_of_ble_eq_true rfl⟩) hP hD hS hA hK 1 rfl rfl rfl [1] rfl rfl rfl rfl rfl rfl rfl rfl rfl hl.1 (Nat.le_of_ble_eq_true rfl) dX5_digest_31 ⟨Nat.zero_le _, Nat.zero_le _⟩ (fun H locs hP hD hS => ?_)
        refine lv_i2l (v := (x8).toInt64) hx hb dX5_digest_34 rfl ?_
        refine lv_ladd hx hb dX5_digest_35 ?_
        refine lv_lstore_n (lv' := [(1, .long (((31 : Int64) * v1) + ((x8).toInt64))), (0, .ref (a 0)), (3, .int v3)]) hx hb dX5_digest_36 rfl hl (by decide) rfl (fun ls hl => ?_)
        refine lv_iinc (v := (v3 + 1)) (lv' := [(3, .int (v3 + 1)), (1, .long (((31 : Int64) * v1) + ((x8).toInt64))), (0, .ref (a 0))]) hx hb dX5_digest_37 hl (k := 2) rfl rfl (by decide) rfl (fun ls hl => ?_)
        refine lv_goto (tgt := 15) hx hb dX5_digest_40 (by decide) ?_
        exact ih (((31 : Int64) * v1) + ((x8).toInt64)) (v3 + 1) _ _ _ h hP hD hS (lv_sub hl [2, 1, 0] rfl)
  have h := hf
  rw [fX5_digest] at h
  have hl := lv_entry ([.ref (a 0)]) (n := 4) (Nat.le_of_ble_eq_true rfl)
  rw [lg_entry_eq]
  generalize (lg_sl ([.ref (a 0)]) ++ List.replicate (4 - (lg_sl ([.ref (a 0)])).length) Slot.unset).toArray = ls at hl ⊢
  have hl : lv_has ls 4 [(0, .ref (a 0))] := hl
  refine lv_ldc2 (v := 103633) hx hb hown hw0 dX5_digest_0 ?_
  refine lv_aload_n hx hb dX5_digest_3 rfl (lv_at hl 0 rfl) ?_
  refine va_get (D := G) (ci := 5) (v := .ref (a 63)) (C := RX5) (T := TX5) (N := 4) hx hb hts huX5_digest_X5 hown hK.1 hP 0 rfl rfl 3 (by decide) hw1 (fun _ h9 => h9) rfl dX5_digest_4 ?_
  obtain ⟨x1, ex1, h⟩ := o_b h
  refine bcall_iV (As := []) (rest := [.long (103633 : Int64)]) (c0 := [wS cI (a 63) (a 64) (a 65) (a 66) (a 67) tx cm]) (c1 := [wS cI (a 63) (a 64) (a 65) (a 66) (a 67) tx cm]) (bs2 := [[((a 0), .inr (5, [.ref (a 1), .ref (a 11), .ref (a 21), .ref (a 63)]))], wG cI (a 1) (a 2) (a 3) (a 4) (a 5) (a 6) (a 7) (a 8) (a 9) (a 10) g_ft g_er g_eb g_li g_st g_rd g_tu g_la g_dl g_sh g_tb, wG cI (a 11) (a 12) (a 13) (a 14) (a 15) (a 16) (a 17) (a 18) (a 19) (a 20) z_ft z_er z_eb z_li z_st z_rd z_tu z_la z_dl z_sh z_tb, wH cI cG (fun i => a (21 + i)) yc yp yg, wS cI (a 63) (a 64) (a 65) (a 66) (a 67) tx cm]) ⟨hx, hb, hml, hown, hts⟩ (cX3_length_ok l G cI cG (a 63) (a 64) (a 65) (a 66) (a 67) tx cm x1 ex1) (cwV 0 hts gX5_digest_X3_length_177 rfl rfl rfl hdX3_length ⟨Nat.le_of_ble_eq_true rfl, Nat.le_of_ble_eq_true rfl⟩) hP hD hS hA hK 3 rfl rfl rfl [4] rfl rfl rfl rfl rfl rfl rfl rfl rfl hl.1 (Nat.le_of_ble_eq_true rfl) dX5_digest_7 ⟨Nat.zero_le _, Nat.zero_le _⟩ (fun H locs hP hD hS => ?_)
  refine lv_i2l (v := (x1).toInt64) hx hb dX5_digest_10 rfl ?_
  refine lv_ladd hx hb dX5_digest_11 ?_
  refine lv_lstore_n (lv' := [(1, .long ((103633 : Int64) + ((x1).toInt64))), (0, .ref (a 0))]) hx hb dX5_digest_12 rfl hl (by decide) rfl (fun ls hl => ?_)
  refine lv_iconst (v := 0) hx hb dX5_digest_13 (by decide) ?_
  refine lv_istore_n (lv' := [(3, .int (0 : Int32)), (1, .long ((103633 : Int64) + ((x1).toInt64))), (0, .ref (a 0))]) hx hb dX5_digest_14 rfl hl (by decide) rfl (fun ls hl => ?_)
  exact L15 fu ((103633 : Int64) + ((x1).toInt64)) (0 : Int32) _ _ _ h hP hD hS (lv_sub hl [2, 1, 0] rfl)
