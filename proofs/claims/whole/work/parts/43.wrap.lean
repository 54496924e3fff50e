theorem hdL_add : yL_add.cls ≠ "java/lang/invoke/MethodHandle" ∧ yL_add.cls ≠ "java/lang/invoke/VarHandle" ∧ (parseMethodDescriptor yL_add.desc).map (fun d => d.parameters.length) = some 4 := by decide +kernel
set_option maxHeartbeats 4000000 in
set_option maxRecDepth 100000 in
theorem cL_add_ok (l : Launch) (hlf : l.stackTraces = false) (G : va_G) (cI cG cL : ClassId) (a : Nat → Nat) (o : Nat) (fu : Nat) (g_ft : Tab) (g_er : Tab) (g_eb : Int32) (g_li : Tab) (g_st : Tab) (g_rd : Int32) (g_tu : Int32) (g_la : Int32) (g_dl : Bool) (g_sh : Int32) (g_tb : Int32) (z_ft : Tab) (z_er : Tab) (z_eb : Int32) (z_li : Tab) (z_st : Tab) (z_rd : Int32) (z_tu : Int32) (z_la : Int32) (z_dl : Bool) (z_sh : Int32) (z_tb : Int32) (yc : Int32) (yp : (Nat → Nat)) (yg : (Nat → GV)) (tx : Tab) (cm : Tab) (ol : Nat → Int64) (p1 : Int32) (p2 : Int32) (out : String ⊕ (Int32 × Tab × Int32 × (Nat → Nat) × (Nat → GV))) (hf : fX5_add fu g_ft g_er g_eb g_li g_st g_rd g_tu g_la g_dl g_sh g_tb yc yp yg p1 p2 = some out) (hE : ∀ E, out = .inl E → E = "java/lang/IllegalArgumentException" ∨ E = "java/lang/IllegalStateException") : LI l G (tyl cI cG cL) yL_add wsL_add ({ frames := 7, cells := 1, slots := 6, locals := 167 } : Room) [.ref (a 0), .int p1, .int p2, .ref o] (([[((a 0), .inr (8, [.ref (a 1), .ref (a 11), .ref (a 21), .ref (a 63)]))], wG cI (a 1) (a 2) (a 3) (a 4) (a 5) (a 6) (a 7) (a 8) (a 9) (a 10) g_ft g_er g_eb g_li g_st g_rd g_tu g_la g_dl g_sh g_tb, wG cI (a 11) (a 12) (a 13) (a 14) (a 15) (a 16) (a 17) (a 18) (a 19) (a 20) z_ft z_er z_eb z_li z_st z_rd z_tu z_la z_dl z_sh z_tb, wH cI cG (fun i => a (21 + i)) yc yp yg, wS cI (a 63) (a 64) (a 65) (a 66) (a 67) tx cm, [(o, .inl (cL, 1, .inr (.inl ol)))]] : List va_W).flatten) (out.elim (fun E => if E = "java/lang/IllegalArgumentException" then 1 else if E = "java/lang/IllegalStateException" then 2 else 0) (fun _ => 0)) (out.elim (fun _ => ([[((a 0), .inr (8, [.ref (a 1), .ref (a 11), .ref (a 21), .ref (a 63)]))], wG cI (a 1) (a 2) (a 3) (a 4) (a 5) (a 6) (a 7) (a 8) (a 9) (a 10) g_ft g_er g_eb g_li g_st g_rd g_tu g_la g_dl g_sh g_tb, wG cI (a 11) (a 12) (a 13) (a 14) (a 15) (a 16) (a 17) (a 18) (a 19) (a 20) z_ft z_er z_eb z_li z_st z_rd z_tu z_la z_dl z_sh z_tb, wH cI cG (fun i => a (21 + i)) yc yp yg, wS cI (a 63) (a 64) (a 65) (a 66) (a 67) tx cm, [(o, .inl (cL, 1, .inr (.inl ol)))]] : List va_W).flatten) (fun u : Int32 × Tab × Int32 × (Nat → Nat) × (Nat → GV) => ([[((a 0), .inr (8, [.ref (a 1), .ref (a 11), .ref (a 21), .ref (a 63)]))], wG cI (a 1) (a 2) (a 3) (a 4) (a 5) (a 6) (a 7) (a 8) (a 9) (a 10) u.2.1 g_er g_eb g_li g_st g_rd g_tu g_la g_dl g_sh g_tb, wG cI (a 11) (a 12) (a 13) (a 14) (a 15) (a 16) (a 17) (a 18) (a 19) (a 20) z_ft z_er z_eb z_li z_st z_rd z_tu z_la z_dl z_sh z_tb, wH cI cG (fun i => a (21 + i)) u.2.2.1 u.2.2.2.1 u.2.2.2.2, wS cI (a 63) (a 64) (a 65) (a 66) (a 67) tx cm, [(o, .inl (cL, 1, .inr (.inl (vp_updL ol (0 : Int32).toNatClampNeg (u.1 : Int32).toInt64))))]] : List va_W).flatten)) 1 6 := by
  intro sz
  apply met_of_vx
  refine vx_ofWH (cc := cL_add) (maxL := 5) (ret := (some .int)) (by decide) rfl ?_
  intro p e s m args below meth c s₁ B hml hv
  obtain ⟨rfl, ⟨hsz, hP, hK, hD0⟩, hX, hZ, hN⟩ := hv
  have hx := B.exec
  have hb := B.bytes
  have hr := B.returns
  have hts := atoms_spec (ws := wsL_add) B.pre
  have hown : s.vm.findClass RL = some m.cls := findClass_of_methodNamed B.named
  have hlocks := B.notSynchronized
  have hTb : c.exceptionTable.toList = tableOf [(0, 10, 13, 13), (0, 10, 17, 15)] := vx_table (x := yL_add) B (hts _ List.mem_cons_self)
  subst hsz
  have hD := hD0.self (sz := s.heap.size)
  generalize hAe : va_A (([[((a 0), .inr (8, [.ref (a 1), .ref (a 11), .ref (a 21), .ref (a 63)]))], wG cI (a 1) (a 2) (a 3) (a 4) (a 5) (a 6) (a 7) (a 8) (a 9) (a 10) g_ft g_er g_eb g_li g_st g_rd g_tu g_la g_dl g_sh g_tb, wG cI (a 11) (a 12) (a 13) (a 14) (a 15) (a 16) (a 17) (a 18) (a 19) (a 20) z_ft z_er z_eb z_li z_st z_rd z_tu z_la z_dl z_sh z_tb, wH cI cG (fun i => a (21 + i)) yc yp yg, wS cI (a 63) (a 64) (a 65) (a 66) (a 67) tx cm, [(o, .inl (cL, 1, .inr (.inl ol)))]] : List va_W).flatten) s.heap.size = A at hD hZ ⊢
  have hA : ∀ q : Nat, s.heap.size ≤ q → A q := fun q h => by rw [← hAe]; exact Or.inr h
  have hS : va_S A s.heap s.heap [] := va_S.rf
  have hw0 := hts (.classLink RL 13 "java/lang/IllegalArgumentException") (List.mem_of_getElem? (i := 1) rfl)
  have hw1 := hts (.classLink RL 15 "java/lang/IllegalStateException") (List.mem_of_getElem? (i := 2) rfl)
  show W p l e ({ frames := 7, cells := 1, slots := 6, locals := 167 } : Room) s m _ below meth c s.heap [] 0 0 _ _
  refine W_genQ (fun Q hQ => ?_)
  have hl := lv_entry ([.ref (a 0), .int p1, .int p2, .ref o]) (n := 5) (Nat.le_of_ble_eq_true rfl)
  rw [lg_entry_eq]
  generalize (lg_sl ([.ref (a 0), .int p1, .int p2, .ref o]) ++ List.replicate (5 - (lg_sl ([.ref (a 0), .int p1, .int p2, .ref o])).length) Slot.unset).toArray = ls at hl ⊢
  have hl : lv_has ls 5 [(0, .ref (a 0)), (1, .int p1), (2, .int p2), (3, .ref o)] := hl
  refine lv_aload_n hx hb dL_add_0 rfl (lv_at hl 3 rfl) ?_
  refine lv_iconst (v := 0) hx hb dL_add_1 (by decide) ?_
  refine lv_aload_n hx hb dL_add_2 rfl (lv_at hl 0 rfl) ?_
  refine lv_iload_n hx hb dL_add_3 rfl (lv_at hl 1 rfl) ?_
  refine lv_iload_n hx hb dL_add_4 rfl (lv_at hl 2 rfl) ?_
  refine xcall_iV (As := [.int p1, .int p2]) (rest := [.int 0, .ref o]) (c0 := [[((a 0), .inr (8, [.ref (a 1), .ref (a 11), .ref (a 21), .ref (a 63)]))], wG cI (a 1) (a 2) (a 3) (a 4) (a 5) (a 6) (a 7) (a 8) (a 9) (a 10) g_ft g_er g_eb g_li g_st g_rd g_tu g_la g_dl g_sh g_tb, wG cI (a 11) (a 12) (a 13) (a 14) (a 15) (a 16) (a 17) (a 18) (a 19) (a 20) z_ft z_er z_eb z_li z_st z_rd z_tu z_la z_dl z_sh z_tb, wH cI cG (fun i => a (21 + i)) yc yp yg, wS cI (a 63) (a 64) (a 65) (a 66) (a 67) tx cm]) ⟨hx, hb, hml, hown, hts⟩ (cX5_add_ok l hlf G cI cG a fu g_ft g_er g_eb g_li g_st g_rd g_tu g_la g_dl g_sh g_tb z_ft z_er z_eb z_li z_st z_rd z_tu z_la z_dl z_sh z_tb yc yp yg tx cm p1 p2 out hf) (cwV 2 hts gL_add_X5_add rfl rfl rfl hdX5_add ⟨Nat.le_of_ble_eq_true rfl, Nat.le_of_ble_eq_true rfl⟩) hP hD hS hA (tyl_z hK) hX hZ 8 rfl rfl rfl [0, 1, 2, 3, 4] rfl rfl rfl rfl rfl (fun u : Int32 × Tab × Int32 × (Nat → Nat) × (Nat → GV) => [[((a 0), .inr (8, [.ref (a 1), .ref (a 11), .ref (a 21), .ref (a 63)]))], wG cI (a 1) (a 2) (a 3) (a 4) (a 5) (a 6) (a 7) (a 8) (a 9) (a 10) u.2.1 g_er g_eb g_li g_st g_rd g_tu g_la g_dl g_sh g_tb, wG cI (a 11) (a 12) (a 13) (a 14) (a 15) (a 16) (a 17) (a 18) (a 19) (a 20) z_ft z_er z_eb z_li z_st z_rd z_tu z_la z_dl z_sh z_tb, wH cI cG (fun i => a (21 + i)) u.2.2.1 u.2.2.2.1 u.2.2.2.2, wS cI (a 63) (a 64) (a 65) (a 66) (a 67) tx cm]) (fun u : Int32 × Tab × Int32 × (Nat → Nat) × (Nat → GV) => [[((a 0), .inr (8, [.ref (a 1), .ref (a 11), .ref (a 21), .ref (a 63)]))], wG cI (a 1) (a 2) (a 3) (a 4) (a 5) (a 6) (a 7) (a 8) (a 9) (a 10) u.2.1 g_er g_eb g_li g_st g_rd g_tu g_la g_dl g_sh g_tb, wG cI (a 11) (a 12) (a 13) (a 14) (a 15) (a 16) (a 17) (a 18) (a 19) (a 20) z_ft z_er z_eb z_li z_st z_rd z_tu z_la z_dl z_sh z_tb, wH cI cG (fun i => a (21 + i)) u.2.2.1 u.2.2.2.1 u.2.2.2.2, wS cI (a 63) (a 64) (a 65) (a 66) (a 67) tx cm, [(o, .inl (cL, 1, .inr (.inl ol)))]]) (fun _ => rfl) (fun _ => rfl) (fun _ => rfl) (fun _ => rfl) rfl rfl hl.1 (Nat.le_of_ble_eq_true rfl) dL_add_5 ⟨Nat.le_of_ble_eq_true rfl, Nat.le_of_ble_eq_true rfl⟩ (fun E H locs ce q9 ho hP hD hS hcell hv hcl => ?_) (fun u H locs ho hP hD hS => ?_)
  · rcases hE E ho with rfl | rfl
    · subst ho
      refine vx_catch hown [] ⟨0, 10, 13, 13⟩ [⟨0, 10, 17, 15⟩] hTb (fun z hz => by cases hz) (by decide) (by decide) hw0 (va_Nw.use rfl hX.1.1) hcell hv hcl ?_
      refine lv_astore (lv' := [(4, .ref q9), (0, .ref (a 0)), (1, .int p1), (2, .int p2), (3, .ref o)]) hx hb dL_add_13 hl (by decide) rfl (fun ls hl => ?_)
      refine lv_iconst (v := 1) hx hb dL_add_15 (by decide) ?_
      rw [hQ]
      exact lend_i hx hb hr (by decide) hP hD hS dL_add_16 hlocks (Nat.le_of_ble_eq_true rfl) (Nat.le_of_ble_eq_true rfl)
    · subst ho
      refine vx_catch hown [⟨0, 10, 13, 13⟩] ⟨0, 10, 17, 15⟩ [] hTb (pre1 (Or.inr ⟨by decide, "java/lang/IllegalArgumentException", hw0, hN.2.2.1⟩)) (by decide) (by decide) hw1 (va_Nw.use rfl hX.1.2.1) hcell hv hcl ?_
      refine lv_astore (lv' := [(4, .ref q9), (0, .ref (a 0)), (1, .int p1), (2, .int p2), (3, .ref o)]) hx hb dL_add_17 hl (by decide) rfl (fun ls hl => ?_)
      refine lv_iconst (v := 2) hx hb dL_add_19 (by decide) ?_
      rw [hQ]
      exact lend_i hx hb hr (by decide) hP hD hS dL_add_20 hlocks (Nat.le_of_ble_eq_true rfl) (Nat.le_of_ble_eq_true rfl)
  · subst ho
    refine lv_i2l (v := (u.1 : Int32).toInt64) hx hb dL_add_8 rfl ?_
    refine va_last hx hb hK.1 hP hD hS 68 2 rfl rfl (show ¬ ((0 : Int32) < 0 ∨ 1 ≤ (0 : Int32).toNatClampNeg) from by decide) dL_add_9 (fun H locs hP hD hS => ?_)
    have hP : va_P G vwCl (([[((a 0), .inr (8, [.ref (a 1), .ref (a 11), .ref (a 21), .ref (a 63)]))], wG cI (a 1) (a 2) (a 3) (a 4) (a 5) (a 6) (a 7) (a 8) (a 9) (a 10) u.2.1 g_er g_eb g_li g_st g_rd g_tu g_la g_dl g_sh g_tb, wG cI (a 11) (a 12) (a 13) (a 14) (a 15) (a 16) (a 17) (a 18) (a 19) (a 20) z_ft z_er z_eb z_li z_st z_rd z_tu z_la z_dl z_sh z_tb, wH cI cG (fun i => a (21 + i)) u.2.2.1 u.2.2.2.1 u.2.2.2.2, wS cI (a 63) (a 64) (a 65) (a 66) (a 67) tx cm, [(o, .inl (cL, 1, .inr (.inl (vp_updL ol (0 : Int32).toNatClampNeg (u.1 : Int32).toInt64))))]] : List va_W).flatten) H := hP
    have hD : va_D A (([[((a 0), .inr (8, [.ref (a 1), .ref (a 11), .ref (a 21), .ref (a 63)]))], wG cI (a 1) (a 2) (a 3) (a 4) (a 5) (a 6) (a 7) (a 8) (a 9) (a 10) u.2.1 g_er g_eb g_li g_st g_rd g_tu g_la g_dl g_sh g_tb, wG cI (a 11) (a 12) (a 13) (a 14) (a 15) (a 16) (a 17) (a 18) (a 19) (a 20) z_ft z_er z_eb z_li z_st z_rd z_tu z_la z_dl z_sh z_tb, wH cI cG (fun i => a (21 + i)) u.2.2.1 u.2.2.2.1 u.2.2.2.2, wS cI (a 63) (a 64) (a 65) (a 66) (a 67) tx cm, [(o, .inl (cL, 1, .inr (.inl (vp_updL ol (0 : Int32).toNatClampNeg (u.1 : Int32).toInt64))))]] : List va_W).flatten) := hD
    refine lv_goto (tgt := 21) hx hb dL_add_10 (by decide) ?_
    refine lv_iconst (v := 0) hx hb dL_add_21 (by decide) ?_
    rw [hQ]
    exact lend_i hx hb hr rfl hP hD hS dL_add_22 hlocks (Nat.le_of_ble_eq_true rfl) (Nat.le_of_ble_eq_true rfl)
theorem hdL_setSpeed : yL_setSpeed.cls ≠ "java/lang/invoke/MethodHandle" ∧ yL_setSpeed.cls ≠ "java/lang/invoke/VarHandle" ∧ (parseMethodDescriptor yL_setSpeed.desc).map (fun d => d.parameters.length) = some 4 := by decide +kernel
set_option maxHeartbeats 4000000 in
set_option maxRecDepth 100000 in
theorem cL_setSpeed_ok (l : Launch) (hlf : l.stackTraces = false) (G : va_G) (cI cG cL : ClassId) (a : Nat → Nat) (o : Nat) (fu : Nat) (g_ft : Tab) (g_er : Tab) (g_eb : Int32) (g_li : Tab) (g_st : Tab) (g_rd : Int32) (g_tu : Int32) (g_la : Int32) (g_dl : Bool) (g_sh : Int32) (g_tb : Int32) (z_ft : Tab) (z_er : Tab) (z_eb : Int32) (z_li : Tab) (z_st : Tab) (z_rd : Int32) (z_tu : Int32) (z_la : Int32) (z_dl : Bool) (z_sh : Int32) (z_tb : Int32) (yc : Int32) (yp : (Nat → Nat)) (yg : (Nat → GV)) (tx : Tab) (cm : Tab) (ol : Nat → Int64) (p1 : Int32) (p2 : Int32) (out : String ⊕ (Int32 × Tab × Int32 × (Nat → Nat) × (Nat → GV))) (hf : fX5_setSpeed fu g_ft g_er g_eb g_li g_st g_rd g_tu g_la g_dl g_sh g_tb yc yp yg p1 p2 = some out) (hE : ∀ E, out = .inl E → E = "java/lang/IndexOutOfBoundsException" ∨ E = "java/lang/IllegalArgumentException") : LI l G (tyl cI cG cL) yL_setSpeed wsL_setSpeed ({ frames := 8, cells := 2, slots := 12, locals := 167 } : Room) [.ref (a 0), .int p1, .int p2, .ref o] (([[((a 0), .inr (8, [.ref (a 1), .ref (a 11), .ref (a 21), .ref (a 63)]))], wG cI (a 1) (a 2) (a 3) (a 4) (a 5) (a 6) (a 7) (a 8) (a 9) (a 10) g_ft g_er g_eb g_li g_st g_rd g_tu g_la g_dl g_sh g_tb, wG cI (a 11) (a 12) (a 13) (a 14) (a 15) (a 16) (a 17) (a 18) (a 19) (a 20) z_ft z_er z_eb z_li z_st z_rd z_tu z_la z_dl z_sh z_tb, wH cI cG (fun i => a (21 + i)) yc yp yg, wS cI (a 63) (a 64) (a 65) (a 66) (a 67) tx cm, [(o, .inl (cL, 1, .inr (.inl ol)))]] : List va_W).flatten) (out.elim (fun E => if E = "java/lang/IndexOutOfBoundsException" then 1 else if E = "java/lang/IllegalArgumentException" then 2 else 0) (fun _ => 0)) (out.elim (fun _ => ([[((a 0), .inr (8, [.ref (a 1), .ref (a 11), .ref (a 21), .ref (a 63)]))], wG cI (a 1) (a 2) (a 3) (a 4) (a 5) (a 6) (a 7) (a 8) (a 9) (a 10) g_ft g_er g_eb g_li g_st g_rd g_tu g_la g_dl g_sh g_tb, wG cI (a 11) (a 12) (a 13) (a 14) (a 15) (a 16) (a 17) (a 18) (a 19) (a 20) z_ft z_er z_eb z_li z_st z_rd z_tu z_la z_dl z_sh z_tb, wH cI cG (fun i => a (21 + i)) yc yp yg, wS cI (a 63) (a 64) (a 65) (a 66) (a 67) tx cm, [(o, .inl (cL, 1, .inr (.inl ol)))]] : List va_W).flatten) (fun u : Int32 × Tab × Int32 × (Nat → Nat) × (Nat → GV) => ([[((a 0), .inr (8, [.ref (a 1), .ref (a 11), .ref (a 21), .ref (a 63)]))], wG cI (a 1) (a 2) (a 3) (a 4) (a 5) (a 6) (a 7) (a 8) (a 9) (a 10) u.2.1 g_er g_eb g_li g_st g_rd g_tu g_la g_dl g_sh g_tb, wG cI (a 11) (a 12) (a 13) (a 14) (a 15) (a 16) (a 17) (a 18) (a 19) (a 20) z_ft z_er z_eb z_li z_st z_rd z_tu z_la z_dl z_sh z_tb, wH cI cG (fun i => a (21 + i)) u.2.2.1 u.2.2.2.1 u.2.2.2.2, wS cI (a 63) (a 64) (a 65) (a 66) (a 67) tx cm, [(o, .inl (cL, 1, .inr (.inl (vp_updL ol (0 : Int32).toNatClampNeg (u.1 : Int32).toInt64))))]] : List va_W).flatten)) 2 12 := by
  intro sz
  apply met_of_vx
  refine vx_ofWH (cc := cL_setSpeed) (maxL := 5) (ret := (some .int)) (by decide) rfl ?_
  intro p e s m args below meth c s₁ B hml hv
  obtain ⟨rfl, ⟨hsz, hP, hK, hD0⟩, hX, hZ, hN⟩ := hv
  have hx := B.exec
  have hb := B.bytes
  have hr := B.returns
  have hts := atoms_spec (ws := wsL_setSpeed) B.pre
  have hown : s.vm.findClass RL = some m.cls := findClass_of_methodNamed B.named
  have hlocks := B.notSynchronized
  have hTb : c.exceptionTable.toList = tableOf [(0, 10, 13, 20), (0, 10, 17, 13)] := vx_table (x := yL_setSpeed) B (hts _ List.mem_cons_self)
  subst hsz
  have hD := hD0.self (sz := s.heap.size)
  generalize hAe : va_A (([[((a 0), .inr (8, [.ref (a 1), .ref (a 11), .ref (a 21), .ref (a 63)]))], wG cI (a 1) (a 2) (a 3) (a 4) (a 5) (a 6) (a 7) (a 8) (a 9) (a 10) g_ft g_er g_eb g_li g_st g_rd g_tu g_la g_dl g_sh g_tb, wG cI (a 11) (a 12) (a 13) (a 14) (a 15) (a 16) (a 17) (a 18) (a 19) (a 20) z_ft z_er z_eb z_li z_st z_rd z_tu z_la z_dl z_sh z_tb, wH cI cG (fun i => a (21 + i)) yc yp yg, wS cI (a 63) (a 64) (a 65) (a 66) (a 67) tx cm, [(o, .inl (cL, 1, .inr (.inl ol)))]] : List va_W).flatten) s.heap.size = A at hD hZ ⊢
  have hA : ∀ q : Nat, s.heap.size ≤ q → A q := fun q h => by rw [← hAe]; exact Or.inr h
  have hS : va_S A s.heap s.heap [] := va_S.rf
  have hw0 := hts (.classLink RL 20 "java/lang/IndexOutOfBoundsException") (List.mem_of_getElem? (i := 1) rfl)
  have hw1 := hts (.classLink RL 13 "java/lang/IllegalArgumentException") (List.mem_of_getElem? (i := 2) rfl)
  show W p l e ({ frames := 8, cells := 2, slots := 12, locals := 167 } : Room) s m _ below meth c s.heap [] 0 0 _ _
  refine W_genQ (fun Q hQ => ?_)
  have hl := lv_entry ([.ref (a 0), .int p1, .int p2, .ref o]) (n := 5) (Nat.le_of_ble_eq_true rfl)
  rw [lg_entry_eq]
  generalize (lg_sl ([.ref (a 0), .int p1, .int p2, .ref o]) ++ List.replicate (5 - (lg_sl ([.ref (a 0), .int p1, .int p2, .ref o])).length) Slot.unset).toArray = ls at hl ⊢
  have hl : lv_has ls 5 [(0, .ref (a 0)), (1, .int p1), (2, .int p2), (3, .ref o)] := hl
  refine lv_aload_n hx hb dL_setSpeed_0 rfl (lv_at hl 3 rfl) ?_
  refine lv_iconst (v := 0) hx hb dL_setSpeed_1 (by decide) ?_
  refine lv_aload_n hx hb dL_setSpeed_2 rfl (lv_at hl 0 rfl) ?_
  refine lv_iload_n hx hb dL_setSpeed_3 rfl (lv_at hl 1 rfl) ?_
  refine lv_iload_n hx hb dL_setSpeed_4 rfl (lv_at hl 2 rfl) ?_
  refine xcall_iV (As := [.int p1, .int p2]) (rest := [.int 0, .ref o]) (c0 := [[((a 0), .inr (8, [.ref (a 1), .ref (a 11), .ref (a 21), .ref (a 63)]))], wG cI (a 1) (a 2) (a 3) (a 4) (a 5) (a 6) (a 7) (a 8) (a 9) (a 10) g_ft g_er g_eb g_li g_st g_rd g_tu g_la g_dl g_sh g_tb, wG cI (a 11) (a 12) (a 13) (a 14) (a 15) (a 16) (a 17) (a 18) (a 19) (a 20) z_ft z_er z_eb z_li z_st z_rd z_tu z_la z_dl z_sh z_tb, wH cI cG (fun i => a (21 + i)) yc yp yg, wS cI (a 63) (a 64) (a 65) (a 66) (a 67) tx cm]) ⟨hx, hb, hml, hown, hts⟩ (cX5_setSpeed_ok l hlf G cI cG a fu g_ft g_er g_eb g_li g_st g_rd g_tu g_la g_dl g_sh g_tb z_ft z_er z_eb z_li z_st z_rd z_tu z_la z_dl z_sh z_tb yc yp yg tx cm p1 p2 out hf) (cwV 2 hts gL_setSpeed_X5_setSpeed rfl rfl rfl hdX5_setSpeed ⟨Nat.le_of_ble_eq_true rfl, Nat.le_of_ble_eq_true rfl⟩) hP hD hS hA (tyl_z hK) hX hZ 8 rfl rfl rfl [0, 1, 2, 3, 4] rfl rfl rfl rfl rfl (fun u : Int32 × Tab × Int32 × (Nat → Nat) × (Nat → GV) => [[((a 0), .inr (8, [.ref (a 1), .ref (a 11), .ref (a 21), .ref (a 63)]))], wG cI (a 1) (a 2) (a 3) (a 4) (a 5) (a 6) (a 7) (a 8) (a 9) (a 10) u.2.1 g_er g_eb g_li g_st g_rd g_tu g_la g_dl g_sh g_tb, wG cI (a 11) (a 12) (a 13) (a 14) (a 15) (a 16) (a 17) (a 18) (a 19) (a 20) z_ft z_er z_eb z_li z_st z_rd z_tu z_la z_dl z_sh z_tb, wH cI cG (fun i => a (21 + i)) u.2.2.1 u.2.2.2.1 u.2.2.2.2, wS cI (a 63) (a 64) (a 65) (a 66) (a 67) tx cm]) (fun u : Int32 × Tab × Int32 × (Nat → Nat) × (Nat → GV) => [[((a 0), .inr (8, [.ref (a 1), .ref (a 11), .ref (a 21), .ref (a 63)]))], wG cI (a 1) (a 2) (a 3) (a 4) (a 5) (a 6) (a 7) (a 8) (a 9) (a 10) u.2.1 g_er g_eb g_li g_st g_rd g_tu g_la g_dl g_sh g_tb, wG cI (a 11) (a 12) (a 13) (a 14) (a 15) (a 16) (a 17) (a 18) (a 19) (a 20) z_ft z_er z_eb z_li z_st z_rd z_tu z_la z_dl z_sh z_tb, wH cI cG (fun i => a (21 + i)) u.2.2.1 u.2.2.2.1 u.2.2.2.2, wS cI (a 63) (a 64) (a 65) (a 66) (a 67) tx cm, [(o, .inl (cL, 1, .inr (.inl ol)))]]) (fun _ => rfl) (fun _ => rfl) (fun _ => rfl) (fun _ => rfl) rfl rfl hl.1 (Nat.le_of_ble_eq_true rfl) dL_setSpeed_5 ⟨Nat.le_of_ble_eq_true rfl, Nat.le_of_ble_eq_true rfl⟩ (fun E H locs ce q9 ho hP hD hS hcell hv hcl => ?_) (fun u H locs ho hP hD hS => ?_)
  · rcases hE E ho with rfl | rfl
    · subst ho
      refine vx_catch hown [] ⟨0, 10, 13, 20⟩ [⟨0, 10, 17, 13⟩] hTb (fun z hz => by cases hz) (by decide) (by decide) hw0 (va_Nw.use rfl hX.1.2.2.1) hcell hv hcl ?_
      refine lv_astore (lv' := [(4, .ref q9), (0, .ref (a 0)), (1, .int p1), (2, .int p2), (3, .ref o)]) hx hb dL_setSpeed_13 hl (by decide) rfl (fun ls hl => ?_)
      refine lv_iconst (v := 1) hx hb dL_setSpeed_15 (by decide) ?_
      rw [hQ]
      exact lend_i hx hb hr (by decide) hP hD hS dL_setSpeed_16 hlocks (Nat.le_of_ble_eq_true rfl) (Nat.le_of_ble_eq_true rfl)
    · subst ho
      refine vx_catch hown [⟨0, 10, 13, 20⟩] ⟨0, 10, 17, 13⟩ [] hTb (pre1 (Or.inr ⟨by decide, "java/lang/IndexOutOfBoundsException", hw0, hN.2.1⟩)) (by decide) (by decide) hw1 (va_Nw.use rfl hX.1.1) hcell hv hcl ?_
      refine lv_astore (lv' := [(4, .ref q9), (0, .ref (a 0)), (1, .int p1), (2, .int p2), (3, .ref o)]) hx hb dL_setSpeed_17 hl (by decide) rfl (fun ls hl => ?_)
      refine lv_iconst (v := 2) hx hb dL_setSpeed_19 (by decide) ?_
      rw [hQ]
      exact lend_i hx hb hr (by decide) hP hD hS dL_setSpeed_20 hlocks (Nat.le_of_ble_eq_true rfl) (Nat.le_of_ble_eq_true rfl)
  · subst ho
    refine lv_i2l (v := (u.1 : Int32).toInt64) hx hb dL_setSpeed_8 rfl ?_
    refine va_last hx hb hK.1 hP hD hS 68 2 rfl rfl (show ¬ ((0 : Int32) < 0 ∨ 1 ≤ (0 : Int32).toNatClampNeg) from by decide) dL_setSpeed_9 (fun H locs hP hD hS => ?_)
    have hP : va_P G vwCl (([[((a 0), .inr (8, [.ref (a 1), .ref (a 11), .ref (a 21), .ref (a 63)]))], wG cI (a 1) (a 2) (a 3) (a 4) (a 5) (a 6) (a 7) (a 8) (a 9) (a 10) u.2.1 g_er g_eb g_li g_st g_rd g_tu g_la g_dl g_sh g_tb, wG cI (a 11) (a 12) (a 13) (a 14) (a 15) (a 16) (a 17) (a 18) (a 19) (a 20) z_ft z_er z_eb z_li z_st z_rd z_tu z_la z_dl z_sh z_tb, wH cI cG (fun i => a (21 + i)) u.2.2.1 u.2.2.2.1 u.2.2.2.2, wS cI (a 63) (a 64) (a 65) (a 66) (a 67) tx cm, [(o, .inl (cL, 1, .inr (.inl (vp_updL ol (0 : Int32).toNatClampNeg (u.1 : Int32).toInt64))))]] : List va_W).flatten) H := hP
    have hD : va_D A (([[((a 0), .inr (8, [.ref (a 1), .ref (a 11), .ref (a 21), .ref (a 63)]))], wG cI (a 1) (a 2) (a 3) (a 4) (a 5) (a 6) (a 7) (a 8) (a 9) (a 10) u.2.1 g_er g_eb g_li g_st g_rd g_tu g_la g_dl g_sh g_tb, wG cI (a 11) (a 12) (a 13) (a 14) (a 15) (a 16) (a 17) (a 18) (a 19) (a 20) z_ft z_er z_eb z_li z_st z_rd z_tu z_la z_dl z_sh z_tb, wH cI cG (fun i => a (21 + i)) u.2.2.1 u.2.2.2.1 u.2.2.2.2, wS cI (a 63) (a 64) (a 65) (a 66) (a 67) tx cm, [(o, .inl (cL, 1, .inr (.inl (vp_updL ol (0 : Int32).toNatClampNeg (u.1 : Int32).toInt64))))]] : List va_W).flatten) := hD
    refine lv_goto (tgt := 21) hx hb dL_setSpeed_10 (by decide) ?_
    refine lv_iconst (v := 0) hx hb dL_setSpeed_21 (by decide) ?_
    rw [hQ]
    exact lend_i hx hb hr rfl hP hD hS dL_setSpeed_22 hlocks (Nat.le_of_ble_eq_true rfl) (Nat.le_of_ble_eq_true rfl)
theorem hdL_setShock : yL_setShock.cls ≠ "java/lang/invoke/MethodHandle" ∧ yL_setShock.cls ≠ "java/lang/invoke/VarHandle" ∧ (parseMethodDescriptor yL_setShock.desc).map (fun d => d.parameters.length) = some 3 := by decide +kernel
set_option maxHeartbeats 4000000 in
set_option maxRecDepth 100000 in
theorem cL_setShock_ok (l : Launch) (hlf : l.stackTraces = false) (G : va_G) (cI cG cL : ClassId) (a : Nat → Nat) (o : Nat) (fu : Nat) (g_ft : Tab) (g_er : Tab) (g_eb : Int32) (g_li : Tab) (g_st : Tab) (g_rd : Int32) (g_tu : Int32) (g_la : Int32) (g_dl : Bool) (g_sh : Int32) (g_tb : Int32) (z_ft : Tab) (z_er : Tab) (z_eb : Int32) (z_li : Tab) (z_st : Tab) (z_rd : Int32) (z_tu : Int32) (z_la : Int32) (z_dl : Bool) (z_sh : Int32) (z_tb : Int32) (yc : Int32) (yp : (Nat → Nat)) (yg : (Nat → GV)) (tx : Tab) (cm : Tab) (ol : Nat → Int64) (p1 : Int32) (out : String ⊕ (Int32 × Int32 × Int32 × (Nat → Nat) × (Nat → GV))) (hf : fX5_setShock fu g_ft g_er g_eb g_li g_st g_rd g_tu g_la g_dl g_sh g_tb yc yp yg p1 = some out) (hE : ∀ E, out = .inl E → E = "java/lang/IllegalArgumentException") : LI l G (tyl cI cG cL) yL_setShock wsL_setShock ({ frames := 8, cells := 1, slots := 6, locals := 166 } : Room) [.ref (a 0), .int p1, .ref o] (([[((a 0), .inr (8, [.ref (a 1), .ref (a 11), .ref (a 21), .ref (a 63)]))], wG cI (a 1) (a 2) (a 3) (a 4) (a 5) (a 6) (a 7) (a 8) (a 9) (a 10) g_ft g_er g_eb g_li g_st g_rd g_tu g_la g_dl g_sh g_tb, wG cI (a 11) (a 12) (a 13) (a 14) (a 15) (a 16) (a 17) (a 18) (a 19) (a 20) z_ft z_er z_eb z_li z_st z_rd z_tu z_la z_dl z_sh z_tb, wH cI cG (fun i => a (21 + i)) yc yp yg, wS cI (a 63) (a 64) (a 65) (a 66) (a 67) tx cm, [(o, .inl (cL, 1, .inr (.inl ol)))]] : List va_W).flatten) (out.elim (fun E => if E = "java/lang/IllegalArgumentException" then 1 else 0) (fun _ => 0)) (out.elim (fun _ => ([[((a 0), .inr (8, [.ref (a 1), .ref (a 11), .ref (a 21), .ref (a 63)]))], wG cI (a 1) (a 2) (a 3) (a 4) (a 5) (a 6) (a 7) (a 8) (a 9) (a 10) g_ft g_er g_eb g_li g_st g_rd g_tu g_la g_dl g_sh g_tb, wG cI (a 11) (a 12) (a 13) (a 14) (a 15) (a 16) (a 17) (a 18) (a 19) (a 20) z_ft z_er z_eb z_li z_st z_rd z_tu z_la z_dl z_sh z_tb, wH cI cG (fun i => a (21 + i)) yc yp yg, wS cI (a 63) (a 64) (a 65) (a 66) (a 67) tx cm, [(o, .inl (cL, 1, .inr (.inl ol)))]] : List va_W).flatten) (fun u : Int32 × Int32 × Int32 × (Nat → Nat) × (Nat → GV) => ([[((a 0), .inr (8, [.ref (a 1), .ref (a 11), .ref (a 21), .ref (a 63)]))], wG cI (a 1) (a 2) (a 3) (a 4) (a 5) (a 6) (a 7) (a 8) (a 9) (a 10) g_ft g_er g_eb g_li g_st g_rd g_tu g_la g_dl u.2.1 g_tb, wG cI (a 11) (a 12) (a 13) (a 14) (a 15) (a 16) (a 17) (a 18) (a 19) (a 20) z_ft z_er z_eb z_li z_st z_rd z_tu z_la z_dl z_sh z_tb, wH cI cG (fun i => a (21 + i)) u.2.2.1 u.2.2.2.1 u.2.2.2.2, wS cI (a 63) (a 64) (a 65) (a 66) (a 67) tx cm, [(o, .inl (cL, 1, .inr (.inl (vp_updL ol (0 : Int32).toNatClampNeg (u.1 : Int32).toInt64))))]] : List va_W).flatten)) 1 6 := by
  intro sz
  apply met_of_vx
  refine vx_ofWH (cc := cL_setShock) (maxL := 4) (ret := (some .int)) (by decide) rfl ?_
  intro p e s m args below meth c s₁ B hml hv
  obtain ⟨rfl, ⟨hsz, hP, hK, hD0⟩, hX, hZ, hN⟩ := hv
  have hx := B.exec
  have hb := B.bytes
  have hr := B.returns
  have hts := atoms_spec (ws := wsL_setShock) B.pre
  have hown : s.vm.findClass RL = some m.cls := findClass_of_methodNamed B.named
  have hlocks := B.notSynchronized
  have hTb : c.exceptionTable.toList = tableOf [(0, 9, 12, 13)] := vx_table (x := yL_setShock) B (hts _ List.mem_cons_self)
  subst hsz
  have hD := hD0.self (sz := s.heap.size)
  generalize hAe : va_A (([[((a 0), .inr (8, [.ref (a 1), .ref (a 11), .ref (a 21), .ref (a 63)]))], wG cI (a 1) (a 2) (a 3) (a 4) (a 5) (a 6) (a 7) (a 8) (a 9) (a 10) g_ft g_er g_eb g_li g_st g_rd g_tu g_la g_dl g_sh g_tb, wG cI (a 11) (a 12) (a 13) (a 14) (a 15) (a 16) (a 17) (a 18) (a 19) (a 20) z_ft z_er z_eb z_li z_st z_rd z_tu z_la z_dl z_sh z_tb, wH cI cG (fun i => a (21 + i)) yc yp yg, wS cI (a 63) (a 64) (a 65) (a 66) (a 67) tx cm, [(o, .inl (cL, 1, .inr (.inl ol)))]] : List va_W).flatten) s.heap.size = A at hD hZ ⊢
  have hA : ∀ q : Nat, s.heap.size ≤ q → A q := fun q h => by rw [← hAe]; exact Or.inr h
  have hS : va_S A s.heap s.heap [] := va_S.rf
  have hw0 := hts (.classLink RL 13 "java/lang/IllegalArgumentException") (List.mem_of_getElem? (i := 1) rfl)
  show W p l e ({ frames := 8, cells := 1, slots := 6, locals := 166 } : Room) s m _ below meth c s.heap [] 0 0 _ _
  refine W_genQ (fun Q hQ => ?_)
  have hl := lv_entry ([.ref (a 0), .int p1, .ref o]) (n := 4) (Nat.le_of_ble_eq_true rfl)
  rw [lg_entry_eq]
  generalize (lg_sl ([.ref (a 0), .int p1, .ref o]) ++ List.replicate (4 - (lg_sl ([.ref (a 0), .int p1, .ref o])).length) Slot.unset).toArray = ls at hl ⊢
  have hl : lv_has ls 4 [(0, .ref (a 0)), (1, .int p1), (2, .ref o)] := hl
  refine lv_aload_n hx hb dL_setShock_0 rfl (lv_at hl 2 rfl) ?_
  refine lv_iconst (v := 0) hx hb dL_setShock_1 (by decide) ?_
  refine lv_aload_n hx hb dL_setShock_2 rfl (lv_at hl 0 rfl) ?_
  refine lv_iload_n hx hb dL_setShock_3 rfl (lv_at hl 1 rfl) ?_
  refine xcall_iV (As := [.int p1]) (rest := [.int 0, .ref o]) (c0 := [[((a 0), .inr (8, [.ref (a 1), .ref (a 11), .ref (a 21), .ref (a 63)]))], wG cI (a 1) (a 2) (a 3) (a 4) (a 5) (a 6) (a 7) (a 8) (a 9) (a 10) g_ft g_er g_eb g_li g_st g_rd g_tu g_la g_dl g_sh g_tb, wG cI (a 11) (a 12) (a 13) (a 14) (a 15) (a 16) (a 17) (a 18) (a 19) (a 20) z_ft z_er z_eb z_li z_st z_rd z_tu z_la z_dl z_sh z_tb, wH cI cG (fun i => a (21 + i)) yc yp yg, wS cI (a 63) (a 64) (a 65) (a 66) (a 67) tx cm]) ⟨hx, hb, hml, hown, hts⟩ (cX5_setShock_ok l hlf G cI cG a fu g_ft g_er g_eb g_li g_st g_rd g_tu g_la g_dl g_sh g_tb z_ft z_er z_eb z_li z_st z_rd z_tu z_la z_dl z_sh z_tb yc yp yg tx cm p1 out hf) (cwV 1 hts gL_setShock_X5_setShock rfl rfl rfl hdX5_setShock ⟨Nat.le_of_ble_eq_true rfl, Nat.le_of_ble_eq_true rfl⟩) hP hD hS hA (tyl_z hK) hX hZ 8 rfl rfl rfl [0, 1, 2, 3, 4] rfl rfl rfl rfl rfl (fun u : Int32 × Int32 × Int32 × (Nat → Nat) × (Nat → GV) => [[((a 0), .inr (8, [.ref (a 1), .ref (a 11), .ref (a 21), .ref (a 63)]))], wG cI (a 1) (a 2) (a 3) (a 4) (a 5) (a 6) (a 7) (a 8) (a 9) (a 10) g_ft g_er g_eb g_li g_st g_rd g_tu g_la g_dl u.2.1 g_tb, wG cI (a 11) (a 12) (a 13) (a 14) (a 15) (a 16) (a 17) (a 18) (a 19) (a 20) z_ft z_er z_eb z_li z_st z_rd z_tu z_la z_dl z_sh z_tb, wH cI cG (fun i => a (21 + i)) u.2.2.1 u.2.2.2.1 u.2.2.2.2, wS cI (a 63) (a 64) (a 65) (a 66) (a 67) tx cm]) (fun u : Int32 × Int32 × Int32 × (Nat → Nat) × (Nat → GV) => [[((a 0), .inr (8, [.ref (a 1), .ref (a 11), .ref (a 21), .ref (a 63)]))], wG cI (a 1) (a 2) (a 3) (a 4) (a 5) (a 6) (a 7) (a 8) (a 9) (a 10) g_ft g_er g_eb g_li g_st g_rd g_tu g_la g_dl u.2.1 g_tb, wG cI (a 11) (a 12) (a 13) (a 14) (a 15) (a 16) (a 17) (a 18) (a 19) (a 20) z_ft z_er z_eb z_li z_st z_rd z_tu z_la z_dl z_sh z_tb, wH cI cG (fun i => a (21 + i)) u.2.2.1 u.2.2.2.1 u.2.2.2.2, wS cI (a 63) (a 64) (a 65) (a 66) (a 67) tx cm, [(o, .inl (cL, 1, .inr (.inl ol)))]]) (fun _ => rfl) (fun _ => rfl) (fun _ => rfl) (fun _ => rfl) rfl rfl hl.1 (Nat.le_of_ble_eq_true rfl) dL_setShock_4 ⟨Nat.le_of_ble_eq_true rfl, Nat.le_of_ble_eq_true rfl⟩ (fun E H locs ce q9 ho hP hD hS hcell hv hcl => ?_) (fun u H locs ho hP hD hS => ?_)
  · obtain rfl := hE E ho
    subst ho
    refine vx_catch hown [] ⟨0, 9, 12, 13⟩ [] hTb (fun z hz => by cases hz) (by decide) (by decide) hw0 (va_Nw.use rfl hX.1.1) hcell hv hcl ?_
    refine lv_astore_n (lv' := [(3, .ref q9), (0, .ref (a 0)), (1, .int p1), (2, .ref o)]) hx hb dL_setShock_12 rfl hl (by decide) rfl (fun ls hl => ?_)
    refine lv_iconst (v := 1) hx hb dL_setShock_13 (by decide) ?_
    rw [hQ]
    exact lend_i hx hb hr (by decide) hP hD hS dL_setShock_14 hlocks (Nat.le_of_ble_eq_true rfl) (Nat.le_of_ble_eq_true rfl)
  · subst ho
    refine lv_i2l (v := (u.1 : Int32).toInt64) hx hb dL_setShock_7 rfl ?_
    refine va_last hx hb hK.1 hP hD hS 68 2 rfl rfl (show ¬ ((0 : Int32) < 0 ∨ 1 ≤ (0 : Int32).toNatClampNeg) from by decide) dL_setShock_8 (fun H locs hP hD hS => ?_)
    have hP : va_P G vwCl (([[((a 0), .inr (8, [.ref (a 1), .ref (a 11), .ref (a 21), .ref (a 63)]))], wG cI (a 1) (a 2) (a 3) (a 4) (a 5) (a 6) (a 7) (a 8) (a 9) (a 10) g_ft g_er g_eb g_li g_st g_rd g_tu g_la g_dl u.2.1 g_tb, wG cI (a 11) (a 12) (a 13) (a 14) (a 15) (a 16) (a 17) (a 18) (a 19) (a 20) z_ft z_er z_eb z_li z_st z_rd z_tu z_la z_dl z_sh z_tb, wH cI cG (fun i => a (21 + i)) u.2.2.1 u.2.2.2.1 u.2.2.2.2, wS cI (a 63) (a 64) (a 65) (a 66) (a 67) tx cm, [(o, .inl (cL, 1, .inr (.inl (vp_updL ol (0 : Int32).toNatClampNeg (u.1 : Int32).toInt64))))]] : List va_W).flatten) H := hP
    have hD : va_D A (([[((a 0), .inr (8, [.ref (a 1), .ref (a 11), .ref (a 21), .ref (a 63)]))], wG cI (a 1) (a 2) (a 3) (a 4) (a 5) (a 6) (a 7) (a 8) (a 9) (a 10) g_ft g_er g_eb g_li g_st g_rd g_tu g_la g_dl u.2.1 g_tb, wG cI (a 11) (a 12) (a 13) (a 14) (a 15) (a 16) (a 17) (a 18) (a 19) (a 20) z_ft z_er z_eb z_li z_st z_rd z_tu z_la z_dl z_sh z_tb, wH cI cG (fun i => a (21 + i)) u.2.2.1 u.2.2.2.1 u.2.2.2.2, wS cI (a 63) (a 64) (a 65) (a 66) (a 67) tx cm, [(o, .inl (cL, 1, .inr (.inl (vp_updL ol (0 : Int32).toNatClampNeg (u.1 : Int32).toInt64))))]] : List va_W).flatten) := hD
    refine lv_goto (tgt := 15) hx hb dL_setShock_9 (by decide) ?_
    refine lv_iconst (v := 0) hx hb dL_setShock_15 (by decide) ?_
    rw [hQ]
    exact lend_i hx hb hr rfl hP hD hS dL_setShock_16 hlocks (Nat.le_of_ble_eq_true rfl) (Nat.le_of_ble_eq_true rfl)
theorem hdL_fighter : yL_fighter.cls ≠ "java/lang/invoke/MethodHandle" ∧ yL_fighter.cls ≠ "java/lang/invoke/VarHandle" ∧ (parseMethodDescriptor yL_fighter.desc).map (fun d => d.parameters.length) = some 4 := by decide +kernel
set_option maxHeartbeats 4000000 in
set_option maxRecDepth 100000 in
theorem cL_fighter_ok (l : Launch) (hlf : l.stackTraces = false) (G : va_G) (cI cG cL : ClassId) (a : Nat → Nat) (o : Nat) (fu : Nat) (g_ft : Tab) (g_er : Tab) (g_eb : Int32) (g_li : Tab) (g_st : Tab) (g_rd : Int32) (g_tu : Int32) (g_la : Int32) (g_dl : Bool) (g_sh : Int32) (g_tb : Int32) (z_ft : Tab) (z_er : Tab) (z_eb : Int32) (z_li : Tab) (z_st : Tab) (z_rd : Int32) (z_tu : Int32) (z_la : Int32) (z_dl : Bool) (z_sh : Int32) (z_tb : Int32) (yc : Int32) (yp : (Nat → Nat)) (yg : (Nat → GV)) (tx : Tab) (cm : Tab) (ol : Nat → Int64) (p1 : Int32) (p2 : Int32) (out : String ⊕ (Int32)) (hf : fX5_fighter fu g_ft g_er g_li p1 p2 = some out) (hE : ∀ E, out = .inl E → E = "java/lang/IndexOutOfBoundsException" ∨ E = "java/lang/IllegalArgumentException") : LI l G (tyl cI cG cL) yL_fighter wsL_fighter ({ frames := 8, cells := 2, slots := 12, locals := 144 } : Room) [.ref (a 0), .int p1, .int p2, .ref o] (([[((a 0), .inr (8, [.ref (a 1), .ref (a 11), .ref (a 21), .ref (a 63)]))], wG cI (a 1) (a 2) (a 3) (a 4) (a 5) (a 6) (a 7) (a 8) (a 9) (a 10) g_ft g_er g_eb g_li g_st g_rd g_tu g_la g_dl g_sh g_tb, wG cI (a 11) (a 12) (a 13) (a 14) (a 15) (a 16) (a 17) (a 18) (a 19) (a 20) z_ft z_er z_eb z_li z_st z_rd z_tu z_la z_dl z_sh z_tb, wH cI cG (fun i => a (21 + i)) yc yp yg, wS cI (a 63) (a 64) (a 65) (a 66) (a 67) tx cm, [(o, .inl (cL, 1, .inr (.inl ol)))]] : List va_W).flatten) (out.elim (fun E => if E = "java/lang/IndexOutOfBoundsException" then 1 else if E = "java/lang/IllegalArgumentException" then 2 else 0) (fun _ => 0)) (out.elim (fun _ => ([[((a 0), .inr (8, [.ref (a 1), .ref (a 11), .ref (a 21), .ref (a 63)]))], wG cI (a 1) (a 2) (a 3) (a 4) (a 5) (a 6) (a 7) (a 8) (a 9) (a 10) g_ft g_er g_eb g_li g_st g_rd g_tu g_la g_dl g_sh g_tb, wG cI (a 11) (a 12) (a 13) (a 14) (a 15) (a 16) (a 17) (a 18) (a 19) (a 20) z_ft z_er z_eb z_li z_st z_rd z_tu z_la z_dl z_sh z_tb, wH cI cG (fun i => a (21 + i)) yc yp yg, wS cI (a 63) (a 64) (a 65) (a 66) (a 67) tx cm, [(o, .inl (cL, 1, .inr (.inl ol)))]] : List va_W).flatten) (fun u : Int32 => ([[((a 0), .inr (8, [.ref (a 1), .ref (a 11), .ref (a 21), .ref (a 63)]))], wG cI (a 1) (a 2) (a 3) (a 4) (a 5) (a 6) (a 7) (a 8) (a 9) (a 10) g_ft g_er g_eb g_li g_st g_rd g_tu g_la g_dl g_sh g_tb, wG cI (a 11) (a 12) (a 13) (a 14) (a 15) (a 16) (a 17) (a 18) (a 19) (a 20) z_ft z_er z_eb z_li z_st z_rd z_tu z_la z_dl z_sh z_tb, wH cI cG (fun i => a (21 + i)) yc yp yg, wS cI (a 63) (a 64) (a 65) (a 66) (a 67) tx cm, [(o, .inl (cL, 1, .inr (.inl (vp_updL ol (0 : Int32).toNatClampNeg (u : Int32).toInt64))))]] : List va_W).flatten)) 2 12 := by
  intro sz
  apply met_of_vx
  refine vx_ofWH (cc := cL_fighter) (maxL := 5) (ret := (some .int)) (by decide) rfl ?_
  intro p e s m args below meth c s₁ B hml hv
  obtain ⟨rfl, ⟨hsz, hP, hK, hD0⟩, hX, hZ, hN⟩ := hv
  have hx := B.exec
  have hb := B.bytes
  have hr := B.returns
  have hts := atoms_spec (ws := wsL_fighter) B.pre
  have hown : s.vm.findClass RL = some m.cls := findClass_of_methodNamed B.named
  have hlocks := B.notSynchronized
  have hTb : c.exceptionTable.toList = tableOf [(0, 10, 13, 20), (0, 10, 17, 13)] := vx_table (x := yL_fighter) B (hts _ List.mem_cons_self)
  subst hsz
  have hD := hD0.self (sz := s.heap.size)
  generalize hAe : va_A (([[((a 0), .inr (8, [.ref (a 1), .ref (a 11), .ref (a 21), .ref (a 63)]))], wG cI (a 1) (a 2) (a 3) (a 4) (a 5) (a 6) (a 7) (a 8) (a 9) (a 10) g_ft g_er g_eb g_li g_st g_rd g_tu g_la g_dl g_sh g_tb, wG cI (a 11) (a 12) (a 13) (a 14) (a 15) (a 16) (a 17) (a 18) (a 19) (a 20) z_ft z_er z_eb z_li z_st z_rd z_tu z_la z_dl z_sh z_tb, wH cI cG (fun i => a (21 + i)) yc yp yg, wS cI (a 63) (a 64) (a 65) (a 66) (a 67) tx cm, [(o, .inl (cL, 1, .inr (.inl ol)))]] : List va_W).flatten) s.heap.size = A at hD hZ ⊢
  have hA : ∀ q : Nat, s.heap.size ≤ q → A q := fun q h => by rw [← hAe]; exact Or.inr h
  have hS : va_S A s.heap s.heap [] := va_S.rf
  have hw0 := hts (.classLink RL 20 "java/lang/IndexOutOfBoundsException") (List.mem_of_getElem? (i := 1) rfl)
  have hw1 := hts (.classLink RL 13 "java/lang/IllegalArgumentException") (List.mem_of_getElem? (i := 2) rfl)
  show W p l e ({ frames := 8, cells := 2, slots := 12, locals := 144 } : Room) s m _ below meth c s.heap [] 0 0 _ _
  refine W_genQ (fun Q hQ => ?_)
  have hl := lv_entry ([.ref (a 0), .int p1, .int p2, .ref o]) (n := 5) (Nat.le_of_ble_eq_true rfl)
  rw [lg_entry_eq]
  generalize (lg_sl ([.ref (a 0), .int p1, .int p2, .ref o]) ++ List.replicate (5 - (lg_sl ([.ref (a 0), .int p1, .int p2, .ref o])).length) Slot.unset).toArray = ls at hl ⊢
  have hl : lv_has ls 5 [(0, .ref (a 0)), (1, .int p1), (2, .int p2), (3, .ref o)] := hl
  refine lv_aload_n hx hb dL_fighter_0 rfl (lv_at hl 3 rfl) ?_
  refine lv_iconst (v := 0) hx hb dL_fighter_1 (by decide) ?_
  refine lv_aload_n hx hb dL_fighter_2 rfl (lv_at hl 0 rfl) ?_
  refine lv_iload_n hx hb dL_fighter_3 rfl (lv_at hl 1 rfl) ?_
  refine lv_iload_n hx hb dL_fighter_4 rfl (lv_at hl 2 rfl) ?_
  refine xcall_iV (As := [.int p1, .int p2]) (rest := [.int 0, .ref o]) (c0 := [[((a 0), .inr (8, [.ref (a 1), .ref (a 11), .ref (a 21), .ref (a 63)]))], wG cI (a 1) (a 2) (a 3) (a 4) (a 5) (a 6) (a 7) (a 8) (a 9) (a 10) g_ft g_er g_eb g_li g_st g_rd g_tu g_la g_dl g_sh g_tb, wG cI (a 11) (a 12) (a 13) (a 14) (a 15) (a 16) (a 17) (a 18) (a 19) (a 20) z_ft z_er z_eb z_li z_st z_rd z_tu z_la z_dl z_sh z_tb, wH cI cG (fun i => a (21 + i)) yc yp yg, wS cI (a 63) (a 64) (a 65) (a 66) (a 67) tx cm]) ⟨hx, hb, hml, hown, hts⟩ (cX5_fighter_ok l hlf G cI cG a fu g_ft g_er g_eb g_li g_st g_rd g_tu g_la g_dl g_sh g_tb z_ft z_er z_eb z_li z_st z_rd z_tu z_la z_dl z_sh z_tb yc yp yg tx cm p1 p2 out hf) (cwV 2 hts gL_fighter_X5_fighter rfl rfl rfl hdX5_fighter ⟨Nat.le_of_ble_eq_true rfl, Nat.le_of_ble_eq_true rfl⟩) hP hD hS hA (tyl_z hK) hX hZ 8 rfl rfl rfl [0, 1, 2, 3, 4] rfl rfl rfl rfl rfl (fun u : Int32 => [[((a 0), .inr (8, [.ref (a 1), .ref (a 11), .ref (a 21), .ref (a 63)]))], wG cI (a 1) (a 2) (a 3) (a 4) (a 5) (a 6) (a 7) (a 8) (a 9) (a 10) g_ft g_er g_eb g_li g_st g_rd g_tu g_la g_dl g_sh g_tb, wG cI (a 11) (a 12) (a 13) (a 14) (a 15) (a 16) (a 17) (a 18) (a 19) (a 20) z_ft z_er z_eb z_li z_st z_rd z_tu z_la z_dl z_sh z_tb, wH cI cG (fun i => a (21 + i)) yc yp yg, wS cI (a 63) (a 64) (a 65) (a 66) (a 67) tx cm]) (fun u : Int32 => [[((a 0), .inr (8, [.ref (a 1), .ref (a 11), .ref (a 21), .ref (a 63)]))], wG cI (a 1) (a 2) (a 3) (a 4) (a 5) (a 6) (a 7) (a 8) (a 9) (a 10) g_ft g_er g_eb g_li g_st g_rd g_tu g_la g_dl g_sh g_tb, wG cI (a 11) (a 12) (a 13) (a 14) (a 15) (a 16) (a 17) (a 18) (a 19) (a 20) z_ft z_er z_eb z_li z_st z_rd z_tu z_la z_dl z_sh z_tb, wH cI cG (fun i => a (21 + i)) yc yp yg, wS cI (a 63) (a 64) (a 65) (a 66) (a 67) tx cm, [(o, .inl (cL, 1, .inr (.inl ol)))]]) (fun _ => rfl) (fun _ => rfl) (fun _ => rfl) (fun _ => rfl) rfl rfl hl.1 (Nat.le_of_ble_eq_true rfl) dL_fighter_5 ⟨Nat.le_of_ble_eq_true rfl, Nat.le_of_ble_eq_true rfl⟩ (fun E H locs ce q9 ho hP hD hS hcell hv hcl => ?_) (fun u H locs ho hP hD hS => ?_)
  · rcases hE E ho with rfl | rfl
    · subst ho
      refine vx_catch hown [] ⟨0, 10, 13, 20⟩ [⟨0, 10, 17, 13⟩] hTb (fun z hz => by cases hz) (by decide) (by decide) hw0 (va_Nw.use rfl hX.1.2.2.1) hcell hv hcl ?_
      refine lv_astore (lv' := [(4, .ref q9), (0, .ref (a 0)), (1, .int p1), (2, .int p2), (3, .ref o)]) hx hb dL_fighter_13 hl (by decide) rfl (fun ls hl => ?_)
      refine lv_iconst (v := 1) hx hb dL_fighter_15 (by decide) ?_
      rw [hQ]
      exact lend_i hx hb hr (by decide) hP hD hS dL_fighter_16 hlocks (Nat.le_of_ble_eq_true rfl) (Nat.le_of_ble_eq_true rfl)
    · subst ho
      refine vx_catch hown [⟨0, 10, 13, 20⟩] ⟨0, 10, 17, 13⟩ [] hTb (pre1 (Or.inr ⟨by decide, "java/lang/IndexOutOfBoundsException", hw0, hN.2.1⟩)) (by decide) (by decide) hw1 (va_Nw.use rfl hX.1.1) hcell hv hcl ?_
      refine lv_astore (lv' := [(4, .ref q9), (0, .ref (a 0)), (1, .int p1), (2, .int p2), (3, .ref o)]) hx hb dL_fighter_17 hl (by decide) rfl (fun ls hl => ?_)
      refine lv_iconst (v := 2) hx hb dL_fighter_19 (by decide) ?_
      rw [hQ]
      exact lend_i hx hb hr (by decide) hP hD hS dL_fighter_20 hlocks (Nat.le_of_ble_eq_true rfl) (Nat.le_of_ble_eq_true rfl)
  · subst ho
    refine lv_i2l (v := (u : Int32).toInt64) hx hb dL_fighter_8 rfl ?_
    refine va_last hx hb hK.1 hP hD hS 68 2 rfl rfl (show ¬ ((0 : Int32) < 0 ∨ 1 ≤ (0 : Int32).toNatClampNeg) from by decide) dL_fighter_9 (fun H locs hP hD hS => ?_)
    have hP : va_P G vwCl (([[((a 0), .inr (8, [.ref (a 1), .ref (a 11), .ref (a 21), .ref (a 63)]))], wG cI (a 1) (a 2) (a 3) (a 4) (a 5) (a 6) (a 7) (a 8) (a 9) (a 10) g_ft g_er g_eb g_li g_st g_rd g_tu g_la g_dl g_sh g_tb, wG cI (a 11) (a 12) (a 13) (a 14) (a 15) (a 16) (a 17) (a 18) (a 19) (a 20) z_ft z_er z_eb z_li z_st z_rd z_tu z_la z_dl z_sh z_tb, wH cI cG (fun i => a (21 + i)) yc yp yg, wS cI (a 63) (a 64) (a 65) (a 66) (a 67) tx cm, [(o, .inl (cL, 1, .inr (.inl (vp_updL ol (0 : Int32).toNatClampNeg (u : Int32).toInt64))))]] : List va_W).flatten) H := hP
    have hD : va_D A (([[((a 0), .inr (8, [.ref (a 1), .ref (a 11), .ref (a 21), .ref (a 63)]))], wG cI (a 1) (a 2) (a 3) (a 4) (a 5) (a 6) (a 7) (a 8) (a 9) (a 10) g_ft g_er g_eb g_li g_st g_rd g_tu g_la g_dl g_sh g_tb, wG cI (a 11) (a 12) (a 13) (a 14) (a 15) (a 16) (a 17) (a 18) (a 19) (a 20) z_ft z_er z_eb z_li z_st z_rd z_tu z_la z_dl z_sh z_tb, wH cI cG (fun i => a (21 + i)) yc yp yg, wS cI (a 63) (a 64) (a 65) (a 66) (a 67) tx cm, [(o, .inl (cL, 1, .inr (.inl (vp_updL ol (0 : Int32).toNatClampNeg (u : Int32).toInt64))))]] : List va_W).flatten) := hD
    refine lv_goto (tgt := 21) hx hb dL_fighter_10 (by decide) ?_
    refine lv_iconst (v := 0) hx hb dL_fighter_21 (by decide) ?_
    rw [hQ]
    exact lend_i hx hb hr rfl hP hD hS dL_fighter_22 hlocks (Nat.le_of_ble_eq_true rfl) (Nat.le_of_ble_eq_true rfl)
theorem hdL_effect : yL_effect.cls ≠ "java/lang/invoke/MethodHandle" ∧ yL_effect.cls ≠ "java/lang/invoke/VarHandle" ∧ (parseMethodDescriptor yL_effect.desc).map (fun d => d.parameters.length) = some 4 := by decide +kernel
set_option maxHeartbeats 4000000 in
set_option maxRecDepth 100000 in
theorem cL_effect_ok (l : Launch) (hlf : l.stackTraces = false) (G : va_G) (cI cG cL : ClassId) (a : Nat → Nat) (o : Nat) (g_ft : Tab) (g_er : Tab) (g_eb : Int32) (g_li : Tab) (g_st : Tab) (g_rd : Int32) (g_tu : Int32) (g_la : Int32) (g_dl : Bool) (g_sh : Int32) (g_tb : Int32) (z_ft : Tab) (z_er : Tab) (z_eb : Int32) (z_li : Tab) (z_st : Tab) (z_rd : Int32) (z_tu : Int32) (z_la : Int32) (z_dl : Bool) (z_sh : Int32) (z_tb : Int32) (yc : Int32) (yp : (Nat → Nat)) (yg : (Nat → GV)) (tx : Tab) (cm : Tab) (ol : Nat → Int64) (p1 : Int32) (p2 : Int32) (out : String ⊕ (Int32)) (hf : fX5_effect g_er p1 p2 = some out) (hE : ∀ E, out = .inl E → E = "java/lang/IndexOutOfBoundsException" ∨ E = "java/lang/IllegalArgumentException") : LI l G (tyl cI cG cL) yL_effect wsL_effect ({ frames := 8, cells := 2, slots := 12, locals := 144 } : Room) [.ref (a 0), .int p1, .int p2, .ref o] (([[((a 0), .inr (8, [.ref (a 1), .ref (a 11), .ref (a 21), .ref (a 63)]))], wG cI (a 1) (a 2) (a 3) (a 4) (a 5) (a 6) (a 7) (a 8) (a 9) (a 10) g_ft g_er g_eb g_li g_st g_rd g_tu g_la g_dl g_sh g_tb, wG cI (a 11) (a 12) (a 13) (a 14) (a 15) (a 16) (a 17) (a 18) (a 19) (a 20) z_ft z_er z_eb z_li z_st z_rd z_tu z_la z_dl z_sh z_tb, wH cI cG (fun i => a (21 + i)) yc yp yg, wS cI (a 63) (a 64) (a 65) (a 66) (a 67) tx cm, [(o, .inl (cL, 1, .inr (.inl ol)))]] : List va_W).flatten) (out.elim (fun E => if E = "java/lang/IndexOutOfBoundsException" then 1 else if E = "java/lang/IllegalArgumentException" then 2 else 0) (fun _ => 0)) (out.elim (fun _ => ([[((a 0), .inr (8, [.ref (a 1), .ref (a 11), .ref (a 21), .ref (a 63)]))], wG cI (a 1) (a 2) (a 3) (a 4) (a 5) (a 6) (a 7) (a 8) (a 9) (a 10) g_ft g_er g_eb g_li g_st g_rd g_tu g_la g_dl g_sh g_tb, wG cI (a 11) (a 12) (a 13) (a 14) (a 15) (a 16) (a 17) (a 18) (a 19) (a 20) z_ft z_er z_eb z_li z_st z_rd z_tu z_la z_dl z_sh z_tb, wH cI cG (fun i => a (21 + i)) yc yp yg, wS cI (a 63) (a 64) (a 65) (a 66) (a 67) tx cm, [(o, .inl (cL, 1, .inr (.inl ol)))]] : List va_W).flatten) (fun u : Int32 => ([[((a 0), .inr (8, [.ref (a 1), .ref (a 11), .ref (a 21), .ref (a 63)]))], wG cI (a 1) (a 2) (a 3) (a 4) (a 5) (a 6) (a 7) (a 8) (a 9) (a 10) g_ft g_er g_eb g_li g_st g_rd g_tu g_la g_dl g_sh g_tb, wG cI (a 11) (a 12) (a 13) (a 14) (a 15) (a 16) (a 17) (a 18) (a 19) (a 20) z_ft z_er z_eb z_li z_st z_rd z_tu z_la z_dl z_sh z_tb, wH cI cG (fun i => a (21 + i)) yc yp yg, wS cI (a 63) (a 64) (a 65) (a 66) (a 67) tx cm, [(o, .inl (cL, 1, .inr (.inl (vp_updL ol (0 : Int32).toNatClampNeg (u : Int32).toInt64))))]] : List va_W).flatten)) 2 12 := by
  intro sz
  apply met_of_vx
  refine vx_ofWH (cc := cL_effect) (maxL := 5) (ret := (some .int)) (by decide) rfl ?_
  intro p e s m args below meth c s₁ B hml hv
  obtain ⟨rfl, ⟨hsz, hP, hK, hD0⟩, hX, hZ, hN⟩ := hv
  have hx := B.exec
  have hb := B.bytes
  have hr := B.returns
  have hts := atoms_spec (ws := wsL_effect) B.pre
  have hown : s.vm.findClass RL = some m.cls := findClass_of_methodNamed B.named
  have hlocks := B.notSynchronized
  have hTb : c.exceptionTable.toList = tableOf [(0, 10, 13, 20), (0, 10, 17, 13)] := vx_table (x := yL_effect) B (hts _ List.mem_cons_self)
  subst hsz
  have hD := hD0.self (sz := s.heap.size)
  generalize hAe : va_A (([[((a 0), .inr (8, [.ref (a 1), .ref (a 11), .ref (a 21), .ref (a 63)]))], wG cI (a 1) (a 2) (a 3) (a 4) (a 5) (a 6) (a 7) (a 8) (a 9) (a 10) g_ft g_er g_eb g_li g_st g_rd g_tu g_la g_dl g_sh g_tb, wG cI (a 11) (a 12) (a 13) (a 14) (a 15) (a 16) (a 17) (a 18) (a 19) (a 20) z_ft z_er z_eb z_li z_st z_rd z_tu z_la z_dl z_sh z_tb, wH cI cG (fun i => a (21 + i)) yc yp yg, wS cI (a 63) (a 64) (a 65) (a 66) (a 67) tx cm, [(o, .inl (cL, 1, .inr (.inl ol)))]] : List va_W).flatten) s.heap.size = A at hD hZ ⊢
  have hA : ∀ q : Nat, s.heap.size ≤ q → A q := fun q h => by rw [← hAe]; exact Or.inr h
  have hS : va_S A s.heap s.heap [] := va_S.rf
  have hw0 := hts (.classLink RL 20 "java/lang/IndexOutOfBoundsException") (List.mem_of_getElem? (i := 1) rfl)
  have hw1 := hts (.classLink RL 13 "java/lang/IllegalArgumentException") (List.mem_of_getElem? (i := 2) rfl)
  show W p l e ({ frames := 8, cells := 2, slots := 12, locals := 144 } : Room) s m _ below meth c s.heap [] 0 0 _ _
  refine W_genQ (fun Q hQ => ?_)
  have hl := lv_entry ([.ref (a 0), .int p1, .int p2, .ref o]) (n := 5) (Nat.le_of_ble_eq_true rfl)
  rw [lg_entry_eq]
  generalize (lg_sl ([.ref (a 0), .int p1, .int p2, .ref o]) ++ List.replicate (5 - (lg_sl ([.ref (a 0), .int p1, .int p2, .ref o])).length) Slot.unset).toArray = ls at hl ⊢
  have hl : lv_has ls 5 [(0, .ref (a 0)), (1, .int p1), (2, .int p2), (3, .ref o)] := hl
  refine lv_aload_n hx hb dL_effect_0 rfl (lv_at hl 3 rfl) ?_
  refine lv_iconst (v := 0) hx hb dL_effect_1 (by decide) ?_
  refine lv_aload_n hx hb dL_effect_2 rfl (lv_at hl 0 rfl) ?_
  refine lv_iload_n hx hb dL_effect_3 rfl (lv_at hl 1 rfl) ?_
  refine lv_iload_n hx hb dL_effect_4 rfl (lv_at hl 2 rfl) ?_
  refine xcall_iV (As := [.int p1, .int p2]) (rest := [.int 0, .ref o]) (c0 := [[((a 0), .inr (8, [.ref (a 1), .ref (a 11), .ref (a 21), .ref (a 63)]))], wG cI (a 1) (a 2) (a 3) (a 4) (a 5) (a 6) (a 7) (a 8) (a 9) (a 10) g_ft g_er g_eb g_li g_st g_rd g_tu g_la g_dl g_sh g_tb, wG cI (a 11) (a 12) (a 13) (a 14) (a 15) (a 16) (a 17) (a 18) (a 19) (a 20) z_ft z_er z_eb z_li z_st z_rd z_tu z_la z_dl z_sh z_tb, wH cI cG (fun i => a (21 + i)) yc yp yg, wS cI (a 63) (a 64) (a 65) (a 66) (a 67) tx cm]) ⟨hx, hb, hml, hown, hts⟩ (cX5_effect_ok l hlf G cI cG a g_ft g_er g_eb g_li g_st g_rd g_tu g_la g_dl g_sh g_tb z_ft z_er z_eb z_li z_st z_rd z_tu z_la z_dl z_sh z_tb yc yp yg tx cm p1 p2 out hf) (cwV 2 hts gL_effect_X5_effect rfl rfl rfl hdX5_effect ⟨Nat.le_of_ble_eq_true rfl, Nat.le_of_ble_eq_true rfl⟩) hP hD hS hA (tyl_z hK) hX hZ 8 rfl rfl rfl [0, 1, 2, 3, 4] rfl rfl rfl rfl rfl (fun u : Int32 => [[((a 0), .inr (8, [.ref (a 1), .ref (a 11), .ref (a 21), .ref (a 63)]))], wG cI (a 1) (a 2) (a 3) (a 4) (a 5) (a 6) (a 7) (a 8) (a 9) (a 10) g_ft g_er g_eb g_li g_st g_rd g_tu g_la g_dl g_sh g_tb, wG cI (a 11) (a 12) (a 13) (a 14) (a 15) (a 16) (a 17) (a 18) (a 19) (a 20) z_ft z_er z_eb z_li z_st z_rd z_tu z_la z_dl z_sh z_tb, wH cI cG (fun i => a (21 + i)) yc yp yg, wS cI (a 63) (a 64) (a 65) (a 66) (a 67) tx cm]) (fun u : Int32 => [[((a 0), .inr (8, [.ref (a 1), .ref (a 11), .ref (a 21), .ref (a 63)]))], wG cI (a 1) (a 2) (a 3) (a 4) (a 5) (a 6) (a 7) (a 8) (a 9) (a 10) g_ft g_er g_eb g_li g_st g_rd g_tu g_la g_dl g_sh g_tb, wG cI (a 11) (a 12) (a 13) (a 14) (a 15) (a 16) (a 17) (a 18) (a 19) (a 20) z_ft z_er z_eb z_li z_st z_rd z_tu z_la z_dl z_sh z_tb, wH cI cG (fun i => a (21 + i)) yc yp yg, wS cI (a 63) (a 64) (a 65) (a 66) (a 67) tx cm, [(o, .inl (cL, 1, .inr (.inl ol)))]]) (fun _ => rfl) (fun _ => rfl) (fun _ => rfl) (fun _ => rfl) rfl rfl hl.1 (Nat.le_of_ble_eq_true rfl) dL_effect_5 ⟨Nat.le_of_ble_eq_true rfl, Nat.le_of_ble_eq_true rfl⟩ (fun E H locs ce q9 ho hP hD hS hcell hv hcl => ?_) (fun u H locs ho hP hD hS => ?_)
  · rcases hE E ho with rfl | rfl
    · subst ho
      refine vx_catch hown [] ⟨0, 10, 13, 20⟩ [⟨0, 10, 17, 13⟩] hTb (fun z hz => by cases hz) (by decide) (by decide) hw0 (va_Nw.use rfl hX.1.2.2.1) hcell hv hcl ?_
      refine lv_astore (lv' := [(4, .ref q9), (0, .ref (a 0)), (1, .int p1), (2, .int p2), (3, .ref o)]) hx hb dL_effect_13 hl (by decide) rfl (fun ls hl => ?_)
      refine lv_iconst (v := 1) hx hb dL_effect_15 (by decide) ?_
      rw [hQ]
      exact lend_i hx hb hr (by decide) hP hD hS dL_effect_16 hlocks (Nat.le_of_ble_eq_true rfl) (Nat.le_of_ble_eq_true rfl)
    · subst ho
      refine vx_catch hown [⟨0, 10, 13, 20⟩] ⟨0, 10, 17, 13⟩ [] hTb (pre1 (Or.inr ⟨by decide, "java/lang/IndexOutOfBoundsException", hw0, hN.2.1⟩)) (by decide) (by decide) hw1 (va_Nw.use rfl hX.1.1) hcell hv hcl ?_
      refine lv_astore (lv' := [(4, .ref q9), (0, .ref (a 0)), (1, .int p1), (2, .int p2), (3, .ref o)]) hx hb dL_effect_17 hl (by decide) rfl (fun ls hl => ?_)
      refine lv_iconst (v := 2) hx hb dL_effect_19 (by decide) ?_
      rw [hQ]
      exact lend_i hx hb hr (by decide) hP hD hS dL_effect_20 hlocks (Nat.le_of_ble_eq_true rfl) (Nat.le_of_ble_eq_true rfl)
  · subst ho
    refine lv_i2l (v := (u : Int32).toInt64) hx hb dL_effect_8 rfl ?_
    refine va_last hx hb hK.1 hP hD hS 68 2 rfl rfl (show ¬ ((0 : Int32) < 0 ∨ 1 ≤ (0 : Int32).toNatClampNeg) from by decide) dL_effect_9 (fun H locs hP hD hS => ?_)
    have hP : va_P G vwCl (([[((a 0), .inr (8, [.ref (a 1), .ref (a 11), .ref (a 21), .ref (a 63)]))], wG cI (a 1) (a 2) (a 3) (a 4) (a 5) (a 6) (a 7) (a 8) (a 9) (a 10) g_ft g_er g_eb g_li g_st g_rd g_tu g_la g_dl g_sh g_tb, wG cI (a 11) (a 12) (a 13) (a 14) (a 15) (a 16) (a 17) (a 18) (a 19) (a 20) z_ft z_er z_eb z_li z_st z_rd z_tu z_la z_dl z_sh z_tb, wH cI cG (fun i => a (21 + i)) yc yp yg, wS cI (a 63) (a 64) (a 65) (a 66) (a 67) tx cm, [(o, .inl (cL, 1, .inr (.inl (vp_updL ol (0 : Int32).toNatClampNeg (u : Int32).toInt64))))]] : List va_W).flatten) H := hP
    have hD : va_D A (([[((a 0), .inr (8, [.ref (a 1), .ref (a 11), .ref (a 21), .ref (a 63)]))], wG cI (a 1) (a 2) (a 3) (a 4) (a 5) (a 6) (a 7) (a 8) (a 9) (a 10) g_ft g_er g_eb g_li g_st g_rd g_tu g_la g_dl g_sh g_tb, wG cI (a 11) (a 12) (a 13) (a 14) (a 15) (a 16) (a 17) (a 18) (a 19) (a 20) z_ft z_er z_eb z_li z_st z_rd z_tu z_la z_dl z_sh z_tb, wH cI cG (fun i => a (21 + i)) yc yp yg, wS cI (a 63) (a 64) (a 65) (a 66) (a 67) tx cm, [(o, .inl (cL, 1, .inr (.inl (vp_updL ol (0 : Int32).toNatClampNeg (u : Int32).toInt64))))]] : List va_W).flatten) := hD
    refine lv_goto (tgt := 21) hx hb dL_effect_10 (by decide) ?_
    refine lv_iconst (v := 0) hx hb dL_effect_21 (by decide) ?_
    rw [hQ]
    exact lend_i hx hb hr rfl hP hD hS dL_effect_22 hlocks (Nat.le_of_ble_eq_true rfl) (Nat.le_of_ble_eq_true rfl)
theorem hdL_value : yL_value.cls ≠ "java/lang/invoke/MethodHandle" ∧ yL_value.cls ≠ "java/lang/invoke/VarHandle" ∧ (parseMethodDescriptor yL_value.desc).map (fun d => d.parameters.length) = some 3 := by decide +kernel
set_option maxHeartbeats 4000000 in
set_option maxRecDepth 100000 in
theorem cL_value_ok (l : Launch) (hlf : l.stackTraces = false) (G : va_G) (cI cG cL : ClassId) (a : Nat → Nat) (o : Nat) (fu : Nat) (g_ft : Tab) (g_er : Tab) (g_eb : Int32) (g_li : Tab) (g_st : Tab) (g_rd : Int32) (g_tu : Int32) (g_la : Int32) (g_dl : Bool) (g_sh : Int32) (g_tb : Int32) (z_ft : Tab) (z_er : Tab) (z_eb : Int32) (z_li : Tab) (z_st : Tab) (z_rd : Int32) (z_tu : Int32) (z_la : Int32) (z_dl : Bool) (z_sh : Int32) (z_tb : Int32) (yc : Int32) (yp : (Nat → Nat)) (yg : (Nat → GV)) (tx : Tab) (cm : Tab) (ol : Nat → Int64) (p1 : Int32) (out : String ⊕ (Int32)) (hf : fX5_value fu g_ft g_er g_eb g_st g_rd g_tu g_sh g_tb p1 = some out) (hE : ∀ E, out = .inl E → E = "java/lang/IllegalArgumentException") : LI l G (tyl cI cG cL) yL_value wsL_value ({ frames := 8, cells := 1, slots := 6, locals := 143 } : Room) [.ref (a 0), .int p1, .ref o] (([[((a 0), .inr (8, [.ref (a 1), .ref (a 11), .ref (a 21), .ref (a 63)]))], wG cI (a 1) (a 2) (a 3) (a 4) (a 5) (a 6) (a 7) (a 8) (a 9) (a 10) g_ft g_er g_eb g_li g_st g_rd g_tu g_la g_dl g_sh g_tb, wG cI (a 11) (a 12) (a 13) (a 14) (a 15) (a 16) (a 17) (a 18) (a 19) (a 20) z_ft z_er z_eb z_li z_st z_rd z_tu z_la z_dl z_sh z_tb, wH cI cG (fun i => a (21 + i)) yc yp yg, wS cI (a 63) (a 64) (a 65) (a 66) (a 67) tx cm, [(o, .inl (cL, 1, .inr (.inl ol)))]] : List va_W).flatten) (out.elim (fun E => if E = "java/lang/IllegalArgumentException" then 1 else 0) (fun _ => 0)) (out.elim (fun _ => ([[((a 0), .inr (8, [.ref (a 1), .ref (a 11), .ref (a 21), .ref (a 63)]))], wG cI (a 1) (a 2) (a 3) (a 4) (a 5) (a 6) (a 7) (a 8) (a 9) (a 10) g_ft g_er g_eb g_li g_st g_rd g_tu g_la g_dl g_sh g_tb, wG cI (a 11) (a 12) (a 13) (a 14) (a 15) (a 16) (a 17) (a 18) (a 19) (a 20) z_ft z_er z_eb z_li z_st z_rd z_tu z_la z_dl z_sh z_tb, wH cI cG (fun i => a (21 + i)) yc yp yg, wS cI (a 63) (a 64) (a 65) (a 66) (a 67) tx cm, [(o, .inl (cL, 1, .inr (.inl ol)))]] : List va_W).flatten) (fun u : Int32 => ([[((a 0), .inr (8, [.ref (a 1), .ref (a 11), .ref (a 21), .ref (a 63)]))], wG cI (a 1) (a 2) (a 3) (a 4) (a 5) (a 6) (a 7) (a 8) (a 9) (a 10) g_ft g_er g_eb g_li g_st g_rd g_tu g_la g_dl g_sh g_tb, wG cI (a 11) (a 12) (a 13) (a 14) (a 15) (a 16) (a 17) (a 18) (a 19) (a 20) z_ft z_er z_eb z_li z_st z_rd z_tu z_la z_dl z_sh z_tb, wH cI cG (fun i => a (21 + i)) yc yp yg, wS cI (a 63) (a 64) (a 65) (a 66) (a 67) tx cm, [(o, .inl (cL, 1, .inr (.inl (vp_updL ol (0 : Int32).toNatClampNeg (u : Int32).toInt64))))]] : List va_W).flatten)) 1 6 := by
  intro sz
  apply met_of_vx
  refine vx_ofWH (cc := cL_value) (maxL := 4) (ret := (some .int)) (by decide) rfl ?_
  intro p e s m args below meth c s₁ B hml hv
  obtain ⟨rfl, ⟨hsz, hP, hK, hD0⟩, hX, hZ, hN⟩ := hv
  have hx := B.exec
  have hb := B.bytes
  have hr := B.returns
  have hts := atoms_spec (ws := wsL_value) B.pre
  have hown : s.vm.findClass RL = some m.cls := findClass_of_methodNamed B.named
  have hlocks := B.notSynchronized
  have hTb : c.exceptionTable.toList = tableOf [(0, 9, 12, 13)] := vx_table (x := yL_value) B (hts _ List.mem_cons_self)
  subst hsz
  have hD := hD0.self (sz := s.heap.size)
  generalize hAe : va_A (([[((a 0), .inr (8, [.ref (a 1), .ref (a 11), .ref (a 21), .ref (a 63)]))], wG cI (a 1) (a 2) (a 3) (a 4) (a 5) (a 6) (a 7) (a 8) (a 9) (a 10) g_ft g_er g_eb g_li g_st g_rd g_tu g_la g_dl g_sh g_tb, wG cI (a 11) (a 12) (a 13) (a 14) (a 15) (a 16) (a 17) (a 18) (a 19) (a 20) z_ft z_er z_eb z_li z_st z_rd z_tu z_la z_dl z_sh z_tb, wH cI cG (fun i => a (21 + i)) yc yp yg, wS cI (a 63) (a 64) (a 65) (a 66) (a 67) tx cm, [(o, .inl (cL, 1, .inr (.inl ol)))]] : List va_W).flatten) s.heap.size = A at hD hZ ⊢
  have hA : ∀ q : Nat, s.heap.size ≤ q → A q := fun q h => by rw [← hAe]; exact Or.inr h
  have hS : va_S A s.heap s.heap [] := va_S.rf
  have hw0 := hts (.classLink RL 13 "java/lang/IllegalArgumentException") (List.mem_of_getElem? (i := 1) rfl)
  show W p l e ({ frames := 8, cells := 1, slots := 6, locals := 143 } : Room) s m _ below meth c s.heap [] 0 0 _ _
  refine W_genQ (fun Q hQ => ?_)
  have hl := lv_entry ([.ref (a 0), .int p1, .ref o]) (n := 4) (Nat.le_of_ble_eq_true rfl)
  rw [lg_entry_eq]
  generalize (lg_sl ([.ref (a 0), .int p1, .ref o]) ++ List.replicate (4 - (lg_sl ([.ref (a 0), .int p1, .ref o])).length) Slot.unset).toArray = ls at hl ⊢
  have hl : lv_has ls 4 [(0, .ref (a 0)), (1, .int p1), (2, .ref o)] := hl
  refine lv_aload_n hx hb dL_value_0 rfl (lv_at hl 2 rfl) ?_
  refine lv_iconst (v := 0) hx hb dL_value_1 (by decide) ?_
  refine lv_aload_n hx hb dL_value_2 rfl (lv_at hl 0 rfl) ?_
  refine lv_iload_n hx hb dL_value_3 rfl (lv_at hl 1 rfl) ?_
  refine xcall_iV (As := [.int p1]) (rest := [.int 0, .ref o]) (c0 := [[((a 0), .inr (8, [.ref (a 1), .ref (a 11), .ref (a 21), .ref (a 63)]))], wG cI (a 1) (a 2) (a 3) (a 4) (a 5) (a 6) (a 7) (a 8) (a 9) (a 10) g_ft g_er g_eb g_li g_st g_rd g_tu g_la g_dl g_sh g_tb, wG cI (a 11) (a 12) (a 13) (a 14) (a 15) (a 16) (a 17) (a 18) (a 19) (a 20) z_ft z_er z_eb z_li z_st z_rd z_tu z_la z_dl z_sh z_tb, wH cI cG (fun i => a (21 + i)) yc yp yg, wS cI (a 63) (a 64) (a 65) (a 66) (a 67) tx cm]) ⟨hx, hb, hml, hown, hts⟩ (cX5_value_ok l hlf G cI cG a fu g_ft g_er g_eb g_li g_st g_rd g_tu g_la g_dl g_sh g_tb z_ft z_er z_eb z_li z_st z_rd z_tu z_la z_dl z_sh z_tb yc yp yg tx cm p1 out hf) (cwV 1 hts gL_value_X5_value rfl rfl rfl hdX5_value ⟨Nat.le_of_ble_eq_true rfl, Nat.le_of_ble_eq_true rfl⟩) hP hD hS hA (tyl_z hK) hX hZ 8 rfl rfl rfl [0, 1, 2, 3, 4] rfl rfl rfl rfl rfl (fun u : Int32 => [[((a 0), .inr (8, [.ref (a 1), .ref (a 11), .ref (a 21), .ref (a 63)]))], wG cI (a 1) (a 2) (a 3) (a 4) (a 5) (a 6) (a 7) (a 8) (a 9) (a 10) g_ft g_er g_eb g_li g_st g_rd g_tu g_la g_dl g_sh g_tb, wG cI (a 11) (a 12) (a 13) (a 14) (a 15) (a 16) (a 17) (a 18) (a 19) (a 20) z_ft z_er z_eb z_li z_st z_rd z_tu z_la z_dl z_sh z_tb, wH cI cG (fun i => a (21 + i)) yc yp yg, wS cI (a 63) (a 64) (a 65) (a 66) (a 67) tx cm]) (fun u : Int32 => [[((a 0), .inr (8, [.ref (a 1), .ref (a 11), .ref (a 21), .ref (a 63)]))], wG cI (a 1) (a 2) (a 3) (a 4) (a 5) (a 6) (a 7) (a 8) (a 9) (a 10) g_ft g_er g_eb g_li g_st g_rd g_tu g_la g_dl g_sh g_tb, wG cI (a 11) (a 12) (a 13) (a 14) (a 15) (a 16) (a 17) (a 18) (a 19) (a 20) z_ft z_er z_eb z_li z_st z_rd z_tu z_la z_dl z_sh z_tb, wH cI cG (fun i => a (21 + i)) yc yp yg, wS cI (a 63) (a 64) (a 65) (a 66) (a 67) tx cm, [(o, .inl (cL, 1, .inr (.inl ol)))]]) (fun _ => rfl) (fun _ => rfl) (fun _ => rfl) (fun _ => rfl) rfl rfl hl.1 (Nat.le_of_ble_eq_true rfl) dL_value_4 ⟨Nat.le_of_ble_eq_true rfl, Nat.le_of_ble_eq_true rfl⟩ (fun E H locs ce q9 ho hP hD hS hcell hv hcl => ?_) (fun u H locs ho hP hD hS => ?_)
  · obtain rfl := hE E ho
    subst ho
    refine vx_catch hown [] ⟨0, 9, 12, 13⟩ [] hTb (fun z hz => by cases hz) (by decide) (by decide) hw0 (va_Nw.use rfl hX.1.1) hcell hv hcl ?_
    refine lv_astore_n (lv' := [(3, .ref q9), (0, .ref (a 0)), (1, .int p1), (2, .ref o)]) hx hb dL_value_12 rfl hl (by decide) rfl (fun ls hl => ?_)
    refine lv_iconst (v := 1) hx hb dL_value_13 (by decide) ?_
    rw [hQ]
    exact lend_i hx hb hr (by decide) hP hD hS dL_value_14 hlocks (Nat.le_of_ble_eq_true rfl) (Nat.le_of_ble_eq_true rfl)
  · subst ho
    refine lv_i2l (v := (u : Int32).toInt64) hx hb dL_value_7 rfl ?_
    refine va_last hx hb hK.1 hP hD hS 68 2 rfl rfl (show ¬ ((0 : Int32) < 0 ∨ 1 ≤ (0 : Int32).toNatClampNeg) from by decide) dL_value_8 (fun H locs hP hD hS => ?_)
    have hP : va_P G vwCl (([[((a 0), .inr (8, [.ref (a 1), .ref (a 11), .ref (a 21), .ref (a 63)]))], wG cI (a 1) (a 2) (a 3) (a 4) (a 5) (a 6) (a 7) (a 8) (a 9) (a 10) g_ft g_er g_eb g_li g_st g_rd g_tu g_la g_dl g_sh g_tb, wG cI (a 11) (a 12) (a 13) (a 14) (a 15) (a 16) (a 17) (a 18) (a 19) (a 20) z_ft z_er z_eb z_li z_st z_rd z_tu z_la z_dl z_sh z_tb, wH cI cG (fun i => a (21 + i)) yc yp yg, wS cI (a 63) (a 64) (a 65) (a 66) (a 67) tx cm, [(o, .inl (cL, 1, .inr (.inl (vp_updL ol (0 : Int32).toNatClampNeg (u : Int32).toInt64))))]] : List va_W).flatten) H := hP
    have hD : va_D A (([[((a 0), .inr (8, [.ref (a 1), .ref (a 11), .ref (a 21), .ref (a 63)]))], wG cI (a 1) (a 2) (a 3) (a 4) (a 5) (a 6) (a 7) (a 8) (a 9) (a 10) g_ft g_er g_eb g_li g_st g_rd g_tu g_la g_dl g_sh g_tb, wG cI (a 11) (a 12) (a 13) (a 14) (a 15) (a 16) (a 17) (a 18) (a 19) (a 20) z_ft z_er z_eb z_li z_st z_rd z_tu z_la z_dl z_sh z_tb, wH cI cG (fun i => a (21 + i)) yc yp yg, wS cI (a 63) (a 64) (a 65) (a 66) (a 67) tx cm, [(o, .inl (cL, 1, .inr (.inl (vp_updL ol (0 : Int32).toNatClampNeg (u : Int32).toInt64))))]] : List va_W).flatten) := hD
    refine lv_goto (tgt := 15) hx hb dL_value_9 (by decide) ?_
    refine lv_iconst (v := 0) hx hb dL_value_15 (by decide) ?_
    rw [hQ]
    exact lend_i hx hb hr rfl hP hD hS dL_value_16 hlocks (Nat.le_of_ble_eq_true rfl) (Nat.le_of_ble_eq_true rfl)
theorem hdL_inList : yL_inList.cls ≠ "java/lang/invoke/MethodHandle" ∧ yL_inList.cls ≠ "java/lang/invoke/VarHandle" ∧ (parseMethodDescriptor yL_inList.desc).map (fun d => d.parameters.length) = some 3 := by decide +kernel
set_option maxHeartbeats 4000000 in
set_option maxRecDepth 100000 in
theorem cL_inList_ok (l : Launch) (hlf : l.stackTraces = false) (G : va_G) (cI cG cL : ClassId) (a : Nat → Nat) (o : Nat) (g_ft : Tab) (g_er : Tab) (g_eb : Int32) (g_li : Tab) (g_st : Tab) (g_rd : Int32) (g_tu : Int32) (g_la : Int32) (g_dl : Bool) (g_sh : Int32) (g_tb : Int32) (z_ft : Tab) (z_er : Tab) (z_eb : Int32) (z_li : Tab) (z_st : Tab) (z_rd : Int32) (z_tu : Int32) (z_la : Int32) (z_dl : Bool) (z_sh : Int32) (z_tb : Int32) (yc : Int32) (yp : (Nat → Nat)) (yg : (Nat → GV)) (tx : Tab) (cm : Tab) (ol : Nat → Int64) (p1 : Int32) (out : String ⊕ (Int32)) (hf : fX5_inList g_li p1 = some out) (hE : ∀ E, out = .inl E → E = "java/lang/IndexOutOfBoundsException") : LI l G (tyl cI cG cL) yL_inList wsL_inList ({ frames := 7, cells := 1, slots := 6, locals := 121 } : Room) [.ref (a 0), .int p1, .ref o] (([[((a 0), .inr (8, [.ref (a 1), .ref (a 11), .ref (a 21), .ref (a 63)]))], wG cI (a 1) (a 2) (a 3) (a 4) (a 5) (a 6) (a 7) (a 8) (a 9) (a 10) g_ft g_er g_eb g_li g_st g_rd g_tu g_la g_dl g_sh g_tb, wG cI (a 11) (a 12) (a 13) (a 14) (a 15) (a 16) (a 17) (a 18) (a 19) (a 20) z_ft z_er z_eb z_li z_st z_rd z_tu z_la z_dl z_sh z_tb, wH cI cG (fun i => a (21 + i)) yc yp yg, wS cI (a 63) (a 64) (a 65) (a 66) (a 67) tx cm, [(o, .inl (cL, 1, .inr (.inl ol)))]] : List va_W).flatten) (out.elim (fun E => if E = "java/lang/IndexOutOfBoundsException" then 1 else 0) (fun _ => 0)) (out.elim (fun _ => ([[((a 0), .inr (8, [.ref (a 1), .ref (a 11), .ref (a 21), .ref (a 63)]))], wG cI (a 1) (a 2) (a 3) (a 4) (a 5) (a 6) (a 7) (a 8) (a 9) (a 10) g_ft g_er g_eb g_li g_st g_rd g_tu g_la g_dl g_sh g_tb, wG cI (a 11) (a 12) (a 13) (a 14) (a 15) (a 16) (a 17) (a 18) (a 19) (a 20) z_ft z_er z_eb z_li z_st z_rd z_tu z_la z_dl z_sh z_tb, wH cI cG (fun i => a (21 + i)) yc yp yg, wS cI (a 63) (a 64) (a 65) (a 66) (a 67) tx cm, [(o, .inl (cL, 1, .inr (.inl ol)))]] : List va_W).flatten) (fun u : Int32 => ([[((a 0), .inr (8, [.ref (a 1), .ref (a 11), .ref (a 21), .ref (a 63)]))], wG cI (a 1) (a 2) (a 3) (a 4) (a 5) (a 6) (a 7) (a 8) (a 9) (a 10) g_ft g_er g_eb g_li g_st g_rd g_tu g_la g_dl g_sh g_tb, wG cI (a 11) (a 12) (a 13) (a 14) (a 15) (a 16) (a 17) (a 18) (a 19) (a 20) z_ft z_er z_eb z_li z_st z_rd z_tu z_la z_dl z_sh z_tb, wH cI cG (fun i => a (21 + i)) yc yp yg, wS cI (a 63) (a 64) (a 65) (a 66) (a 67) tx cm, [(o, .inl (cL, 1, .inr (.inl (vp_updL ol (0 : Int32).toNatClampNeg (u : Int32).toInt64))))]] : List va_W).flatten)) 1 6 := by
  intro sz
  apply met_of_vx
  refine vx_ofWH (cc := cL_inList) (maxL := 4) (ret := (some .int)) (by decide) rfl ?_
  intro p e s m args below meth c s₁ B hml hv
  obtain ⟨rfl, ⟨hsz, hP, hK, hD0⟩, hX, hZ, hN⟩ := hv
  have hx := B.exec
  have hb := B.bytes
  have hr := B.returns
  have hts := atoms_spec (ws := wsL_inList) B.pre
  have hown : s.vm.findClass RL = some m.cls := findClass_of_methodNamed B.named
  have hlocks := B.notSynchronized
  have hTb : c.exceptionTable.toList = tableOf [(0, 9, 12, 20)] := vx_table (x := yL_inList) B (hts _ List.mem_cons_self)
  subst hsz
  have hD := hD0.self (sz := s.heap.size)
  generalize hAe : va_A (([[((a 0), .inr (8, [.ref (a 1), .ref (a 11), .ref (a 21), .ref (a 63)]))], wG cI (a 1) (a 2) (a 3) (a 4) (a 5) (a 6) (a 7) (a 8) (a 9) (a 10) g_ft g_er g_eb g_li g_st g_rd g_tu g_la g_dl g_sh g_tb, wG cI (a 11) (a 12) (a 13) (a 14) (a 15) (a 16) (a 17) (a 18) (a 19) (a 20) z_ft z_er z_eb z_li z_st z_rd z_tu z_la z_dl z_sh z_tb, wH cI cG (fun i => a (21 + i)) yc yp yg, wS cI (a 63) (a 64) (a 65) (a 66) (a 67) tx cm, [(o, .inl (cL, 1, .inr (.inl ol)))]] : List va_W).flatten) s.heap.size = A at hD hZ ⊢
  have hA : ∀ q : Nat, s.heap.size ≤ q → A q := fun q h => by rw [← hAe]; exact Or.inr h
  have hS : va_S A s.heap s.heap [] := va_S.rf
  have hw0 := hts (.classLink RL 20 "java/lang/IndexOutOfBoundsException") (List.mem_of_getElem? (i := 1) rfl)
  show W p l e ({ frames := 7, cells := 1, slots := 6, locals := 121 } : Room) s m _ below meth c s.heap [] 0 0 _ _
  refine W_genQ (fun Q hQ => ?_)
  have hl := lv_entry ([.ref (a 0), .int p1, .ref o]) (n := 4) (Nat.le_of_ble_eq_true rfl)
  rw [lg_entry_eq]
  generalize (lg_sl ([.ref (a 0), .int p1, .ref o]) ++ List.replicate (4 - (lg_sl ([.ref (a 0), .int p1, .ref o])).length) Slot.unset).toArray = ls at hl ⊢
  have hl : lv_has ls 4 [(0, .ref (a 0)), (1, .int p1), (2, .ref o)] := hl
  refine lv_aload_n hx hb dL_inList_0 rfl (lv_at hl 2 rfl) ?_
  refine lv_iconst (v := 0) hx hb dL_inList_1 (by decide) ?_
  refine lv_aload_n hx hb dL_inList_2 rfl (lv_at hl 0 rfl) ?_
  refine lv_iload_n hx hb dL_inList_3 rfl (lv_at hl 1 rfl) ?_
  refine xcall_iV (As := [.int p1]) (rest := [.int 0, .ref o]) (c0 := [[((a 0), .inr (8, [.ref (a 1), .ref (a 11), .ref (a 21), .ref (a 63)]))], wG cI (a 1) (a 2) (a 3) (a 4) (a 5) (a 6) (a 7) (a 8) (a 9) (a 10) g_ft g_er g_eb g_li g_st g_rd g_tu g_la g_dl g_sh g_tb, wG cI (a 11) (a 12) (a 13) (a 14) (a 15) (a 16) (a 17) (a 18) (a 19) (a 20) z_ft z_er z_eb z_li z_st z_rd z_tu z_la z_dl z_sh z_tb, wH cI cG (fun i => a (21 + i)) yc yp yg, wS cI (a 63) (a 64) (a 65) (a 66) (a 67) tx cm]) ⟨hx, hb, hml, hown, hts⟩ (cX5_inList_ok l hlf G cI cG a g_ft g_er g_eb g_li g_st g_rd g_tu g_la g_dl g_sh g_tb z_ft z_er z_eb z_li z_st z_rd z_tu z_la z_dl z_sh z_tb yc yp yg tx cm p1 out hf) (cwV 1 hts gL_inList_X5_inList rfl rfl rfl hdX5_inList ⟨Nat.le_of_ble_eq_true rfl, Nat.le_of_ble_eq_true rfl⟩) hP hD hS hA (tyl_z hK) hX hZ 8 rfl rfl rfl [0, 1, 2, 3, 4] rfl rfl rfl rfl rfl (fun u : Int32 => [[((a 0), .inr (8, [.ref (a 1), .ref (a 11), .ref (a 21), .ref (a 63)]))], wG cI (a 1) (a 2) (a 3) (a 4) (a 5) (a 6) (a 7) (a 8) (a 9) (a 10) g_ft g_er g_eb g_li g_st g_rd g_tu g_la g_dl g_sh g_tb, wG cI (a 11) (a 12) (a 13) (a 14) (a 15) (a 16) (a 17) (a 18) (a 19) (a 20) z_ft z_er z_eb z_li z_st z_rd z_tu z_la z_dl z_sh z_tb, wH cI cG (fun i => a (21 + i)) yc yp yg, wS cI (a 63) (a 64) (a 65) (a 66) (a 67) tx cm]) (fun u : Int32 => [[((a 0), .inr (8, [.ref (a 1), .ref (a 11), .ref (a 21), .ref (a 63)]))], wG cI (a 1) (a 2) (a 3) (a 4) (a 5) (a 6) (a 7) (a 8) (a 9) (a 10) g_ft g_er g_eb g_li g_st g_rd g_tu g_la g_dl g_sh g_tb, wG cI (a 11) (a 12) (a 13) (a 14) (a 15) (a 16) (a 17) (a 18) (a 19) (a 20) z_ft z_er z_eb z_li z_st z_rd z_tu z_la z_dl z_sh z_tb, wH cI cG (fun i => a (21 + i)) yc yp yg, wS cI (a 63) (a 64) (a 65) (a 66) (a 67) tx cm, [(o, .inl (cL, 1, .inr (.inl ol)))]]) (fun _ => rfl) (fun _ => rfl) (fun _ => rfl) (fun _ => rfl) rfl rfl hl.1 (Nat.le_of_ble_eq_true rfl) dL_inList_4 ⟨Nat.le_of_ble_eq_true rfl, Nat.le_of_ble_eq_true rfl⟩ (fun E H locs ce q9 ho hP hD hS hcell hv hcl => ?_) (fun u H locs ho hP hD hS => ?_)
  · obtain rfl := hE E ho
    subst ho
    refine vx_catch hown [] ⟨0, 9, 12, 20⟩ [] hTb (fun z hz => by cases hz) (by decide) (by decide) hw0 (va_Nw.use rfl hX.1.2.2.1) hcell hv hcl ?_
    refine lv_astore_n (lv' := [(3, .ref q9), (0, .ref (a 0)), (1, .int p1), (2, .ref o)]) hx hb dL_inList_12 rfl hl (by decide) rfl (fun ls hl => ?_)
    refine lv_iconst (v := 1) hx hb dL_inList_13 (by decide) ?_
    rw [hQ]
    exact lend_i hx hb hr (by decide) hP hD hS dL_inList_14 hlocks (Nat.le_of_ble_eq_true rfl) (Nat.le_of_ble_eq_true rfl)
  · subst ho
    refine lv_i2l (v := (u : Int32).toInt64) hx hb dL_inList_7 rfl ?_
    refine va_last hx hb hK.1 hP hD hS 68 2 rfl rfl (show ¬ ((0 : Int32) < 0 ∨ 1 ≤ (0 : Int32).toNatClampNeg) from by decide) dL_inList_8 (fun H locs hP hD hS => ?_)
    have hP : va_P G vwCl (([[((a 0), .inr (8, [.ref (a 1), .ref (a 11), .ref (a 21), .ref (a 63)]))], wG cI (a 1) (a 2) (a 3) (a 4) (a 5) (a 6) (a 7) (a 8) (a 9) (a 10) g_ft g_er g_eb g_li g_st g_rd g_tu g_la g_dl g_sh g_tb, wG cI (a 11) (a 12) (a 13) (a 14) (a 15) (a 16) (a 17) (a 18) (a 19) (a 20) z_ft z_er z_eb z_li z_st z_rd z_tu z_la z_dl z_sh z_tb, wH cI cG (fun i => a (21 + i)) yc yp yg, wS cI (a 63) (a 64) (a 65) (a 66) (a 67) tx cm, [(o, .inl (cL, 1, .inr (.inl (vp_updL ol (0 : Int32).toNatClampNeg (u : Int32).toInt64))))]] : List va_W).flatten) H := hP
    have hD : va_D A (([[((a 0), .inr (8, [.ref (a 1), .ref (a 11), .ref (a 21), .ref (a 63)]))], wG cI (a 1) (a 2) (a 3) (a 4) (a 5) (a 6) (a 7) (a 8) (a 9) (a 10) g_ft g_er g_eb g_li g_st g_rd g_tu g_la g_dl g_sh g_tb, wG cI (a 11) (a 12) (a 13) (a 14) (a 15) (a 16) (a 17) (a 18) (a 19) (a 20) z_ft z_er z_eb z_li z_st z_rd z_tu z_la z_dl z_sh z_tb, wH cI cG (fun i => a (21 + i)) yc yp yg, wS cI (a 63) (a 64) (a 65) (a 66) (a 67) tx cm, [(o, .inl (cL, 1, .inr (.inl (vp_updL ol (0 : Int32).toNatClampNeg (u : Int32).toInt64))))]] : List va_W).flatten) := hD
    refine lv_goto (tgt := 15) hx hb dL_inList_9 (by decide) ?_
    refine lv_iconst (v := 0) hx hb dL_inList_15 (by decide) ?_
    rw [hQ]
    exact lend_i hx hb hr rfl hP hD hS dL_inList_16 hlocks (Nat.le_of_ble_eq_true rfl) (Nat.le_of_ble_eq_true rfl)
theorem hdL_next : yL_next.cls ≠ "java/lang/invoke/MethodHandle" ∧ yL_next.cls ≠ "java/lang/invoke/VarHandle" ∧ (parseMethodDescriptor yL_next.desc).map (fun d => d.parameters.length) = some 2 := by decide +kernel
set_option maxHeartbeats 4000000 in
set_option maxRecDepth 100000 in
theorem cL_next_ok (l : Launch) (hlf : l.stackTraces = false) (G : va_G) (cI cG cL : ClassId) (a : Nat → Nat) (o : Nat) (fu : Nat) (g_ft : Tab) (g_er : Tab) (g_eb : Int32) (g_li : Tab) (g_st : Tab) (g_rd : Int32) (g_tu : Int32) (g_la : Int32) (g_dl : Bool) (g_sh : Int32) (g_tb : Int32) (z_ft : Tab) (z_er : Tab) (z_eb : Int32) (z_li : Tab) (z_st : Tab) (z_rd : Int32) (z_tu : Int32) (z_la : Int32) (z_dl : Bool) (z_sh : Int32) (z_tb : Int32) (yc : Int32) (yp : (Nat → Nat)) (yg : (Nat → GV)) (tx : Tab) (cm : Tab) (ol : Nat → Int64)  (out : String ⊕ (Int32 × Tab × Tab × Tab × Int32 × Int32 × Int32 × Bool × Int32 × Int32 × (Nat → Nat) × (Nat → GV))) (hf : fX5_next fu g_ft g_er g_eb g_li g_st g_rd g_tu g_la g_dl g_sh g_tb yc yp yg = some out) (hE : ∀ E, out = .inl E → E = "java/lang/IllegalStateException") : LI l G (tyl cI cG cL) yL_next wsL_next ({ frames := 8, cells := 1, slots := 6, locals := 195 } : Room) [.ref (a 0), .ref o] (([[((a 0), .inr (8, [.ref (a 1), .ref (a 11), .ref (a 21), .ref (a 63)]))], wG cI (a 1) (a 2) (a 3) (a 4) (a 5) (a 6) (a 7) (a 8) (a 9) (a 10) g_ft g_er g_eb g_li g_st g_rd g_tu g_la g_dl g_sh g_tb, wG cI (a 11) (a 12) (a 13) (a 14) (a 15) (a 16) (a 17) (a 18) (a 19) (a 20) z_ft z_er z_eb z_li z_st z_rd z_tu z_la z_dl z_sh z_tb, wH cI cG (fun i => a (21 + i)) yc yp yg, wS cI (a 63) (a 64) (a 65) (a 66) (a 67) tx cm, [(o, .inl (cL, 1, .inr (.inl ol)))]] : List va_W).flatten) (out.elim (fun E => if E = "java/lang/IllegalStateException" then 1 else 0) (fun _ => 0)) (out.elim (fun _ => ([[((a 0), .inr (8, [.ref (a 1), .ref (a 11), .ref (a 21), .ref (a 63)]))], wG cI (a 1) (a 2) (a 3) (a 4) (a 5) (a 6) (a 7) (a 8) (a 9) (a 10) g_ft g_er g_eb g_li g_st g_rd g_tu g_la g_dl g_sh g_tb, wG cI (a 11) (a 12) (a 13) (a 14) (a 15) (a 16) (a 17) (a 18) (a 19) (a 20) z_ft z_er z_eb z_li z_st z_rd z_tu z_la z_dl z_sh z_tb, wH cI cG (fun i => a (21 + i)) yc yp yg, wS cI (a 63) (a 64) (a 65) (a 66) (a 67) tx cm, [(o, .inl (cL, 1, .inr (.inl ol)))]] : List va_W).flatten) (fun u : Int32 × Tab × Tab × Tab × Int32 × Int32 × Int32 × Bool × Int32 × Int32 × (Nat → Nat) × (Nat → GV) => ([[((a 0), .inr (8, [.ref (a 1), .ref (a 11), .ref (a 21), .ref (a 63)]))], wG cI (a 1) (a 2) (a 3) (a 4) (a 5) (a 6) (a 7) (a 8) (a 9) (a 10) u.2.1 u.2.2.1 g_eb u.2.2.2.1 g_st u.2.2.2.2.1 u.2.2.2.2.2.1 u.2.2.2.2.2.2.1 u.2.2.2.2.2.2.2.1 g_sh u.2.2.2.2.2.2.2.2.1, wG cI (a 11) (a 12) (a 13) (a 14) (a 15) (a 16) (a 17) (a 18) (a 19) (a 20) z_ft z_er z_eb z_li z_st z_rd z_tu z_la z_dl z_sh z_tb, wH cI cG (fun i => a (21 + i)) u.2.2.2.2.2.2.2.2.2.1 u.2.2.2.2.2.2.2.2.2.2.1 u.2.2.2.2.2.2.2.2.2.2.2, wS cI (a 63) (a 64) (a 65) (a 66) (a 67) tx cm, [(o, .inl (cL, 1, .inr (.inl (vp_updL ol (0 : Int32).toNatClampNeg (u.1 : Int32).toInt64))))]] : List va_W).flatten)) 1 6 := by
  intro sz
  apply met_of_vx
  refine vx_ofWH (cc := cL_next) (maxL := 3) (ret := (some .int)) (by decide) rfl ?_
  intro p e s m args below meth c s₁ B hml hv
  obtain ⟨rfl, ⟨hsz, hP, hK, hD0⟩, hX, hZ, hN⟩ := hv
  have hx := B.exec
  have hb := B.bytes
  have hr := B.returns
  have hts := atoms_spec (ws := wsL_next) B.pre
  have hown : s.vm.findClass RL = some m.cls := findClass_of_methodNamed B.named
  have hlocks := B.notSynchronized
  have hTb : c.exceptionTable.toList = tableOf [(0, 8, 11, 15)] := vx_table (x := yL_next) B (hts _ List.mem_cons_self)
  subst hsz
  have hD := hD0.self (sz := s.heap.size)
  generalize hAe : va_A (([[((a 0), .inr (8, [.ref (a 1), .ref (a 11), .ref (a 21), .ref (a 63)]))], wG cI (a 1) (a 2) (a 3) (a 4) (a 5) (a 6) (a 7) (a 8) (a 9) (a 10) g_ft g_er g_eb g_li g_st g_rd g_tu g_la g_dl g_sh g_tb, wG cI (a 11) (a 12) (a 13) (a 14) (a 15) (a 16) (a 17) (a 18) (a 19) (a 20) z_ft z_er z_eb z_li z_st z_rd z_tu z_la z_dl z_sh z_tb, wH cI cG (fun i => a (21 + i)) yc yp yg, wS cI (a 63) (a 64) (a 65) (a 66) (a 67) tx cm, [(o, .inl (cL, 1, .inr (.inl ol)))]] : List va_W).flatten) s.heap.size = A at hD hZ ⊢
  have hA : ∀ q : Nat, s.heap.size ≤ q → A q := fun q h => by rw [← hAe]; exact Or.inr h
  have hS : va_S A s.heap s.heap [] := va_S.rf
  have hw0 := hts (.classLink RL 15 "java/lang/IllegalStateException") (List.mem_of_getElem? (i := 1) rfl)
  show W p l e ({ frames := 8, cells := 1, slots := 6, locals := 195 } : Room) s m _ below meth c s.heap [] 0 0 _ _
  refine W_genQ (fun Q hQ => ?_)
  have hl := lv_entry ([.ref (a 0), .ref o]) (n := 3) (Nat.le_of_ble_eq_true rfl)
  rw [lg_entry_eq]
  generalize (lg_sl ([.ref (a 0), .ref o]) ++ List.replicate (3 - (lg_sl ([.ref (a 0), .ref o])).length) Slot.unset).toArray = ls at hl ⊢
  have hl : lv_has ls 3 [(0, .ref (a 0)), (1, .ref o)] := hl
  refine lv_aload_n hx hb dL_next_0 rfl (lv_at hl 1 rfl) ?_
  refine lv_iconst (v := 0) hx hb dL_next_1 (by decide) ?_
  refine lv_aload_n hx hb dL_next_2 rfl (lv_at hl 0 rfl) ?_
  refine xcall_iV (As := []) (rest := [.int 0, .ref o]) (c0 := [[((a 0), .inr (8, [.ref (a 1), .ref (a 11), .ref (a 21), .ref (a 63)]))], wG cI (a 1) (a 2) (a 3) (a 4) (a 5) (a 6) (a 7) (a 8) (a 9) (a 10) g_ft g_er g_eb g_li g_st g_rd g_tu g_la g_dl g_sh g_tb, wG cI (a 11) (a 12) (a 13) (a 14) (a 15) (a 16) (a 17) (a 18) (a 19) (a 20) z_ft z_er z_eb z_li z_st z_rd z_tu z_la z_dl z_sh z_tb, wH cI cG (fun i => a (21 + i)) yc yp yg, wS cI (a 63) (a 64) (a 65) (a 66) (a 67) tx cm]) ⟨hx, hb, hml, hown, hts⟩ (cX5_next_ok l hlf G cI cG a fu g_ft g_er g_eb g_li g_st g_rd g_tu g_la g_dl g_sh g_tb z_ft z_er z_eb z_li z_st z_rd z_tu z_la z_dl z_sh z_tb yc yp yg tx cm out hf) (cwV 0 hts gL_next_X5_next rfl rfl rfl hdX5_next ⟨Nat.le_of_ble_eq_true rfl, Nat.le_of_ble_eq_true rfl⟩) hP hD hS hA (tyl_z hK) hX hZ 8 rfl rfl rfl [0, 1, 2, 3, 4] rfl rfl rfl rfl rfl (fun u : Int32 × Tab × Tab × Tab × Int32 × Int32 × Int32 × Bool × Int32 × Int32 × (Nat → Nat) × (Nat → GV) => [[((a 0), .inr (8, [.ref (a 1), .ref (a 11), .ref (a 21), .ref (a 63)]))], wG cI (a 1) (a 2) (a 3) (a 4) (a 5) (a 6) (a 7) (a 8) (a 9) (a 10) u.2.1 u.2.2.1 g_eb u.2.2.2.1 g_st u.2.2.2.2.1 u.2.2.2.2.2.1 u.2.2.2.2.2.2.1 u.2.2.2.2.2.2.2.1 g_sh u.2.2.2.2.2.2.2.2.1, wG cI (a 11) (a 12) (a 13) (a 14) (a 15) (a 16) (a 17) (a 18) (a 19) (a 20) z_ft z_er z_eb z_li z_st z_rd z_tu z_la z_dl z_sh z_tb, wH cI cG (fun i => a (21 + i)) u.2.2.2.2.2.2.2.2.2.1 u.2.2.2.2.2.2.2.2.2.2.1 u.2.2.2.2.2.2.2.2.2.2.2, wS cI (a 63) (a 64) (a 65) (a 66) (a 67) tx cm]) (fun u : Int32 × Tab × Tab × Tab × Int32 × Int32 × Int32 × Bool × Int32 × Int32 × (Nat → Nat) × (Nat → GV) => [[((a 0), .inr (8, [.ref (a 1), .ref (a 11), .ref (a 21), .ref (a 63)]))], wG cI (a 1) (a 2) (a 3) (a 4) (a 5) (a 6) (a 7) (a 8) (a 9) (a 10) u.2.1 u.2.2.1 g_eb u.2.2.2.1 g_st u.2.2.2.2.1 u.2.2.2.2.2.1 u.2.2.2.2.2.2.1 u.2.2.2.2.2.2.2.1 g_sh u.2.2.2.2.2.2.2.2.1, wG cI (a 11) (a 12) (a 13) (a 14) (a 15) (a 16) (a 17) (a 18) (a 19) (a 20) z_ft z_er z_eb z_li z_st z_rd z_tu z_la z_dl z_sh z_tb, wH cI cG (fun i => a (21 + i)) u.2.2.2.2.2.2.2.2.2.1 u.2.2.2.2.2.2.2.2.2.2.1 u.2.2.2.2.2.2.2.2.2.2.2, wS cI (a 63) (a 64) (a 65) (a 66) (a 67) tx cm, [(o, .inl (cL, 1, .inr (.inl ol)))]]) (fun _ => rfl) (fun _ => rfl) (fun _ => rfl) (fun _ => rfl) rfl rfl hl.1 (Nat.le_of_ble_eq_true rfl) dL_next_3 ⟨Nat.le_of_ble_eq_true rfl, Nat.le_of_ble_eq_true rfl⟩ (fun E H locs ce q9 ho hP hD hS hcell hv hcl => ?_) (fun u H locs ho hP hD hS => ?_)
  · obtain rfl := hE E ho
    subst ho
    refine vx_catch hown [] ⟨0, 8, 11, 15⟩ [] hTb (fun z hz => by cases hz) (by decide) (by decide) hw0 (va_Nw.use rfl hX.1.2.1) hcell hv hcl ?_
    refine lv_astore_n (lv' := [(2, .ref q9), (0, .ref (a 0)), (1, .ref o)]) hx hb dL_next_11 rfl hl (by decide) rfl (fun ls hl => ?_)
    refine lv_iconst (v := 1) hx hb dL_next_12 (by decide) ?_
    rw [hQ]
    exact lend_i hx hb hr (by decide) hP hD hS dL_next_13 hlocks (Nat.le_of_ble_eq_true rfl) (Nat.le_of_ble_eq_true rfl)
  · subst ho
    refine lv_i2l (v := (u.1 : Int32).toInt64) hx hb dL_next_6 rfl ?_
    refine va_last hx hb hK.1 hP hD hS 68 2 rfl rfl (show ¬ ((0 : Int32) < 0 ∨ 1 ≤ (0 : Int32).toNatClampNeg) from by decide) dL_next_7 (fun H locs hP hD hS => ?_)
    have hP : va_P G vwCl (([[((a 0), .inr (8, [.ref (a 1), .ref (a 11), .ref (a 21), .ref (a 63)]))], wG cI (a 1) (a 2) (a 3) (a 4) (a 5) (a 6) (a 7) (a 8) (a 9) (a 10) u.2.1 u.2.2.1 g_eb u.2.2.2.1 g_st u.2.2.2.2.1 u.2.2.2.2.2.1 u.2.2.2.2.2.2.1 u.2.2.2.2.2.2.2.1 g_sh u.2.2.2.2.2.2.2.2.1, wG cI (a 11) (a 12) (a 13) (a 14) (a 15) (a 16) (a 17) (a 18) (a 19) (a 20) z_ft z_er z_eb z_li z_st z_rd z_tu z_la z_dl z_sh z_tb, wH cI cG (fun i => a (21 + i)) u.2.2.2.2.2.2.2.2.2.1 u.2.2.2.2.2.2.2.2.2.2.1 u.2.2.2.2.2.2.2.2.2.2.2, wS cI (a 63) (a 64) (a 65) (a 66) (a 67) tx cm, [(o, .inl (cL, 1, .inr (.inl (vp_updL ol (0 : Int32).toNatClampNeg (u.1 : Int32).toInt64))))]] : List va_W).flatten) H := hP
    have hD : va_D A (([[((a 0), .inr (8, [.ref (a 1), .ref (a 11), .ref (a 21), .ref (a 63)]))], wG cI (a 1) (a 2) (a 3) (a 4) (a 5) (a 6) (a 7) (a 8) (a 9) (a 10) u.2.1 u.2.2.1 g_eb u.2.2.2.1 g_st u.2.2.2.2.1 u.2.2.2.2.2.1 u.2.2.2.2.2.2.1 u.2.2.2.2.2.2.2.1 g_sh u.2.2.2.2.2.2.2.2.1, wG cI (a 11) (a 12) (a 13) (a 14) (a 15) (a 16) (a 17) (a 18) (a 19) (a 20) z_ft z_er z_eb z_li z_st z_rd z_tu z_la z_dl z_sh z_tb, wH cI cG (fun i => a (21 + i)) u.2.2.2.2.2.2.2.2.2.1 u.2.2.2.2.2.2.2.2.2.2.1 u.2.2.2.2.2.2.2.2.2.2.2, wS cI (a 63) (a 64) (a 65) (a 66) (a 67) tx cm, [(o, .inl (cL, 1, .inr (.inl (vp_updL ol (0 : Int32).toNatClampNeg (u.1 : Int32).toInt64))))]] : List va_W).flatten) := hD
    refine lv_goto (tgt := 14) hx hb dL_next_8 (by decide) ?_
    refine lv_iconst (v := 0) hx hb dL_next_14 (by decide) ?_
    rw [hQ]
    exact lend_i hx hb hr rfl hP hD hS dL_next_15 hlocks (Nat.le_of_ble_eq_true rfl) (Nat.le_of_ble_eq_true rfl)
theorem hdL_end : yL_end.cls ≠ "java/lang/invoke/MethodHandle" ∧ yL_end.cls ≠ "java/lang/invoke/VarHandle" ∧ (parseMethodDescriptor yL_end.desc).map (fun d => d.parameters.length) = some 2 := by decide +kernel
set_option maxHeartbeats 4000000 in
set_option maxRecDepth 100000 in
theorem cL_end_ok (l : Launch) (hlf : l.stackTraces = false) (G : va_G) (cI cG cL : ClassId) (a : Nat → Nat) (o : Nat) (fu : Nat) (g_ft : Tab) (g_er : Tab) (g_eb : Int32) (g_li : Tab) (g_st : Tab) (g_rd : Int32) (g_tu : Int32) (g_la : Int32) (g_dl : Bool) (g_sh : Int32) (g_tb : Int32) (z_ft : Tab) (z_er : Tab) (z_eb : Int32) (z_li : Tab) (z_st : Tab) (z_rd : Int32) (z_tu : Int32) (z_la : Int32) (z_dl : Bool) (z_sh : Int32) (z_tb : Int32) (yc : Int32) (yp : (Nat → Nat)) (yg : (Nat → GV)) (tx : Tab) (cm : Tab) (ol : Nat → Int64)  (out : String ⊕ (Int32 × Tab × Int32 × Int32 × (Nat → Nat) × (Nat → GV))) (hf : fX5_end fu g_ft g_er g_eb g_li g_st g_rd g_tu g_la g_dl g_sh g_tb yc yp yg = some out) (hE : ∀ E, out = .inl E → E = "java/lang/IllegalStateException") : LI l G (tyl cI cG cL) yL_end wsL_end ({ frames := 8, cells := 1, slots := 6, locals := 165 } : Room) [.ref (a 0), .ref o] (([[((a 0), .inr (8, [.ref (a 1), .ref (a 11), .ref (a 21), .ref (a 63)]))], wG cI (a 1) (a 2) (a 3) (a 4) (a 5) (a 6) (a 7) (a 8) (a 9) (a 10) g_ft g_er g_eb g_li g_st g_rd g_tu g_la g_dl g_sh g_tb, wG cI (a 11) (a 12) (a 13) (a 14) (a 15) (a 16) (a 17) (a 18) (a 19) (a 20) z_ft z_er z_eb z_li z_st z_rd z_tu z_la z_dl z_sh z_tb, wH cI cG (fun i => a (21 + i)) yc yp yg, wS cI (a 63) (a 64) (a 65) (a 66) (a 67) tx cm, [(o, .inl (cL, 1, .inr (.inl ol)))]] : List va_W).flatten) (out.elim (fun E => if E = "java/lang/IllegalStateException" then 1 else 0) (fun _ => 0)) (out.elim (fun _ => ([[((a 0), .inr (8, [.ref (a 1), .ref (a 11), .ref (a 21), .ref (a 63)]))], wG cI (a 1) (a 2) (a 3) (a 4) (a 5) (a 6) (a 7) (a 8) (a 9) (a 10) g_ft g_er g_eb g_li g_st g_rd g_tu g_la g_dl g_sh g_tb, wG cI (a 11) (a 12) (a 13) (a 14) (a 15) (a 16) (a 17) (a 18) (a 19) (a 20) z_ft z_er z_eb z_li z_st z_rd z_tu z_la z_dl z_sh z_tb, wH cI cG (fun i => a (21 + i)) yc yp yg, wS cI (a 63) (a 64) (a 65) (a 66) (a 67) tx cm, [(o, .inl (cL, 1, .inr (.inl ol)))]] : List va_W).flatten) (fun u : Int32 × Tab × Int32 × Int32 × (Nat → Nat) × (Nat → GV) => ([[((a 0), .inr (8, [.ref (a 1), .ref (a 11), .ref (a 21), .ref (a 63)]))], wG cI (a 1) (a 2) (a 3) (a 4) (a 5) (a 6) (a 7) (a 8) (a 9) (a 10) g_ft u.2.1 g_eb g_li g_st g_rd u.2.2.1 g_la g_dl g_sh g_tb, wG cI (a 11) (a 12) (a 13) (a 14) (a 15) (a 16) (a 17) (a 18) (a 19) (a 20) z_ft z_er z_eb z_li z_st z_rd z_tu z_la z_dl z_sh z_tb, wH cI cG (fun i => a (21 + i)) u.2.2.2.1 u.2.2.2.2.1 u.2.2.2.2.2, wS cI (a 63) (a 64) (a 65) (a 66) (a 67) tx cm, [(o, .inl (cL, 1, .inr (.inl (vp_updL ol (0 : Int32).toNatClampNeg (u.1 : Int32).toInt64))))]] : List va_W).flatten)) 1 6 := by
  intro sz
  apply met_of_vx
  refine vx_ofWH (cc := cL_end) (maxL := 3) (ret := (some .int)) (by decide) rfl ?_
  intro p e s m args below meth c s₁ B hml hv
  obtain ⟨rfl, ⟨hsz, hP, hK, hD0⟩, hX, hZ, hN⟩ := hv
  have hx := B.exec
  have hb := B.bytes
  have hr := B.returns
  have hts := atoms_spec (ws := wsL_end) B.pre
  have hown : s.vm.findClass RL = some m.cls := findClass_of_methodNamed B.named
  have hlocks := B.notSynchronized
  have hTb : c.exceptionTable.toList = tableOf [(0, 8, 11, 15)] := vx_table (x := yL_end) B (hts _ List.mem_cons_self)
  subst hsz
  have hD := hD0.self (sz := s.heap.size)
  generalize hAe : va_A (([[((a 0), .inr (8, [.ref (a 1), .ref (a 11), .ref (a 21), .ref (a 63)]))], wG cI (a 1) (a 2) (a 3) (a 4) (a 5) (a 6) (a 7) (a 8) (a 9) (a 10) g_ft g_er g_eb g_li g_st g_rd g_tu g_la g_dl g_sh g_tb, wG cI (a 11) (a 12) (a 13) (a 14) (a 15) (a 16) (a 17) (a 18) (a 19) (a 20) z_ft z_er z_eb z_li z_st z_rd z_tu z_la z_dl z_sh z_tb, wH cI cG (fun i => a (21 + i)) yc yp yg, wS cI (a 63) (a 64) (a 65) (a 66) (a 67) tx cm, [(o, .inl (cL, 1, .inr (.inl ol)))]] : List va_W).flatten) s.heap.size = A at hD hZ ⊢
  have hA : ∀ q : Nat, s.heap.size ≤ q → A q := fun q h => by rw [← hAe]; exact Or.inr h
  have hS : va_S A s.heap s.heap [] := va_S.rf
  have hw0 := hts (.classLink RL 15 "java/lang/IllegalStateException") (List.mem_of_getElem? (i := 1) rfl)
  show W p l e ({ frames := 8, cells := 1, slots := 6, locals := 165 } : Room) s m _ below meth c s.heap [] 0 0 _ _
  refine W_genQ (fun Q hQ => ?_)
  have hl := lv_entry ([.ref (a 0), .ref o]) (n := 3) (Nat.le_of_ble_eq_true rfl)
  rw [lg_entry_eq]
  generalize (lg_sl ([.ref (a 0), .ref o]) ++ List.replicate (3 - (lg_sl ([.ref (a 0), .ref o])).length) Slot.unset).toArray = ls at hl ⊢
  have hl : lv_has ls 3 [(0, .ref (a 0)), (1, .ref o)] := hl
  refine lv_aload_n hx hb dL_end_0 rfl (lv_at hl 1 rfl) ?_
  refine lv_iconst (v := 0) hx hb dL_end_1 (by decide) ?_
  refine lv_aload_n hx hb dL_end_2 rfl (lv_at hl 0 rfl) ?_
  refine xcall_iV (As := []) (rest := [.int 0, .ref o]) (c0 := [[((a 0), .inr (8, [.ref (a 1), .ref (a 11), .ref (a 21), .ref (a 63)]))], wG cI (a 1) (a 2) (a 3) (a 4) (a 5) (a 6) (a 7) (a 8) (a 9) (a 10) g_ft g_er g_eb g_li g_st g_rd g_tu g_la g_dl g_sh g_tb, wG cI (a 11) (a 12) (a 13) (a 14) (a 15) (a 16) (a 17) (a 18) (a 19) (a 20) z_ft z_er z_eb z_li z_st z_rd z_tu z_la z_dl z_sh z_tb, wH cI cG (fun i => a (21 + i)) yc yp yg, wS cI (a 63) (a 64) (a 65) (a 66) (a 67) tx cm]) ⟨hx, hb, hml, hown, hts⟩ (cX5_end_ok l hlf G cI cG a fu g_ft g_er g_eb g_li g_st g_rd g_tu g_la g_dl g_sh g_tb z_ft z_er z_eb z_li z_st z_rd z_tu z_la z_dl z_sh z_tb yc yp yg tx cm out hf) (cwV 0 hts gL_end_X5_end rfl rfl rfl hdX5_end ⟨Nat.le_of_ble_eq_true rfl, Nat.le_of_ble_eq_true rfl⟩) hP hD hS hA (tyl_z hK) hX hZ 8 rfl rfl rfl [0, 1, 2, 3, 4] rfl rfl rfl rfl rfl (fun u : Int32 × Tab × Int32 × Int32 × (Nat → Nat) × (Nat → GV) => [[((a 0), .inr (8, [.ref (a 1), .ref (a 11), .ref (a 21), .ref (a 63)]))], wG cI (a 1) (a 2) (a 3) (a 4) (a 5) (a 6) (a 7) (a 8) (a 9) (a 10) g_ft u.2.1 g_eb g_li g_st g_rd u.2.2.1 g_la g_dl g_sh g_tb, wG cI (a 11) (a 12) (a 13) (a 14) (a 15) (a 16) (a 17) (a 18) (a 19) (a 20) z_ft z_er z_eb z_li z_st z_rd z_tu z_la z_dl z_sh z_tb, wH cI cG (fun i => a (21 + i)) u.2.2.2.1 u.2.2.2.2.1 u.2.2.2.2.2, wS cI (a 63) (a 64) (a 65) (a 66) (a 67) tx cm]) (fun u : Int32 × Tab × Int32 × Int32 × (Nat → Nat) × (Nat → GV) => [[((a 0), .inr (8, [.ref (a 1), .ref (a 11), .ref (a 21), .ref (a 63)]))], wG cI (a 1) (a 2) (a 3) (a 4) (a 5) (a 6) (a 7) (a 8) (a 9) (a 10) g_ft u.2.1 g_eb g_li g_st g_rd u.2.2.1 g_la g_dl g_sh g_tb, wG cI (a 11) (a 12) (a 13) (a 14) (a 15) (a 16) (a 17) (a 18) (a 19) (a 20) z_ft z_er z_eb z_li z_st z_rd z_tu z_la z_dl z_sh z_tb, wH cI cG (fun i => a (21 + i)) u.2.2.2.1 u.2.2.2.2.1 u.2.2.2.2.2, wS cI (a 63) (a 64) (a 65) (a 66) (a 67) tx cm, [(o, .inl (cL, 1, .inr (.inl ol)))]]) (fun _ => rfl) (fun _ => rfl) (fun _ => rfl) (fun _ => rfl) rfl rfl hl.1 (Nat.le_of_ble_eq_true rfl) dL_end_3 ⟨Nat.le_of_ble_eq_true rfl, Nat.le_of_ble_eq_true rfl⟩ (fun E H locs ce q9 ho hP hD hS hcell hv hcl => ?_) (fun u H locs ho hP hD hS => ?_)
  · obtain rfl := hE E ho
    subst ho
    refine vx_catch hown [] ⟨0, 8, 11, 15⟩ [] hTb (fun z hz => by cases hz) (by decide) (by decide) hw0 (va_Nw.use rfl hX.1.2.1) hcell hv hcl ?_
    refine lv_astore_n (lv' := [(2, .ref q9), (0, .ref (a 0)), (1, .ref o)]) hx hb dL_end_11 rfl hl (by decide) rfl (fun ls hl => ?_)
    refine lv_iconst (v := 1) hx hb dL_end_12 (by decide) ?_
    rw [hQ]
    exact lend_i hx hb hr (by decide) hP hD hS dL_end_13 hlocks (Nat.le_of_ble_eq_true rfl) (Nat.le_of_ble_eq_true rfl)
  · subst ho
    refine lv_i2l (v := (u.1 : Int32).toInt64) hx hb dL_end_6 rfl ?_
    refine va_last hx hb hK.1 hP hD hS 68 2 rfl rfl (show ¬ ((0 : Int32) < 0 ∨ 1 ≤ (0 : Int32).toNatClampNeg) from by decide) dL_end_7 (fun H locs hP hD hS => ?_)
    have hP : va_P G vwCl (([[((a 0), .inr (8, [.ref (a 1), .ref (a 11), .ref (a 21), .ref (a 63)]))], wG cI (a 1) (a 2) (a 3) (a 4) (a 5) (a 6) (a 7) (a 8) (a 9) (a 10) g_ft u.2.1 g_eb g_li g_st g_rd u.2.2.1 g_la g_dl g_sh g_tb, wG cI (a 11) (a 12) (a 13) (a 14) (a 15) (a 16) (a 17) (a 18) (a 19) (a 20) z_ft z_er z_eb z_li z_st z_rd z_tu z_la z_dl z_sh z_tb, wH cI cG (fun i => a (21 + i)) u.2.2.2.1 u.2.2.2.2.1 u.2.2.2.2.2, wS cI (a 63) (a 64) (a 65) (a 66) (a 67) tx cm, [(o, .inl (cL, 1, .inr (.inl (vp_updL ol (0 : Int32).toNatClampNeg (u.1 : Int32).toInt64))))]] : List va_W).flatten) H := hP
    have hD : va_D A (([[((a 0), .inr (8, [.ref (a 1), .ref (a 11), .ref (a 21), .ref (a 63)]))], wG cI (a 1) (a 2) (a 3) (a 4) (a 5) (a 6) (a 7) (a 8) (a 9) (a 10) g_ft u.2.1 g_eb g_li g_st g_rd u.2.2.1 g_la g_dl g_sh g_tb, wG cI (a 11) (a 12) (a 13) (a 14) (a 15) (a 16) (a 17) (a 18) (a 19) (a 20) z_ft z_er z_eb z_li z_st z_rd z_tu z_la z_dl z_sh z_tb, wH cI cG (fun i => a (21 + i)) u.2.2.2.1 u.2.2.2.2.1 u.2.2.2.2.2, wS cI (a 63) (a 64) (a 65) (a 66) (a 67) tx cm, [(o, .inl (cL, 1, .inr (.inl (vp_updL ol (0 : Int32).toNatClampNeg (u.1 : Int32).toInt64))))]] : List va_W).flatten) := hD
    refine lv_goto (tgt := 14) hx hb dL_end_8 (by decide) ?_
    refine lv_iconst (v := 0) hx hb dL_end_14 (by decide) ?_
    rw [hQ]
    exact lend_i hx hb hr rfl hP hD hS dL_end_15 hlocks (Nat.le_of_ble_eq_true rfl) (Nat.le_of_ble_eq_true rfl)
theorem hdL_delay : yL_delay.cls ≠ "java/lang/invoke/MethodHandle" ∧ yL_delay.cls ≠ "java/lang/invoke/VarHandle" ∧ (parseMethodDescriptor yL_delay.desc).map (fun d => d.parameters.length) = some 2 := by decide +kernel
set_option maxHeartbeats 4000000 in
set_option maxRecDepth 100000 in
theorem cL_delay_ok (l : Launch) (hlf : l.stackTraces = false) (G : va_G) (cI cG cL : ClassId) (a : Nat → Nat) (o : Nat) (fu : Nat) (g_ft : Tab) (g_er : Tab) (g_eb : Int32) (g_li : Tab) (g_st : Tab) (g_rd : Int32) (g_tu : Int32) (g_la : Int32) (g_dl : Bool) (g_sh : Int32) (g_tb : Int32) (z_ft : Tab) (z_er : Tab) (z_eb : Int32) (z_li : Tab) (z_st : Tab) (z_rd : Int32) (z_tu : Int32) (z_la : Int32) (z_dl : Bool) (z_sh : Int32) (z_tb : Int32) (yc : Int32) (yp : (Nat → Nat)) (yg : (Nat → GV)) (tx : Tab) (cm : Tab) (ol : Nat → Int64)  (out : String ⊕ (Int32 × Tab × Int32 × Int32 × (Nat → Nat) × (Nat → GV))) (hf : fX5_delay fu g_ft g_er g_eb g_li g_st g_rd g_tu g_la g_dl g_sh g_tb yc yp yg = some out) (hE : ∀ E, out = .inl E → E = "java/lang/IllegalStateException") : LI l G (tyl cI cG cL) yL_delay wsL_delay ({ frames := 8, cells := 1, slots := 6, locals := 165 } : Room) [.ref (a 0), .ref o] (([[((a 0), .inr (8, [.ref (a 1), .ref (a 11), .ref (a 21), .ref (a 63)]))], wG cI (a 1) (a 2) (a 3) (a 4) (a 5) (a 6) (a 7) (a 8) (a 9) (a 10) g_ft g_er g_eb g_li g_st g_rd g_tu g_la g_dl g_sh g_tb, wG cI (a 11) (a 12) (a 13) (a 14) (a 15) (a 16) (a 17) (a 18) (a 19) (a 20) z_ft z_er z_eb z_li z_st z_rd z_tu z_la z_dl z_sh z_tb, wH cI cG (fun i => a (21 + i)) yc yp yg, wS cI (a 63) (a 64) (a 65) (a 66) (a 67) tx cm, [(o, .inl (cL, 1, .inr (.inl ol)))]] : List va_W).flatten) (out.elim (fun E => if E = "java/lang/IllegalStateException" then 1 else 0) (fun _ => 0)) (out.elim (fun _ => ([[((a 0), .inr (8, [.ref (a 1), .ref (a 11), .ref (a 21), .ref (a 63)]))], wG cI (a 1) (a 2) (a 3) (a 4) (a 5) (a 6) (a 7) (a 8) (a 9) (a 10) g_ft g_er g_eb g_li g_st g_rd g_tu g_la g_dl g_sh g_tb, wG cI (a 11) (a 12) (a 13) (a 14) (a 15) (a 16) (a 17) (a 18) (a 19) (a 20) z_ft z_er z_eb z_li z_st z_rd z_tu z_la z_dl z_sh z_tb, wH cI cG (fun i => a (21 + i)) yc yp yg, wS cI (a 63) (a 64) (a 65) (a 66) (a 67) tx cm, [(o, .inl (cL, 1, .inr (.inl ol)))]] : List va_W).flatten) (fun u : Int32 × Tab × Int32 × Int32 × (Nat → Nat) × (Nat → GV) => ([[((a 0), .inr (8, [.ref (a 1), .ref (a 11), .ref (a 21), .ref (a 63)]))], wG cI (a 1) (a 2) (a 3) (a 4) (a 5) (a 6) (a 7) (a 8) (a 9) (a 10) g_ft g_er g_eb u.2.1 g_st g_rd u.2.2.1 g_la g_dl g_sh g_tb, wG cI (a 11) (a 12) (a 13) (a 14) (a 15) (a 16) (a 17) (a 18) (a 19) (a 20) z_ft z_er z_eb z_li z_st z_rd z_tu z_la z_dl z_sh z_tb, wH cI cG (fun i => a (21 + i)) u.2.2.2.1 u.2.2.2.2.1 u.2.2.2.2.2, wS cI (a 63) (a 64) (a 65) (a 66) (a 67) tx cm, [(o, .inl (cL, 1, .inr (.inl (vp_updL ol (0 : Int32).toNatClampNeg (u.1 : Int32).toInt64))))]] : List va_W).flatten)) 1 6 := by
  intro sz
  apply met_of_vx
  refine vx_ofWH (cc := cL_delay) (maxL := 3) (ret := (some .int)) (by decide) rfl ?_
  intro p e s m args below meth c s₁ B hml hv
  obtain ⟨rfl, ⟨hsz, hP, hK, hD0⟩, hX, hZ, hN⟩ := hv
  have hx := B.exec
  have hb := B.bytes
  have hr := B.returns
  have hts := atoms_spec (ws := wsL_delay) B.pre
  have hown : s.vm.findClass RL = some m.cls := findClass_of_methodNamed B.named
  have hlocks := B.notSynchronized
  have hTb : c.exceptionTable.toList = tableOf [(0, 8, 11, 15)] := vx_table (x := yL_delay) B (hts _ List.mem_cons_self)
  subst hsz
  have hD := hD0.self (sz := s.heap.size)
  generalize hAe : va_A (([[((a 0), .inr (8, [.ref (a 1), .ref (a 11), .ref (a 21), .ref (a 63)]))], wG cI (a 1) (a 2) (a 3) (a 4) (a 5) (a 6) (a 7) (a 8) (a 9) (a 10) g_ft g_er g_eb g_li g_st g_rd g_tu g_la g_dl g_sh g_tb, wG cI (a 11) (a 12) (a 13) (a 14) (a 15) (a 16) (a 17) (a 18) (a 19) (a 20) z_ft z_er z_eb z_li z_st z_rd z_tu z_la z_dl z_sh z_tb, wH cI cG (fun i => a (21 + i)) yc yp yg, wS cI (a 63) (a 64) (a 65) (a 66) (a 67) tx cm, [(o, .inl (cL, 1, .inr (.inl ol)))]] : List va_W).flatten) s.heap.size = A at hD hZ ⊢
  have hA : ∀ q : Nat, s.heap.size ≤ q → A q := fun q h => by rw [← hAe]; exact Or.inr h
  have hS : va_S A s.heap s.heap [] := va_S.rf
  have hw0 := hts (.classLink RL 15 "java/lang/IllegalStateException") (List.mem_of_getElem? (i := 1) rfl)
  show W p l e ({ frames := 8, cells := 1, slots := 6, locals := 165 } : Room) s m _ below meth c s.heap [] 0 0 _ _
  refine W_genQ (fun Q hQ => ?_)
  have hl := lv_entry ([.ref (a 0), .ref o]) (n := 3) (Nat.le_of_ble_eq_true rfl)
  rw [lg_entry_eq]
  generalize (lg_sl ([.ref (a 0), .ref o]) ++ List.replicate (3 - (lg_sl ([.ref (a 0), .ref o])).length) Slot.unset).toArray = ls at hl ⊢
  have hl : lv_has ls 3 [(0, .ref (a 0)), (1, .ref o)] := hl
  refine lv_aload_n hx hb dL_delay_0 rfl (lv_at hl 1 rfl) ?_
  refine lv_iconst (v := 0) hx hb dL_delay_1 (by decide) ?_
  refine lv_aload_n hx hb dL_delay_2 rfl (lv_at hl 0 rfl) ?_
  refine xcall_iV (As := []) (rest := [.int 0, .ref o]) (c0 := [[((a 0), .inr (8, [.ref (a 1), .ref (a 11), .ref (a 21), .ref (a 63)]))], wG cI (a 1) (a 2) (a 3) (a 4) (a 5) (a 6) (a 7) (a 8) (a 9) (a 10) g_ft g_er g_eb g_li g_st g_rd g_tu g_la g_dl g_sh g_tb, wG cI (a 11) (a 12) (a 13) (a 14) (a 15) (a 16) (a 17) (a 18) (a 19) (a 20) z_ft z_er z_eb z_li z_st z_rd z_tu z_la z_dl z_sh z_tb, wH cI cG (fun i => a (21 + i)) yc yp yg, wS cI (a 63) (a 64) (a 65) (a 66) (a 67) tx cm]) ⟨hx, hb, hml, hown, hts⟩ (cX5_delay_ok l hlf G cI cG a fu g_ft g_er g_eb g_li g_st g_rd g_tu g_la g_dl g_sh g_tb z_ft z_er z_eb z_li z_st z_rd z_tu z_la z_dl z_sh z_tb yc yp yg tx cm out hf) (cwV 0 hts gL_delay_X5_delay rfl rfl rfl hdX5_delay ⟨Nat.le_of_ble_eq_true rfl, Nat.le_of_ble_eq_true rfl⟩) hP hD hS hA (tyl_z hK) hX hZ 8 rfl rfl rfl [0, 1, 2, 3, 4] rfl rfl rfl rfl rfl (fun u : Int32 × Tab × Int32 × Int32 × (Nat → Nat) × (Nat → GV) => [[((a 0), .inr (8, [.ref (a 1), .ref (a 11), .ref (a 21), .ref (a 63)]))], wG cI (a 1) (a 2) (a 3) (a 4) (a 5) (a 6) (a 7) (a 8) (a 9) (a 10) g_ft g_er g_eb u.2.1 g_st g_rd u.2.2.1 g_la g_dl g_sh g_tb, wG cI (a 11) (a 12) (a 13) (a 14) (a 15) (a 16) (a 17) (a 18) (a 19) (a 20) z_ft z_er z_eb z_li z_st z_rd z_tu z_la z_dl z_sh z_tb, wH cI cG (fun i => a (21 + i)) u.2.2.2.1 u.2.2.2.2.1 u.2.2.2.2.2, wS cI (a 63) (a 64) (a 65) (a 66) (a 67) tx cm]) (fun u : Int32 × Tab × Int32 × Int32 × (Nat → Nat) × (Nat → GV) => [[((a 0), .inr (8, [.ref (a 1), .ref (a 11), .ref (a 21), .ref (a 63)]))], wG cI (a 1) (a 2) (a 3) (a 4) (a 5) (a 6) (a 7) (a 8) (a 9) (a 10) g_ft g_er g_eb u.2.1 g_st g_rd u.2.2.1 g_la g_dl g_sh g_tb, wG cI (a 11) (a 12) (a 13) (a 14) (a 15) (a 16) (a 17) (a 18) (a 19) (a 20) z_ft z_er z_eb z_li z_st z_rd z_tu z_la z_dl z_sh z_tb, wH cI cG (fun i => a (21 + i)) u.2.2.2.1 u.2.2.2.2.1 u.2.2.2.2.2, wS cI (a 63) (a 64) (a 65) (a 66) (a 67) tx cm, [(o, .inl (cL, 1, .inr (.inl ol)))]]) (fun _ => rfl) (fun _ => rfl) (fun _ => rfl) (fun _ => rfl) rfl rfl hl.1 (Nat.le_of_ble_eq_true rfl) dL_delay_3 ⟨Nat.le_of_ble_eq_true rfl, Nat.le_of_ble_eq_true rfl⟩ (fun E H locs ce q9 ho hP hD hS hcell hv hcl => ?_) (fun u H locs ho hP hD hS => ?_)
  · obtain rfl := hE E ho
    subst ho
    refine vx_catch hown [] ⟨0, 8, 11, 15⟩ [] hTb (fun z hz => by cases hz) (by decide) (by decide) hw0 (va_Nw.use rfl hX.1.2.1) hcell hv hcl ?_
    refine lv_astore_n (lv' := [(2, .ref q9), (0, .ref (a 0)), (1, .ref o)]) hx hb dL_delay_11 rfl hl (by decide) rfl (fun ls hl => ?_)
    refine lv_iconst (v := 1) hx hb dL_delay_12 (by decide) ?_
    rw [hQ]
    exact lend_i hx hb hr (by decide) hP hD hS dL_delay_13 hlocks (Nat.le_of_ble_eq_true rfl) (Nat.le_of_ble_eq_true rfl)
  · subst ho
    refine lv_i2l (v := (u.1 : Int32).toInt64) hx hb dL_delay_6 rfl ?_
    refine va_last hx hb hK.1 hP hD hS 68 2 rfl rfl (show ¬ ((0 : Int32) < 0 ∨ 1 ≤ (0 : Int32).toNatClampNeg) from by decide) dL_delay_7 (fun H locs hP hD hS => ?_)
    have hP : va_P G vwCl (([[((a 0), .inr (8, [.ref (a 1), .ref (a 11), .ref (a 21), .ref (a 63)]))], wG cI (a 1) (a 2) (a 3) (a 4) (a 5) (a 6) (a 7) (a 8) (a 9) (a 10) g_ft g_er g_eb u.2.1 g_st g_rd u.2.2.1 g_la g_dl g_sh g_tb, wG cI (a 11) (a 12) (a 13) (a 14) (a 15) (a 16) (a 17) (a 18) (a 19) (a 20) z_ft z_er z_eb z_li z_st z_rd z_tu z_la z_dl z_sh z_tb, wH cI cG (fun i => a (21 + i)) u.2.2.2.1 u.2.2.2.2.1 u.2.2.2.2.2, wS cI (a 63) (a 64) (a 65) (a 66) (a 67) tx cm, [(o, .inl (cL, 1, .inr (.inl (vp_updL ol (0 : Int32).toNatClampNeg (u.1 : Int32).toInt64))))]] : List va_W).flatten) H := hP
    have hD : va_D A (([[((a 0), .inr (8, [.ref (a 1), .ref (a 11), .ref (a 21), .ref (a 63)]))], wG cI (a 1) (a 2) (a 3) (a 4) (a 5) (a 6) (a 7) (a 8) (a 9) (a 10) g_ft g_er g_eb u.2.1 g_st g_rd u.2.2.1 g_la g_dl g_sh g_tb, wG cI (a 11) (a 12) (a 13) (a 14) (a 15) (a 16) (a 17) (a 18) (a 19) (a 20) z_ft z_er z_eb z_li z_st z_rd z_tu z_la z_dl z_sh z_tb, wH cI cG (fun i => a (21 + i)) u.2.2.2.1 u.2.2.2.2.1 u.2.2.2.2.2, wS cI (a 63) (a 64) (a 65) (a 66) (a 67) tx cm, [(o, .inl (cL, 1, .inr (.inl (vp_updL ol (0 : Int32).toNatClampNeg (u.1 : Int32).toInt64))))]] : List va_W).flatten) := hD
    refine lv_goto (tgt := 14) hx hb dL_delay_8 (by decide) ?_
    refine lv_iconst (v := 0) hx hb dL_delay_14 (by decide) ?_
    rw [hQ]
    exact lend_i hx hb hr rfl hP hD hS dL_delay_15 hlocks (Nat.le_of_ble_eq_true rfl) (Nat.le_of_ble_eq_true rfl)
theorem hdL_comeIn : yL_comeIn.cls ≠ "java/lang/invoke/MethodHandle" ∧ yL_comeIn.cls ≠ "java/lang/invoke/VarHandle" ∧ (parseMethodDescriptor yL_comeIn.desc).map (fun d => d.parameters.length) = some 3 := by decide +kernel
set_option maxHeartbeats 4000000 in
set_option maxRecDepth 100000 in
theorem cL_comeIn_ok (l : Launch) (hlf : l.stackTraces = false) (G : va_G) (cI cG cL : ClassId) (a : Nat → Nat) (o : Nat) (fu : Nat) (g_ft : Tab) (g_er : Tab) (g_eb : Int32) (g_li : Tab) (g_st : Tab) (g_rd : Int32) (g_tu : Int32) (g_la : Int32) (g_dl : Bool) (g_sh : Int32) (g_tb : Int32) (z_ft : Tab) (z_er : Tab) (z_eb : Int32) (z_li : Tab) (z_st : Tab) (z_rd : Int32) (z_tu : Int32) (z_la : Int32) (z_dl : Bool) (z_sh : Int32) (z_tb : Int32) (yc : Int32) (yp : (Nat → Nat)) (yg : (Nat → GV)) (tx : Tab) (cm : Tab) (ol : Nat → Int64) (p1 : Int32) (out : String ⊕ (Int32 × Tab × Int32 × Int32 × Bool × Int32 × (Nat → Nat) × (Nat → GV))) (hf : fX5_comeIn fu g_ft g_er g_eb g_li g_st g_rd g_tu g_la g_dl g_sh g_tb yc yp yg p1 = some out) (hE : ∀ E, out = .inl E → E = "java/lang/IndexOutOfBoundsException" ∨ E = "java/lang/IllegalStateException") : LI l G (tyl cI cG cL) yL_comeIn wsL_comeIn ({ frames := 8, cells := 2, slots := 12, locals := 166 } : Room) [.ref (a 0), .int p1, .ref o] (([[((a 0), .inr (8, [.ref (a 1), .ref (a 11), .ref (a 21), .ref (a 63)]))], wG cI (a 1) (a 2) (a 3) (a 4) (a 5) (a 6) (a 7) (a 8) (a 9) (a 10) g_ft g_er g_eb g_li g_st g_rd g_tu g_la g_dl g_sh g_tb, wG cI (a 11) (a 12) (a 13) (a 14) (a 15) (a 16) (a 17) (a 18) (a 19) (a 20) z_ft z_er z_eb z_li z_st z_rd z_tu z_la z_dl z_sh z_tb, wH cI cG (fun i => a (21 + i)) yc yp yg, wS cI (a 63) (a 64) (a 65) (a 66) (a 67) tx cm, [(o, .inl (cL, 1, .inr (.inl ol)))]] : List va_W).flatten) (out.elim (fun E => if E = "java/lang/IndexOutOfBoundsException" then 1 else if E = "java/lang/IllegalStateException" then 2 else 0) (fun _ => 0)) (out.elim (fun _ => ([[((a 0), .inr (8, [.ref (a 1), .ref (a 11), .ref (a 21), .ref (a 63)]))], wG cI (a 1) (a 2) (a 3) (a 4) (a 5) (a 6) (a 7) (a 8) (a 9) (a 10) g_ft g_er g_eb g_li g_st g_rd g_tu g_la g_dl g_sh g_tb, wG cI (a 11) (a 12) (a 13) (a 14) (a 15) (a 16) (a 17) (a 18) (a 19) (a 20) z_ft z_er z_eb z_li z_st z_rd z_tu z_la z_dl z_sh z_tb, wH cI cG (fun i => a (21 + i)) yc yp yg, wS cI (a 63) (a 64) (a 65) (a 66) (a 67) tx cm, [(o, .inl (cL, 1, .inr (.inl ol)))]] : List va_W).flatten) (fun u : Int32 × Tab × Int32 × Int32 × Bool × Int32 × (Nat → Nat) × (Nat → GV) => ([[((a 0), .inr (8, [.ref (a 1), .ref (a 11), .ref (a 21), .ref (a 63)]))], wG cI (a 1) (a 2) (a 3) (a 4) (a 5) (a 6) (a 7) (a 8) (a 9) (a 10) g_ft g_er g_eb u.2.1 g_st g_rd u.2.2.1 u.2.2.2.1 u.2.2.2.2.1 g_sh g_tb, wG cI (a 11) (a 12) (a 13) (a 14) (a 15) (a 16) (a 17) (a 18) (a 19) (a 20) z_ft z_er z_eb z_li z_st z_rd z_tu z_la z_dl z_sh z_tb, wH cI cG (fun i => a (21 + i)) u.2.2.2.2.2.1 u.2.2.2.2.2.2.1 u.2.2.2.2.2.2.2, wS cI (a 63) (a 64) (a 65) (a 66) (a 67) tx cm, [(o, .inl (cL, 1, .inr (.inl (vp_updL ol (0 : Int32).toNatClampNeg (u.1 : Int32).toInt64))))]] : List va_W).flatten)) 2 12 := by
  intro sz
  apply met_of_vx
  refine vx_ofWH (cc := cL_comeIn) (maxL := 4) (ret := (some .int)) (by decide) rfl ?_
  intro p e s m args below meth c s₁ B hml hv
  obtain ⟨rfl, ⟨hsz, hP, hK, hD0⟩, hX, hZ, hN⟩ := hv
  have hx := B.exec
  have hb := B.bytes
  have hr := B.returns
  have hts := atoms_spec (ws := wsL_comeIn) B.pre
  have hown : s.vm.findClass RL = some m.cls := findClass_of_methodNamed B.named
  have hlocks := B.notSynchronized
  have hTb : c.exceptionTable.toList = tableOf [(0, 9, 12, 20), (0, 9, 15, 15)] := vx_table (x := yL_comeIn) B (hts _ List.mem_cons_self)
  subst hsz
  have hD := hD0.self (sz := s.heap.size)
  generalize hAe : va_A (([[((a 0), .inr (8, [.ref (a 1), .ref (a 11), .ref (a 21), .ref (a 63)]))], wG cI (a 1) (a 2) (a 3) (a 4) (a 5) (a 6) (a 7) (a 8) (a 9) (a 10) g_ft g_er g_eb g_li g_st g_rd g_tu g_la g_dl g_sh g_tb, wG cI (a 11) (a 12) (a 13) (a 14) (a 15) (a 16) (a 17) (a 18) (a 19) (a 20) z_ft z_er z_eb z_li z_st z_rd z_tu z_la z_dl z_sh z_tb, wH cI cG (fun i => a (21 + i)) yc yp yg, wS cI (a 63) (a 64) (a 65) (a 66) (a 67) tx cm, [(o, .inl (cL, 1, .inr (.inl ol)))]] : List va_W).flatten) s.heap.size = A at hD hZ ⊢
  have hA : ∀ q : Nat, s.heap.size ≤ q → A q := fun q h => by rw [← hAe]; exact Or.inr h
  have hS : va_S A s.heap s.heap [] := va_S.rf
  have hw0 := hts (.classLink RL 20 "java/lang/IndexOutOfBoundsException") (List.mem_of_getElem? (i := 1) rfl)
  have hw1 := hts (.classLink RL 15 "java/lang/IllegalStateException") (List.mem_of_getElem? (i := 2) rfl)
  show W p l e ({ frames := 8, cells := 2, slots := 12, locals := 166 } : Room) s m _ below meth c s.heap [] 0 0 _ _
  refine W_genQ (fun Q hQ => ?_)
  have hl := lv_entry ([.ref (a 0), .int p1, .ref o]) (n := 4) (Nat.le_of_ble_eq_true rfl)
  rw [lg_entry_eq]
  generalize (lg_sl ([.ref (a 0), .int p1, .ref o]) ++ List.replicate (4 - (lg_sl ([.ref (a 0), .int p1, .ref o])).length) Slot.unset).toArray = ls at hl ⊢
  have hl : lv_has ls 4 [(0, .ref (a 0)), (1, .int p1), (2, .ref o)] := hl
  refine lv_aload_n hx hb dL_comeIn_0 rfl (lv_at hl 2 rfl) ?_
  refine lv_iconst (v := 0) hx hb dL_comeIn_1 (by decide) ?_
  refine lv_aload_n hx hb dL_comeIn_2 rfl (lv_at hl 0 rfl) ?_
  refine lv_iload_n hx hb dL_comeIn_3 rfl (lv_at hl 1 rfl) ?_
  refine xcall_iV (As := [.int p1]) (rest := [.int 0, .ref o]) (c0 := [[((a 0), .inr (8, [.ref (a 1), .ref (a 11), .ref (a 21), .ref (a 63)]))], wG cI (a 1) (a 2) (a 3) (a 4) (a 5) (a 6) (a 7) (a 8) (a 9) (a 10) g_ft g_er g_eb g_li g_st g_rd g_tu g_la g_dl g_sh g_tb, wG cI (a 11) (a 12) (a 13) (a 14) (a 15) (a 16) (a 17) (a 18) (a 19) (a 20) z_ft z_er z_eb z_li z_st z_rd z_tu z_la z_dl z_sh z_tb, wH cI cG (fun i => a (21 + i)) yc yp yg, wS cI (a 63) (a 64) (a 65) (a 66) (a 67) tx cm]) ⟨hx, hb, hml, hown, hts⟩ (cX5_comeIn_ok l hlf G cI cG a fu g_ft g_er g_eb g_li g_st g_rd g_tu g_la g_dl g_sh g_tb z_ft z_er z_eb z_li z_st z_rd z_tu z_la z_dl z_sh z_tb yc yp yg tx cm p1 out hf) (cwV 1 hts gL_comeIn_X5_comeIn rfl rfl rfl hdX5_comeIn ⟨Nat.le_of_ble_eq_true rfl, Nat.le_of_ble_eq_true rfl⟩) hP hD hS hA (tyl_z hK) hX hZ 8 rfl rfl rfl [0, 1, 2, 3, 4] rfl rfl rfl rfl rfl (fun u : Int32 × Tab × Int32 × Int32 × Bool × Int32 × (Nat → Nat) × (Nat → GV) => [[((a 0), .inr (8, [.ref (a 1), .ref (a 11), .ref (a 21), .ref (a 63)]))], wG cI (a 1) (a 2) (a 3) (a 4) (a 5) (a 6) (a 7) (a 8) (a 9) (a 10) g_ft g_er g_eb u.2.1 g_st g_rd u.2.2.1 u.2.2.2.1 u.2.2.2.2.1 g_sh g_tb, wG cI (a 11) (a 12) (a 13) (a 14) (a 15) (a 16) (a 17) (a 18) (a 19) (a 20) z_ft z_er z_eb z_li z_st z_rd z_tu z_la z_dl z_sh z_tb, wH cI cG (fun i => a (21 + i)) u.2.2.2.2.2.1 u.2.2.2.2.2.2.1 u.2.2.2.2.2.2.2, wS cI (a 63) (a 64) (a 65) (a 66) (a 67) tx cm]) (fun u : Int32 × Tab × Int32 × Int32 × Bool × Int32 × (Nat → Nat) × (Nat → GV) => [[((a 0), .inr (8, [.ref (a 1), .ref (a 11), .ref (a 21), .ref (a 63)]))], wG cI (a 1) (a 2) (a 3) (a 4) (a 5) (a 6) (a 7) (a 8) (a 9) (a 10) g_ft g_er g_eb u.2.1 g_st g_rd u.2.2.1 u.2.2.2.1 u.2.2.2.2.1 g_sh g_tb, wG cI (a 11) (a 12) (a 13) (a 14) (a 15) (a 16) (a 17) (a 18) (a 19) (a 20) z_ft z_er z_eb z_li z_st z_rd z_tu z_la z_dl z_sh z_tb, wH cI cG (fun i => a (21 + i)) u.2.2.2.2.2.1 u.2.2.2.2.2.2.1 u.2.2.2.2.2.2.2, wS cI (a 63) (a 64) (a 65) (a 66) (a 67) tx cm, [(o, .inl (cL, 1, .inr (.inl ol)))]]) (fun _ => rfl) (fun _ => rfl) (fun _ => rfl) (fun _ => rfl) rfl rfl hl.1 (Nat.le_of_ble_eq_true rfl) dL_comeIn_4 ⟨Nat.le_of_ble_eq_true rfl, Nat.le_of_ble_eq_true rfl⟩ (fun E H locs ce q9 ho hP hD hS hcell hv hcl => ?_) (fun u H locs ho hP hD hS => ?_)
  · rcases hE E ho with rfl | rfl
    · subst ho
      refine vx_catch hown [] ⟨0, 9, 12, 20⟩ [⟨0, 9, 15, 15⟩] hTb (fun z hz => by cases hz) (by decide) (by decide) hw0 (va_Nw.use rfl hX.1.2.2.1) hcell hv hcl ?_
      refine lv_astore_n (lv' := [(3, .ref q9), (0, .ref (a 0)), (1, .int p1), (2, .ref o)]) hx hb dL_comeIn_12 rfl hl (by decide) rfl (fun ls hl => ?_)
      refine lv_iconst (v := 1) hx hb dL_comeIn_13 (by decide) ?_
      rw [hQ]
      exact lend_i hx hb hr (by decide) hP hD hS dL_comeIn_14 hlocks (Nat.le_of_ble_eq_true rfl) (Nat.le_of_ble_eq_true rfl)
    · subst ho
      refine vx_catch hown [⟨0, 9, 12, 20⟩] ⟨0, 9, 15, 15⟩ [] hTb (pre1 (Or.inr ⟨by decide, "java/lang/IndexOutOfBoundsException", hw0, hN.2.2.2.1⟩)) (by decide) (by decide) hw1 (va_Nw.use rfl hX.1.2.1) hcell hv hcl ?_
      refine lv_astore_n (lv' := [(3, .ref q9), (0, .ref (a 0)), (1, .int p1), (2, .ref o)]) hx hb dL_comeIn_15 rfl hl (by decide) rfl (fun ls hl => ?_)
      refine lv_iconst (v := 2) hx hb dL_comeIn_16 (by decide) ?_
      rw [hQ]
      exact lend_i hx hb hr (by decide) hP hD hS dL_comeIn_17 hlocks (Nat.le_of_ble_eq_true rfl) (Nat.le_of_ble_eq_true rfl)
  · subst ho
    refine lv_i2l (v := (u.1 : Int32).toInt64) hx hb dL_comeIn_7 rfl ?_
    refine va_last hx hb hK.1 hP hD hS 68 2 rfl rfl (show ¬ ((0 : Int32) < 0 ∨ 1 ≤ (0 : Int32).toNatClampNeg) from by decide) dL_comeIn_8 (fun H locs hP hD hS => ?_)
    have hP : va_P G vwCl (([[((a 0), .inr (8, [.ref (a 1), .ref (a 11), .ref (a 21), .ref (a 63)]))], wG cI (a 1) (a 2) (a 3) (a 4) (a 5) (a 6) (a 7) (a 8) (a 9) (a 10) g_ft g_er g_eb u.2.1 g_st g_rd u.2.2.1 u.2.2.2.1 u.2.2.2.2.1 g_sh g_tb, wG cI (a 11) (a 12) (a 13) (a 14) (a 15) (a 16) (a 17) (a 18) (a 19) (a 20) z_ft z_er z_eb z_li z_st z_rd z_tu z_la z_dl z_sh z_tb, wH cI cG (fun i => a (21 + i)) u.2.2.2.2.2.1 u.2.2.2.2.2.2.1 u.2.2.2.2.2.2.2, wS cI (a 63) (a 64) (a 65) (a 66) (a 67) tx cm, [(o, .inl (cL, 1, .inr (.inl (vp_updL ol (0 : Int32).toNatClampNeg (u.1 : Int32).toInt64))))]] : List va_W).flatten) H := hP
    have hD : va_D A (([[((a 0), .inr (8, [.ref (a 1), .ref (a 11), .ref (a 21), .ref (a 63)]))], wG cI (a 1) (a 2) (a 3) (a 4) (a 5) (a 6) (a 7) (a 8) (a 9) (a 10) g_ft g_er g_eb u.2.1 g_st g_rd u.2.2.1 u.2.2.2.1 u.2.2.2.2.1 g_sh g_tb, wG cI (a 11) (a 12) (a 13) (a 14) (a 15) (a 16) (a 17) (a 18) (a 19) (a 20) z_ft z_er z_eb z_li z_st z_rd z_tu z_la z_dl z_sh z_tb, wH cI cG (fun i => a (21 + i)) u.2.2.2.2.2.1 u.2.2.2.2.2.2.1 u.2.2.2.2.2.2.2, wS cI (a 63) (a 64) (a 65) (a 66) (a 67) tx cm, [(o, .inl (cL, 1, .inr (.inl (vp_updL ol (0 : Int32).toNatClampNeg (u.1 : Int32).toInt64))))]] : List va_W).flatten) := hD
    refine lv_goto (tgt := 18) hx hb dL_comeIn_9 (by decide) ?_
    refine lv_iconst (v := 0) hx hb dL_comeIn_18 (by decide) ?_
    rw [hQ]
    exact lend_i hx hb hr rfl hP hD hS dL_comeIn_19 hlocks (Nat.le_of_ble_eq_true rfl) (Nat.le_of_ble_eq_true rfl)
theorem hdL_act : yL_act.cls ≠ "java/lang/invoke/MethodHandle" ∧ yL_act.cls ≠ "java/lang/invoke/VarHandle" ∧ (parseMethodDescriptor yL_act.desc).map (fun d => d.parameters.length) = some 6 := by decide +kernel
set_option maxHeartbeats 4000000 in
set_option maxRecDepth 100000 in
theorem cL_act_ok (l : Launch) (hlf : l.stackTraces = false) (G : va_G) (cI cG cL : ClassId) (a : Nat → Nat) (o : Nat) (fu : Nat) (g_ft : Tab) (g_er : Tab) (g_eb : Int32) (g_li : Tab) (g_st : Tab) (g_rd : Int32) (g_tu : Int32) (g_la : Int32) (g_dl : Bool) (g_sh : Int32) (g_tb : Int32) (z_ft : Tab) (z_er : Tab) (z_eb : Int32) (z_li : Tab) (z_st : Tab) (z_rd : Int32) (z_tu : Int32) (z_la : Int32) (z_dl : Bool) (z_sh : Int32) (z_tb : Int32) (yc : Int32) (yp : (Nat → Nat)) (yg : (Nat → GV)) (tx : Tab) (cm : Tab) (ol : Nat → Int64) (p1 : Int32) (p2 : Int32) (p3 : Int32) (p4 : Int32) (out : String ⊕ (Int32 × Tab × Tab × Bool × Int32 × (Nat → Nat) × (Nat → GV))) (hf : fX5_act fu g_ft g_er g_eb g_li g_st g_rd g_tu g_la g_dl g_sh g_tb yc yp yg p1 p2 p3 p4 = some out) (hE : ∀ E, out = .inl E → E = "java/lang/IndexOutOfBoundsException" ∨ E = "java/lang/IllegalArgumentException" ∨ E = "java/lang/IllegalStateException") : LI l G (tyl cI cG cL) yL_act wsL_act ({ frames := 8, cells := 4, slots := 24, locals := 169 } : Room) [.ref (a 0), .int p1, .int p2, .int p3, .int p4, .ref o] (([[((a 0), .inr (8, [.ref (a 1), .ref (a 11), .ref (a 21), .ref (a 63)]))], wG cI (a 1) (a 2) (a 3) (a 4) (a 5) (a 6) (a 7) (a 8) (a 9) (a 10) g_ft g_er g_eb g_li g_st g_rd g_tu g_la g_dl g_sh g_tb, wG cI (a 11) (a 12) (a 13) (a 14) (a 15) (a 16) (a 17) (a 18) (a 19) (a 20) z_ft z_er z_eb z_li z_st z_rd z_tu z_la z_dl z_sh z_tb, wH cI cG (fun i => a (21 + i)) yc yp yg, wS cI (a 63) (a 64) (a 65) (a 66) (a 67) tx cm, [(o, .inl (cL, 1, .inr (.inl ol)))]] : List va_W).flatten) (out.elim (fun E => if E = "java/lang/IndexOutOfBoundsException" then 1 else if E = "java/lang/IllegalArgumentException" then 2 else if E = "java/lang/IllegalStateException" then 3 else 0) (fun _ => 0)) (out.elim (fun _ => ([[((a 0), .inr (8, [.ref (a 1), .ref (a 11), .ref (a 21), .ref (a 63)]))], wG cI (a 1) (a 2) (a 3) (a 4) (a 5) (a 6) (a 7) (a 8) (a 9) (a 10) g_ft g_er g_eb g_li g_st g_rd g_tu g_la g_dl g_sh g_tb, wG cI (a 11) (a 12) (a 13) (a 14) (a 15) (a 16) (a 17) (a 18) (a 19) (a 20) z_ft z_er z_eb z_li z_st z_rd z_tu z_la z_dl z_sh z_tb, wH cI cG (fun i => a (21 + i)) yc yp yg, wS cI (a 63) (a 64) (a 65) (a 66) (a 67) tx cm, [(o, .inl (cL, 1, .inr (.inl ol)))]] : List va_W).flatten) (fun u : Int32 × Tab × Tab × Bool × Int32 × (Nat → Nat) × (Nat → GV) => ([[((a 0), .inr (8, [.ref (a 1), .ref (a 11), .ref (a 21), .ref (a 63)]))], wG cI (a 1) (a 2) (a 3) (a 4) (a 5) (a 6) (a 7) (a 8) (a 9) (a 10) u.2.1 g_er g_eb g_li u.2.2.1 g_rd g_tu g_la u.2.2.2.1 g_sh g_tb, wG cI (a 11) (a 12) (a 13) (a 14) (a 15) (a 16) (a 17) (a 18) (a 19) (a 20) z_ft z_er z_eb z_li z_st z_rd z_tu z_la z_dl z_sh z_tb, wH cI cG (fun i => a (21 + i)) u.2.2.2.2.1 u.2.2.2.2.2.1 u.2.2.2.2.2.2, wS cI (a 63) (a 64) (a 65) (a 66) (a 67) tx cm, [(o, .inl (cL, 1, .inr (.inl (vp_updL ol (0 : Int32).toNatClampNeg (u.1 : Int32).toInt64))))]] : List va_W).flatten)) 4 24 := by
  intro sz
  apply met_of_vx
  refine vx_ofWH (cc := cL_act) (maxL := 7) (ret := (some .int)) (by decide) rfl ?_
  intro p e s m args below meth c s₁ B hml hv
  obtain ⟨rfl, ⟨hsz, hP, hK, hD0⟩, hX, hZ, hN⟩ := hv
  have hx := B.exec
  have hb := B.bytes
  have hr := B.returns
  have hts := atoms_spec (ws := wsL_act) B.pre
  have hown : s.vm.findClass RL = some m.cls := findClass_of_methodNamed B.named
  have hlocks := B.notSynchronized
  have hTb : c.exceptionTable.toList = tableOf [(0, 14, 17, 20), (0, 14, 21, 13), (0, 14, 25, 15)] := vx_table (x := yL_act) B (hts _ List.mem_cons_self)
  subst hsz
  have hD := hD0.self (sz := s.heap.size)
  generalize hAe : va_A (([[((a 0), .inr (8, [.ref (a 1), .ref (a 11), .ref (a 21), .ref (a 63)]))], wG cI (a 1) (a 2) (a 3) (a 4) (a 5) (a 6) (a 7) (a 8) (a 9) (a 10) g_ft g_er g_eb g_li g_st g_rd g_tu g_la g_dl g_sh g_tb, wG cI (a 11) (a 12) (a 13) (a 14) (a 15) (a 16) (a 17) (a 18) (a 19) (a 20) z_ft z_er z_eb z_li z_st z_rd z_tu z_la z_dl z_sh z_tb, wH cI cG (fun i => a (21 + i)) yc yp yg, wS cI (a 63) (a 64) (a 65) (a 66) (a 67) tx cm, [(o, .inl (cL, 1, .inr (.inl ol)))]] : List va_W).flatten) s.heap.size = A at hD hZ ⊢
  have hA : ∀ q : Nat, s.heap.size ≤ q → A q := fun q h => by rw [← hAe]; exact Or.inr h
  have hS : va_S A s.heap s.heap [] := va_S.rf
  have hw0 := hts (.classLink RL 20 "java/lang/IndexOutOfBoundsException") (List.mem_of_getElem? (i := 1) rfl)
  have hw1 := hts (.classLink RL 13 "java/lang/IllegalArgumentException") (List.mem_of_getElem? (i := 2) rfl)
  have hw2 := hts (.classLink RL 15 "java/lang/IllegalStateException") (List.mem_of_getElem? (i := 3) rfl)
  show W p l e ({ frames := 8, cells := 4, slots := 24, locals := 169 } : Room) s m _ below meth c s.heap [] 0 0 _ _
  refine W_genQ (fun Q hQ => ?_)
  have hl := lv_entry ([.ref (a 0), .int p1, .int p2, .int p3, .int p4, .ref o]) (n := 7) (Nat.le_of_ble_eq_true rfl)
  rw [lg_entry_eq]
  generalize (lg_sl ([.ref (a 0), .int p1, .int p2, .int p3, .int p4, .ref o]) ++ List.replicate (7 - (lg_sl ([.ref (a 0), .int p1, .int p2, .int p3, .int p4, .ref o])).length) Slot.unset).toArray = ls at hl ⊢
  have hl : lv_has ls 7 [(0, .ref (a 0)), (1, .int p1), (2, .int p2), (3, .int p3), (4, .int p4), (5, .ref o)] := hl
  refine lv_aload hx hb dL_act_0 (lv_at hl 5 rfl) ?_
  refine lv_iconst (v := 0) hx hb dL_act_2 (by decide) ?_
  refine lv_aload_n hx hb dL_act_3 rfl (lv_at hl 0 rfl) ?_
  refine lv_iload_n hx hb dL_act_4 rfl (lv_at hl 1 rfl) ?_
  refine lv_iload_n hx hb dL_act_5 rfl (lv_at hl 2 rfl) ?_
  refine lv_iload_n hx hb dL_act_6 rfl (lv_at hl 3 rfl) ?_
  refine lv_iload hx hb dL_act_7 (lv_at hl 4 rfl) ?_
  refine xcall_iV (As := [.int p1, .int p2, .int p3, .int p4]) (rest := [.int 0, .ref o]) (c0 := [[((a 0), .inr (8, [.ref (a 1), .ref (a 11), .ref (a 21), .ref (a 63)]))], wG cI (a 1) (a 2) (a 3) (a 4) (a 5) (a 6) (a 7) (a 8) (a 9) (a 10) g_ft g_er g_eb g_li g_st g_rd g_tu g_la g_dl g_sh g_tb, wG cI (a 11) (a 12) (a 13) (a 14) (a 15) (a 16) (a 17) (a 18) (a 19) (a 20) z_ft z_er z_eb z_li z_st z_rd z_tu z_la z_dl z_sh z_tb, wH cI cG (fun i => a (21 + i)) yc yp yg, wS cI (a 63) (a 64) (a 65) (a 66) (a 67) tx cm]) ⟨hx, hb, hml, hown, hts⟩ (cX5_act_ok l hlf G cI cG a fu g_ft g_er g_eb g_li g_st g_rd g_tu g_la g_dl g_sh g_tb z_ft z_er z_eb z_li z_st z_rd z_tu z_la z_dl z_sh z_tb yc yp yg tx cm p1 p2 p3 p4 out hf) (cwV 4 hts gL_act_X5_act rfl rfl rfl hdX5_act ⟨Nat.le_of_ble_eq_true rfl, Nat.le_of_ble_eq_true rfl⟩) hP hD hS hA (tyl_z hK) hX hZ 8 rfl rfl rfl [0, 1, 2, 3, 4] rfl rfl rfl rfl rfl (fun u : Int32 × Tab × Tab × Bool × Int32 × (Nat → Nat) × (Nat → GV) => [[((a 0), .inr (8, [.ref (a 1), .ref (a 11), .ref (a 21), .ref (a 63)]))], wG cI (a 1) (a 2) (a 3) (a 4) (a 5) (a 6) (a 7) (a 8) (a 9) (a 10) u.2.1 g_er g_eb g_li u.2.2.1 g_rd g_tu g_la u.2.2.2.1 g_sh g_tb, wG cI (a 11) (a 12) (a 13) (a 14) (a 15) (a 16) (a 17) (a 18) (a 19) (a 20) z_ft z_er z_eb z_li z_st z_rd z_tu z_la z_dl z_sh z_tb, wH cI cG (fun i => a (21 + i)) u.2.2.2.2.1 u.2.2.2.2.2.1 u.2.2.2.2.2.2, wS cI (a 63) (a 64) (a 65) (a 66) (a 67) tx cm]) (fun u : Int32 × Tab × Tab × Bool × Int32 × (Nat → Nat) × (Nat → GV) => [[((a 0), .inr (8, [.ref (a 1), .ref (a 11), .ref (a 21), .ref (a 63)]))], wG cI (a 1) (a 2) (a 3) (a 4) (a 5) (a 6) (a 7) (a 8) (a 9) (a 10) u.2.1 g_er g_eb g_li u.2.2.1 g_rd g_tu g_la u.2.2.2.1 g_sh g_tb, wG cI (a 11) (a 12) (a 13) (a 14) (a 15) (a 16) (a 17) (a 18) (a 19) (a 20) z_ft z_er z_eb z_li z_st z_rd z_tu z_la z_dl z_sh z_tb, wH cI cG (fun i => a (21 + i)) u.2.2.2.2.1 u.2.2.2.2.2.1 u.2.2.2.2.2.2, wS cI (a 63) (a 64) (a 65) (a 66) (a 67) tx cm, [(o, .inl (cL, 1, .inr (.inl ol)))]]) (fun _ => rfl) (fun _ => rfl) (fun _ => rfl) (fun _ => rfl) rfl rfl hl.1 (Nat.le_of_ble_eq_true rfl) dL_act_9 ⟨Nat.le_of_ble_eq_true rfl, Nat.le_of_ble_eq_true rfl⟩ (fun E H locs ce q9 ho hP hD hS hcell hv hcl => ?_) (fun u H locs ho hP hD hS => ?_)
  · rcases hE E ho with rfl | rfl | rfl
    · subst ho
      refine vx_catch hown [] ⟨0, 14, 17, 20⟩ [⟨0, 14, 21, 13⟩, ⟨0, 14, 25, 15⟩] hTb (fun z hz => by cases hz) (by decide) (by decide) hw0 (va_Nw.use rfl hX.1.2.2.1) hcell hv hcl ?_
      refine lv_astore (lv' := [(6, .ref q9), (0, .ref (a 0)), (1, .int p1), (2, .int p2), (3, .int p3), (4, .int p4), (5, .ref o)]) hx hb dL_act_17 hl (by decide) rfl (fun ls hl => ?_)
      refine lv_iconst (v := 1) hx hb dL_act_19 (by decide) ?_
      rw [hQ]
      exact lend_i hx hb hr (by decide) hP hD hS dL_act_20 hlocks (Nat.le_of_ble_eq_true rfl) (Nat.le_of_ble_eq_true rfl)
    · subst ho
      refine vx_catch hown [⟨0, 14, 17, 20⟩] ⟨0, 14, 21, 13⟩ [⟨0, 14, 25, 15⟩] hTb (pre1 (Or.inr ⟨by decide, "java/lang/IndexOutOfBoundsException", hw0, hN.2.1⟩)) (by decide) (by decide) hw1 (va_Nw.use rfl hX.1.1) hcell hv hcl ?_
      refine lv_astore (lv' := [(6, .ref q9), (0, .ref (a 0)), (1, .int p1), (2, .int p2), (3, .int p3), (4, .int p4), (5, .ref o)]) hx hb dL_act_21 hl (by decide) rfl (fun ls hl => ?_)
      refine lv_iconst (v := 2) hx hb dL_act_23 (by decide) ?_
      rw [hQ]
      exact lend_i hx hb hr (by decide) hP hD hS dL_act_24 hlocks (Nat.le_of_ble_eq_true rfl) (Nat.le_of_ble_eq_true rfl)
    · subst ho
      refine vx_catch hown [⟨0, 14, 17, 20⟩, ⟨0, 14, 21, 13⟩] ⟨0, 14, 25, 15⟩ [] hTb (pre2 (Or.inr ⟨by decide, "java/lang/IndexOutOfBoundsException", hw0, hN.2.2.2.1⟩) (Or.inr ⟨by decide, "java/lang/IllegalArgumentException", hw1, hN.2.2.1⟩)) (by decide) (by decide) hw2 (va_Nw.use rfl hX.1.2.1) hcell hv hcl ?_
      refine lv_astore (lv' := [(6, .ref q9), (0, .ref (a 0)), (1, .int p1), (2, .int p2), (3, .int p3), (4, .int p4), (5, .ref o)]) hx hb dL_act_25 hl (by decide) rfl (fun ls hl => ?_)
      refine lv_iconst (v := 3) hx hb dL_act_27 (by decide) ?_
      rw [hQ]
      exact lend_i hx hb hr (by decide) hP hD hS dL_act_28 hlocks (Nat.le_of_ble_eq_true rfl) (Nat.le_of_ble_eq_true rfl)
  · subst ho
    refine lv_i2l (v := (u.1 : Int32).toInt64) hx hb dL_act_12 rfl ?_
    refine va_last hx hb hK.1 hP hD hS 68 2 rfl rfl (show ¬ ((0 : Int32) < 0 ∨ 1 ≤ (0 : Int32).toNatClampNeg) from by decide) dL_act_13 (fun H locs hP hD hS => ?_)
    have hP : va_P G vwCl (([[((a 0), .inr (8, [.ref (a 1), .ref (a 11), .ref (a 21), .ref (a 63)]))], wG cI (a 1) (a 2) (a 3) (a 4) (a 5) (a 6) (a 7) (a 8) (a 9) (a 10) u.2.1 g_er g_eb g_li u.2.2.1 g_rd g_tu g_la u.2.2.2.1 g_sh g_tb, wG cI (a 11) (a 12) (a 13) (a 14) (a 15) (a 16) (a 17) (a 18) (a 19) (a 20) z_ft z_er z_eb z_li z_st z_rd z_tu z_la z_dl z_sh z_tb, wH cI cG (fun i => a (21 + i)) u.2.2.2.2.1 u.2.2.2.2.2.1 u.2.2.2.2.2.2, wS cI (a 63) (a 64) (a 65) (a 66) (a 67) tx cm, [(o, .inl (cL, 1, .inr (.inl (vp_updL ol (0 : Int32).toNatClampNeg (u.1 : Int32).toInt64))))]] : List va_W).flatten) H := hP
    have hD : va_D A (([[((a 0), .inr (8, [.ref (a 1), .ref (a 11), .ref (a 21), .ref (a 63)]))], wG cI (a 1) (a 2) (a 3) (a 4) (a 5) (a 6) (a 7) (a 8) (a 9) (a 10) u.2.1 g_er g_eb g_li u.2.2.1 g_rd g_tu g_la u.2.2.2.1 g_sh g_tb, wG cI (a 11) (a 12) (a 13) (a 14) (a 15) (a 16) (a 17) (a 18) (a 19) (a 20) z_ft z_er z_eb z_li z_st z_rd z_tu z_la z_dl z_sh z_tb, wH cI cG (fun i => a (21 + i)) u.2.2.2.2.1 u.2.2.2.2.2.1 u.2.2.2.2.2.2, wS cI (a 63) (a 64) (a 65) (a 66) (a 67) tx cm, [(o, .inl (cL, 1, .inr (.inl (vp_updL ol (0 : Int32).toNatClampNeg (u.1 : Int32).toInt64))))]] : List va_W).flatten) := hD
    refine lv_goto (tgt := 29) hx hb dL_act_14 (by decide) ?_
    refine lv_iconst (v := 0) hx hb dL_act_29 (by decide) ?_
    rw [hQ]
    exact lend_i hx hb hr rfl hP hD hS dL_act_30 hlocks (Nat.le_of_ble_eq_true rfl) (Nat.le_of_ble_eq_true rfl)
theorem hdL_cast : yL_cast.cls ≠ "java/lang/invoke/MethodHandle" ∧ yL_cast.cls ≠ "java/lang/invoke/VarHandle" ∧ (parseMethodDescriptor yL_cast.desc).map (fun d => d.parameters.length) = some 8 := by decide +kernel
set_option maxHeartbeats 4000000 in
set_option maxRecDepth 100000 in
theorem cL_cast_ok (l : Launch) (hlf : l.stackTraces = false) (G : va_G) (cI cG cL : ClassId) (a : Nat → Nat) (o : Nat) (fu : Nat) (g_ft : Tab) (g_er : Tab) (g_eb : Int32) (g_li : Tab) (g_st : Tab) (g_rd : Int32) (g_tu : Int32) (g_la : Int32) (g_dl : Bool) (g_sh : Int32) (g_tb : Int32) (z_ft : Tab) (z_er : Tab) (z_eb : Int32) (z_li : Tab) (z_st : Tab) (z_rd : Int32) (z_tu : Int32) (z_la : Int32) (z_dl : Bool) (z_sh : Int32) (z_tb : Int32) (yc : Int32) (yp : (Nat → Nat)) (yg : (Nat → GV)) (tx : Tab) (cm : Tab) (ol : Nat → Int64) (p1 : Int32) (p2 : Int32) (p3 : Int32) (p4 : Int32) (p5 : Int32) (p6 : Int32) (out : String ⊕ (Int32 × Tab × Tab × Bool × Int32 × (Nat → Nat) × (Nat → GV))) (hf : fX5_cast fu g_ft g_er g_eb g_li g_st g_rd g_tu g_la g_dl g_sh g_tb yc yp yg p1 p2 p3 p4 p5 p6 = some out) (hE : ∀ E, out = .inl E → E = "java/lang/IndexOutOfBoundsException" ∨ E = "java/lang/IllegalArgumentException" ∨ E = "java/lang/IllegalStateException") : LI l G (tyl cI cG cL) yL_cast wsL_cast ({ frames := 8, cells := 7, slots := 42, locals := 171 } : Room) [.ref (a 0), .int p1, .int p2, .int p3, .int p4, .int p5, .int p6, .ref o] (([[((a 0), .inr (8, [.ref (a 1), .ref (a 11), .ref (a 21), .ref (a 63)]))], wG cI (a 1) (a 2) (a 3) (a 4) (a 5) (a 6) (a 7) (a 8) (a 9) (a 10) g_ft g_er g_eb g_li g_st g_rd g_tu g_la g_dl g_sh g_tb, wG cI (a 11) (a 12) (a 13) (a 14) (a 15) (a 16) (a 17) (a 18) (a 19) (a 20) z_ft z_er z_eb z_li z_st z_rd z_tu z_la z_dl z_sh z_tb, wH cI cG (fun i => a (21 + i)) yc yp yg, wS cI (a 63) (a 64) (a 65) (a 66) (a 67) tx cm, [(o, .inl (cL, 1, .inr (.inl ol)))]] : List va_W).flatten) (out.elim (fun E => if E = "java/lang/IndexOutOfBoundsException" then 1 else if E = "java/lang/IllegalArgumentException" then 2 else if E = "java/lang/IllegalStateException" then 3 else 0) (fun _ => 0)) (out.elim (fun _ => ([[((a 0), .inr (8, [.ref (a 1), .ref (a 11), .ref (a 21), .ref (a 63)]))], wG cI (a 1) (a 2) (a 3) (a 4) (a 5) (a 6) (a 7) (a 8) (a 9) (a 10) g_ft g_er g_eb g_li g_st g_rd g_tu g_la g_dl g_sh g_tb, wG cI (a 11) (a 12) (a 13) (a 14) (a 15) (a 16) (a 17) (a 18) (a 19) (a 20) z_ft z_er z_eb z_li z_st z_rd z_tu z_la z_dl z_sh z_tb, wH cI cG (fun i => a (21 + i)) yc yp yg, wS cI (a 63) (a 64) (a 65) (a 66) (a 67) tx cm, [(o, .inl (cL, 1, .inr (.inl ol)))]] : List va_W).flatten) (fun u : Int32 × Tab × Tab × Bool × Int32 × (Nat → Nat) × (Nat → GV) => ([[((a 0), .inr (8, [.ref (a 1), .ref (a 11), .ref (a 21), .ref (a 63)]))], wG cI (a 1) (a 2) (a 3) (a 4) (a 5) (a 6) (a 7) (a 8) (a 9) (a 10) u.2.1 g_er g_eb g_li u.2.2.1 g_rd g_tu g_la u.2.2.2.1 g_sh g_tb, wG cI (a 11) (a 12) (a 13) (a 14) (a 15) (a 16) (a 17) (a 18) (a 19) (a 20) z_ft z_er z_eb z_li z_st z_rd z_tu z_la z_dl z_sh z_tb, wH cI cG (fun i => a (21 + i)) u.2.2.2.2.1 u.2.2.2.2.2.1 u.2.2.2.2.2.2, wS cI (a 63) (a 64) (a 65) (a 66) (a 67) tx cm, [(o, .inl (cL, 1, .inr (.inl (vp_updL ol (0 : Int32).toNatClampNeg (u.1 : Int32).toInt64))))]] : List va_W).flatten)) 7 42 := by
  intro sz
  apply met_of_vx
  refine vx_ofWH (cc := cL_cast) (maxL := 9) (ret := (some .int)) (by decide) rfl ?_
  intro p e s m args below meth c s₁ B hml hv
  obtain ⟨rfl, ⟨hsz, hP, hK, hD0⟩, hX, hZ, hN⟩ := hv
  have hx := B.exec
  have hb := B.bytes
  have hr := B.returns
  have hts := atoms_spec (ws := wsL_cast) B.pre
  have hown : s.vm.findClass RL = some m.cls := findClass_of_methodNamed B.named
  have hlocks := B.notSynchronized
  have hTb : c.exceptionTable.toList = tableOf [(0, 18, 21, 20), (0, 18, 25, 13), (0, 18, 29, 15)] := vx_table (x := yL_cast) B (hts _ List.mem_cons_self)
  subst hsz
  have hD := hD0.self (sz := s.heap.size)
  generalize hAe : va_A (([[((a 0), .inr (8, [.ref (a 1), .ref (a 11), .ref (a 21), .ref (a 63)]))], wG cI (a 1) (a 2) (a 3) (a 4) (a 5) (a 6) (a 7) (a 8) (a 9) (a 10) g_ft g_er g_eb g_li g_st g_rd g_tu g_la g_dl g_sh g_tb, wG cI (a 11) (a 12) (a 13) (a 14) (a 15) (a 16) (a 17) (a 18) (a 19) (a 20) z_ft z_er z_eb z_li z_st z_rd z_tu z_la z_dl z_sh z_tb, wH cI cG (fun i => a (21 + i)) yc yp yg, wS cI (a 63) (a 64) (a 65) (a 66) (a 67) tx cm, [(o, .inl (cL, 1, .inr (.inl ol)))]] : List va_W).flatten) s.heap.size = A at hD hZ ⊢
  have hA : ∀ q : Nat, s.heap.size ≤ q → A q := fun q h => by rw [← hAe]; exact Or.inr h
  have hS : va_S A s.heap s.heap [] := va_S.rf
  have hw0 := hts (.classLink RL 20 "java/lang/IndexOutOfBoundsException") (List.mem_of_getElem? (i := 1) rfl)
  have hw1 := hts (.classLink RL 13 "java/lang/IllegalArgumentException") (List.mem_of_getElem? (i := 2) rfl)
  have hw2 := hts (.classLink RL 15 "java/lang/IllegalStateException") (List.mem_of_getElem? (i := 3) rfl)
  show W p l e ({ frames := 8, cells := 7, slots := 42, locals := 171 } : Room) s m _ below meth c s.heap [] 0 0 _ _
  refine W_genQ (fun Q hQ => ?_)
  have hl := lv_entry ([.ref (a 0), .int p1, .int p2, .int p3, .int p4, .int p5, .int p6, .ref o]) (n := 9) (Nat.le_of_ble_eq_true rfl)
  rw [lg_entry_eq]
  generalize (lg_sl ([.ref (a 0), .int p1, .int p2, .int p3, .int p4, .int p5, .int p6, .ref o]) ++ List.replicate (9 - (lg_sl ([.ref (a 0), .int p1, .int p2, .int p3, .int p4, .int p5, .int p6, .ref o])).length) Slot.unset).toArray = ls at hl ⊢
  have hl : lv_has ls 9 [(0, .ref (a 0)), (1, .int p1), (2, .int p2), (3, .int p3), (4, .int p4), (5, .int p5), (6, .int p6), (7, .ref o)] := hl
  refine lv_aload hx hb dL_cast_0 (lv_at hl 7 rfl) ?_
  refine lv_iconst (v := 0) hx hb dL_cast_2 (by decide) ?_
  refine lv_aload_n hx hb dL_cast_3 rfl (lv_at hl 0 rfl) ?_
  refine lv_iload_n hx hb dL_cast_4 rfl (lv_at hl 1 rfl) ?_
  refine lv_iload_n hx hb dL_cast_5 rfl (lv_at hl 2 rfl) ?_
  refine lv_iload_n hx hb dL_cast_6 rfl (lv_at hl 3 rfl) ?_
  refine lv_iload hx hb dL_cast_7 (lv_at hl 4 rfl) ?_
  refine lv_iload hx hb dL_cast_9 (lv_at hl 5 rfl) ?_
  refine lv_iload hx hb dL_cast_11 (lv_at hl 6 rfl) ?_
  refine xcall_iV (As := [.int p1, .int p2, .int p3, .int p4, .int p5, .int p6]) (rest := [.int 0, .ref o]) (c0 := [[((a 0), .inr (8, [.ref (a 1), .ref (a 11), .ref (a 21), .ref (a 63)]))], wG cI (a 1) (a 2) (a 3) (a 4) (a 5) (a 6) (a 7) (a 8) (a 9) (a 10) g_ft g_er g_eb g_li g_st g_rd g_tu g_la g_dl g_sh g_tb, wG cI (a 11) (a 12) (a 13) (a 14) (a 15) (a 16) (a 17) (a 18) (a 19) (a 20) z_ft z_er z_eb z_li z_st z_rd z_tu z_la z_dl z_sh z_tb, wH cI cG (fun i => a (21 + i)) yc yp yg, wS cI (a 63) (a 64) (a 65) (a 66) (a 67) tx cm]) ⟨hx, hb, hml, hown, hts⟩ (cX5_cast_ok l hlf G cI cG a fu g_ft g_er g_eb g_li g_st g_rd g_tu g_la g_dl g_sh g_tb z_ft z_er z_eb z_li z_st z_rd z_tu z_la z_dl z_sh z_tb yc yp yg tx cm p1 p2 p3 p4 p5 p6 out hf) (cwV 6 hts gL_cast_X5_cast rfl rfl rfl hdX5_cast ⟨Nat.le_of_ble_eq_true rfl, Nat.le_of_ble_eq_true rfl⟩) hP hD hS hA (tyl_z hK) hX hZ 8 rfl rfl rfl [0, 1, 2, 3, 4] rfl rfl rfl rfl rfl (fun u : Int32 × Tab × Tab × Bool × Int32 × (Nat → Nat) × (Nat → GV) => [[((a 0), .inr (8, [.ref (a 1), .ref (a 11), .ref (a 21), .ref (a 63)]))], wG cI (a 1) (a 2) (a 3) (a 4) (a 5) (a 6) (a 7) (a 8) (a 9) (a 10) u.2.1 g_er g_eb g_li u.2.2.1 g_rd g_tu g_la u.2.2.2.1 g_sh g_tb, wG cI (a 11) (a 12) (a 13) (a 14) (a 15) (a 16) (a 17) (a 18) (a 19) (a 20) z_ft z_er z_eb z_li z_st z_rd z_tu z_la z_dl z_sh z_tb, wH cI cG (fun i => a (21 + i)) u.2.2.2.2.1 u.2.2.2.2.2.1 u.2.2.2.2.2.2, wS cI (a 63) (a 64) (a 65) (a 66) (a 67) tx cm]) (fun u : Int32 × Tab × Tab × Bool × Int32 × (Nat → Nat) × (Nat → GV) => [[((a 0), .inr (8, [.ref (a 1), .ref (a 11), .ref (a 21), .ref (a 63)]))], wG cI (a 1) (a 2) (a 3) (a 4) (a 5) (a 6) (a 7) (a 8) (a 9) (a 10) u.2.1 g_er g_eb g_li u.2.2.1 g_rd g_tu g_la u.2.2.2.1 g_sh g_tb, wG cI (a 11) (a 12) (a 13) (a 14) (a 15) (a 16) (a 17) (a 18) (a 19) (a 20) z_ft z_er z_eb z_li z_st z_rd z_tu z_la z_dl z_sh z_tb, wH cI cG (fun i => a (21 + i)) u.2.2.2.2.1 u.2.2.2.2.2.1 u.2.2.2.2.2.2, wS cI (a 63) (a 64) (a 65) (a 66) (a 67) tx cm, [(o, .inl (cL, 1, .inr (.inl ol)))]]) (fun _ => rfl) (fun _ => rfl) (fun _ => rfl) (fun _ => rfl) rfl rfl hl.1 (Nat.le_of_ble_eq_true rfl) dL_cast_13 ⟨Nat.le_of_ble_eq_true rfl, Nat.le_of_ble_eq_true rfl⟩ (fun E H locs ce q9 ho hP hD hS hcell hv hcl => ?_) (fun u H locs ho hP hD hS => ?_)
  · rcases hE E ho with rfl | rfl | rfl
    · subst ho
      refine vx_catch hown [] ⟨0, 18, 21, 20⟩ [⟨0, 18, 25, 13⟩, ⟨0, 18, 29, 15⟩] hTb (fun z hz => by cases hz) (by decide) (by decide) hw0 (va_Nw.use rfl hX.1.2.2.1) hcell hv hcl ?_
      refine lv_astore (lv' := [(8, .ref q9), (0, .ref (a 0)), (1, .int p1), (2, .int p2), (3, .int p3), (4, .int p4), (5, .int p5), (6, .int p6), (7, .ref o)]) hx hb dL_cast_21 hl (by decide) rfl (fun ls hl => ?_)
      refine lv_iconst (v := 1) hx hb dL_cast_23 (by decide) ?_
      rw [hQ]
      exact lend_i hx hb hr (by decide) hP hD hS dL_cast_24 hlocks (Nat.le_of_ble_eq_true rfl) (Nat.le_of_ble_eq_true rfl)
    · subst ho
      refine vx_catch hown [⟨0, 18, 21, 20⟩] ⟨0, 18, 25, 13⟩ [⟨0, 18, 29, 15⟩] hTb (pre1 (Or.inr ⟨by decide, "java/lang/IndexOutOfBoundsException", hw0, hN.2.1⟩)) (by decide) (by decide) hw1 (va_Nw.use rfl hX.1.1) hcell hv hcl ?_
      refine lv_astore (lv' := [(8, .ref q9), (0, .ref (a 0)), (1, .int p1), (2, .int p2), (3, .int p3), (4, .int p4), (5, .int p5), (6, .int p6), (7, .ref o)]) hx hb dL_cast_25 hl (by decide) rfl (fun ls hl => ?_)
      refine lv_iconst (v := 2) hx hb dL_cast_27 (by decide) ?_
      rw [hQ]
      exact lend_i hx hb hr (by decide) hP hD hS dL_cast_28 hlocks (Nat.le_of_ble_eq_true rfl) (Nat.le_of_ble_eq_true rfl)
    · subst ho
      refine vx_catch hown [⟨0, 18, 21, 20⟩, ⟨0, 18, 25, 13⟩] ⟨0, 18, 29, 15⟩ [] hTb (pre2 (Or.inr ⟨by decide, "java/lang/IndexOutOfBoundsException", hw0, hN.2.2.2.1⟩) (Or.inr ⟨by decide, "java/lang/IllegalArgumentException", hw1, hN.2.2.1⟩)) (by decide) (by decide) hw2 (va_Nw.use rfl hX.1.2.1) hcell hv hcl ?_
      refine lv_astore (lv' := [(8, .ref q9), (0, .ref (a 0)), (1, .int p1), (2, .int p2), (3, .int p3), (4, .int p4), (5, .int p5), (6, .int p6), (7, .ref o)]) hx hb dL_cast_29 hl (by decide) rfl (fun ls hl => ?_)
      refine lv_iconst (v := 3) hx hb dL_cast_31 (by decide) ?_
      rw [hQ]
      exact lend_i hx hb hr (by decide) hP hD hS dL_cast_32 hlocks (Nat.le_of_ble_eq_true rfl) (Nat.le_of_ble_eq_true rfl)
  · subst ho
    refine lv_i2l (v := (u.1 : Int32).toInt64) hx hb dL_cast_16 rfl ?_
    refine va_last hx hb hK.1 hP hD hS 68 2 rfl rfl (show ¬ ((0 : Int32) < 0 ∨ 1 ≤ (0 : Int32).toNatClampNeg) from by decide) dL_cast_17 (fun H locs hP hD hS => ?_)
    have hP : va_P G vwCl (([[((a 0), .inr (8, [.ref (a 1), .ref (a 11), .ref (a 21), .ref (a 63)]))], wG cI (a 1) (a 2) (a 3) (a 4) (a 5) (a 6) (a 7) (a 8) (a 9) (a 10) u.2.1 g_er g_eb g_li u.2.2.1 g_rd g_tu g_la u.2.2.2.1 g_sh g_tb, wG cI (a 11) (a 12) (a 13) (a 14) (a 15) (a 16) (a 17) (a 18) (a 19) (a 20) z_ft z_er z_eb z_li z_st z_rd z_tu z_la z_dl z_sh z_tb, wH cI cG (fun i => a (21 + i)) u.2.2.2.2.1 u.2.2.2.2.2.1 u.2.2.2.2.2.2, wS cI (a 63) (a 64) (a 65) (a 66) (a 67) tx cm, [(o, .inl (cL, 1, .inr (.inl (vp_updL ol (0 : Int32).toNatClampNeg (u.1 : Int32).toInt64))))]] : List va_W).flatten) H := hP
    have hD : va_D A (([[((a 0), .inr (8, [.ref (a 1), .ref (a 11), .ref (a 21), .ref (a 63)]))], wG cI (a 1) (a 2) (a 3) (a 4) (a 5) (a 6) (a 7) (a 8) (a 9) (a 10) u.2.1 g_er g_eb g_li u.2.2.1 g_rd g_tu g_la u.2.2.2.1 g_sh g_tb, wG cI (a 11) (a 12) (a 13) (a 14) (a 15) (a 16) (a 17) (a 18) (a 19) (a 20) z_ft z_er z_eb z_li z_st z_rd z_tu z_la z_dl z_sh z_tb, wH cI cG (fun i => a (21 + i)) u.2.2.2.2.1 u.2.2.2.2.2.1 u.2.2.2.2.2.2, wS cI (a 63) (a 64) (a 65) (a 66) (a 67) tx cm, [(o, .inl (cL, 1, .inr (.inl (vp_updL ol (0 : Int32).toNatClampNeg (u.1 : Int32).toInt64))))]] : List va_W).flatten) := hD
    refine lv_goto (tgt := 33) hx hb dL_cast_18 (by decide) ?_
    refine lv_iconst (v := 0) hx hb dL_cast_33 (by decide) ?_
    rw [hQ]
    exact lend_i hx hb hr rfl hP hD hS dL_cast_34 hlocks (Nat.le_of_ble_eq_true rfl) (Nat.le_of_ble_eq_true rfl)
theorem hdL_settle : yL_settle.cls ≠ "java/lang/invoke/MethodHandle" ∧ yL_settle.cls ≠ "java/lang/invoke/VarHandle" ∧ (parseMethodDescriptor yL_settle.desc).map (fun d => d.parameters.length) = some 2 := by decide +kernel
set_option maxHeartbeats 4000000 in
set_option maxRecDepth 100000 in
theorem cL_settle_ok (l : Launch) (hlf : l.stackTraces = false) (G : va_G) (cI cG cL : ClassId) (a : Nat → Nat) (o : Nat) (fu : Nat) (g_ft : Tab) (g_er : Tab) (g_eb : Int32) (g_li : Tab) (g_st : Tab) (g_rd : Int32) (g_tu : Int32) (g_la : Int32) (g_dl : Bool) (g_sh : Int32) (g_tb : Int32) (z_ft : Tab) (z_er : Tab) (z_eb : Int32) (z_li : Tab) (z_st : Tab) (z_rd : Int32) (z_tu : Int32) (z_la : Int32) (z_dl : Bool) (z_sh : Int32) (z_tb : Int32) (yc : Int32) (yp : (Nat → Nat)) (yg : (Nat → GV)) (tx : Tab) (cm : Tab) (ol : Nat → Int64)  (out : String ⊕ (Int32 × Tab × Tab × Int32 × Tab × Int32 × Int32 × (Nat → Nat) × (Nat → GV))) (hf : fX5_settle fu g_ft g_er g_eb g_li g_st g_rd g_tu g_la g_dl g_sh g_tb yc yp yg = some out) (hE : ∀ E, out = .inl E → E = "java/lang/IllegalStateException") : LI l G (tyl cI cG cL) yL_settle wsL_settle ({ frames := 8, cells := 1, slots := 6, locals := 201 } : Room) [.ref (a 0), .ref o] (([[((a 0), .inr (8, [.ref (a 1), .ref (a 11), .ref (a 21), .ref (a 63)]))], wG cI (a 1) (a 2) (a 3) (a 4) (a 5) (a 6) (a 7) (a 8) (a 9) (a 10) g_ft g_er g_eb g_li g_st g_rd g_tu g_la g_dl g_sh g_tb, wG cI (a 11) (a 12) (a 13) (a 14) (a 15) (a 16) (a 17) (a 18) (a 19) (a 20) z_ft z_er z_eb z_li z_st z_rd z_tu z_la z_dl z_sh z_tb, wH cI cG (fun i => a (21 + i)) yc yp yg, wS cI (a 63) (a 64) (a 65) (a 66) (a 67) tx cm, [(o, .inl (cL, 1, .inr (.inl ol)))]] : List va_W).flatten) (out.elim (fun E => if E = "java/lang/IllegalStateException" then 1 else 0) (fun _ => 0)) (out.elim (fun _ => ([[((a 0), .inr (8, [.ref (a 1), .ref (a 11), .ref (a 21), .ref (a 63)]))], wG cI (a 1) (a 2) (a 3) (a 4) (a 5) (a 6) (a 7) (a 8) (a 9) (a 10) g_ft g_er g_eb g_li g_st g_rd g_tu g_la g_dl g_sh g_tb, wG cI (a 11) (a 12) (a 13) (a 14) (a 15) (a 16) (a 17) (a 18) (a 19) (a 20) z_ft z_er z_eb z_li z_st z_rd z_tu z_la z_dl z_sh z_tb, wH cI cG (fun i => a (21 + i)) yc yp yg, wS cI (a 63) (a 64) (a 65) (a 66) (a 67) tx cm, [(o, .inl (cL, 1, .inr (.inl ol)))]] : List va_W).flatten) (fun u : Int32 × Tab × Tab × Int32 × Tab × Int32 × Int32 × (Nat → Nat) × (Nat → GV) => ([[((a 0), .inr (8, [.ref (a 1), .ref (a 11), .ref (a 21), .ref (a 63)]))], wG cI (a 1) (a 2) (a 3) (a 4) (a 5) (a 6) (a 7) (a 8) (a 9) (a 10) u.2.1 u.2.2.1 u.2.2.2.1 g_li u.2.2.2.2.1 g_rd u.2.2.2.2.2.1 g_la g_dl g_sh g_tb, wG cI (a 11) (a 12) (a 13) (a 14) (a 15) (a 16) (a 17) (a 18) (a 19) (a 20) z_ft z_er z_eb z_li z_st z_rd z_tu z_la z_dl z_sh z_tb, wH cI cG (fun i => a (21 + i)) u.2.2.2.2.2.2.1 u.2.2.2.2.2.2.2.1 u.2.2.2.2.2.2.2.2, wS cI (a 63) (a 64) (a 65) (a 66) (a 67) tx cm, [(o, .inl (cL, 1, .inr (.inl (vp_updL ol (0 : Int32).toNatClampNeg (u.1 : Int32).toInt64))))]] : List va_W).flatten)) 1 6 := by
  intro sz
  apply met_of_vx
  refine vx_ofWH (cc := cL_settle) (maxL := 3) (ret := (some .int)) (by decide) rfl ?_
  intro p e s m args below meth c s₁ B hml hv
  obtain ⟨rfl, ⟨hsz, hP, hK, hD0⟩, hX, hZ, hN⟩ := hv
  have hx := B.exec
  have hb := B.bytes
  have hr := B.returns
  have hts := atoms_spec (ws := wsL_settle) B.pre
  have hown : s.vm.findClass RL = some m.cls := findClass_of_methodNamed B.named
  have hlocks := B.notSynchronized
  have hTb : c.exceptionTable.toList = tableOf [(0, 8, 11, 15)] := vx_table (x := yL_settle) B (hts _ List.mem_cons_self)
  subst hsz
  have hD := hD0.self (sz := s.heap.size)
  generalize hAe : va_A (([[((a 0), .inr (8, [.ref (a 1), .ref (a 11), .ref (a 21), .ref (a 63)]))], wG cI (a 1) (a 2) (a 3) (a 4) (a 5) (a 6) (a 7) (a 8) (a 9) (a 10) g_ft g_er g_eb g_li g_st g_rd g_tu g_la g_dl g_sh g_tb, wG cI (a 11) (a 12) (a 13) (a 14) (a 15) (a 16) (a 17) (a 18) (a 19) (a 20) z_ft z_er z_eb z_li z_st z_rd z_tu z_la z_dl z_sh z_tb, wH cI cG (fun i => a (21 + i)) yc yp yg, wS cI (a 63) (a 64) (a 65) (a 66) (a 67) tx cm, [(o, .inl (cL, 1, .inr (.inl ol)))]] : List va_W).flatten) s.heap.size = A at hD hZ ⊢
  have hA : ∀ q : Nat, s.heap.size ≤ q → A q := fun q h => by rw [← hAe]; exact Or.inr h
  have hS : va_S A s.heap s.heap [] := va_S.rf
  have hw0 := hts (.classLink RL 15 "java/lang/IllegalStateException") (List.mem_of_getElem? (i := 1) rfl)
  show W p l e ({ frames := 8, cells := 1, slots := 6, locals := 201 } : Room) s m _ below meth c s.heap [] 0 0 _ _
  refine W_genQ (fun Q hQ => ?_)
  have hl := lv_entry ([.ref (a 0), .ref o]) (n := 3) (Nat.le_of_ble_eq_true rfl)
  rw [lg_entry_eq]
  generalize (lg_sl ([.ref (a 0), .ref o]) ++ List.replicate (3 - (lg_sl ([.ref (a 0), .ref o])).length) Slot.unset).toArray = ls at hl ⊢
  have hl : lv_has ls 3 [(0, .ref (a 0)), (1, .ref o)] := hl
  refine lv_aload_n hx hb dL_settle_0 rfl (lv_at hl 1 rfl) ?_
  refine lv_iconst (v := 0) hx hb dL_settle_1 (by decide) ?_
  refine lv_aload_n hx hb dL_settle_2 rfl (lv_at hl 0 rfl) ?_
  refine xcall_iV (As := []) (rest := [.int 0, .ref o]) (c0 := [[((a 0), .inr (8, [.ref (a 1), .ref (a 11), .ref (a 21), .ref (a 63)]))], wG cI (a 1) (a 2) (a 3) (a 4) (a 5) (a 6) (a 7) (a 8) (a 9) (a 10) g_ft g_er g_eb g_li g_st g_rd g_tu g_la g_dl g_sh g_tb, wG cI (a 11) (a 12) (a 13) (a 14) (a 15) (a 16) (a 17) (a 18) (a 19) (a 20) z_ft z_er z_eb z_li z_st z_rd z_tu z_la z_dl z_sh z_tb, wH cI cG (fun i => a (21 + i)) yc yp yg, wS cI (a 63) (a 64) (a 65) (a 66) (a 67) tx cm]) ⟨hx, hb, hml, hown, hts⟩ (cX5_settle_ok l hlf G cI cG a fu g_ft g_er g_eb g_li g_st g_rd g_tu g_la g_dl g_sh g_tb z_ft z_er z_eb z_li z_st z_rd z_tu z_la z_dl z_sh z_tb yc yp yg tx cm out hf) (cwV 0 hts gL_settle_X5_settle rfl rfl rfl hdX5_settle ⟨Nat.le_of_ble_eq_true rfl, Nat.le_of_ble_eq_true rfl⟩) hP hD hS hA (tyl_z hK) hX hZ 8 rfl rfl rfl [0, 1, 2, 3, 4] rfl rfl rfl rfl rfl (fun u : Int32 × Tab × Tab × Int32 × Tab × Int32 × Int32 × (Nat → Nat) × (Nat → GV) => [[((a 0), .inr (8, [.ref (a 1), .ref (a 11), .ref (a 21), .ref (a 63)]))], wG cI (a 1) (a 2) (a 3) (a 4) (a 5) (a 6) (a 7) (a 8) (a 9) (a 10) u.2.1 u.2.2.1 u.2.2.2.1 g_li u.2.2.2.2.1 g_rd u.2.2.2.2.2.1 g_la g_dl g_sh g_tb, wG cI (a 11) (a 12) (a 13) (a 14) (a 15) (a 16) (a 17) (a 18) (a 19) (a 20) z_ft z_er z_eb z_li z_st z_rd z_tu z_la z_dl z_sh z_tb, wH cI cG (fun i => a (21 + i)) u.2.2.2.2.2.2.1 u.2.2.2.2.2.2.2.1 u.2.2.2.2.2.2.2.2, wS cI (a 63) (a 64) (a 65) (a 66) (a 67) tx cm]) (fun u : Int32 × Tab × Tab × Int32 × Tab × Int32 × Int32 × (Nat → Nat) × (Nat → GV) => [[((a 0), .inr (8, [.ref (a 1), .ref (a 11), .ref (a 21), .ref (a 63)]))], wG cI (a 1) (a 2) (a 3) (a 4) (a 5) (a 6) (a 7) (a 8) (a 9) (a 10) u.2.1 u.2.2.1 u.2.2.2.1 g_li u.2.2.2.2.1 g_rd u.2.2.2.2.2.1 g_la g_dl g_sh g_tb, wG cI (a 11) (a 12) (a 13) (a 14) (a 15) (a 16) (a 17) (a 18) (a 19) (a 20) z_ft z_er z_eb z_li z_st z_rd z_tu z_la z_dl z_sh z_tb, wH cI cG (fun i => a (21 + i)) u.2.2.2.2.2.2.1 u.2.2.2.2.2.2.2.1 u.2.2.2.2.2.2.2.2, wS cI (a 63) (a 64) (a 65) (a 66) (a 67) tx cm, [(o, .inl (cL, 1, .inr (.inl ol)))]]) (fun _ => rfl) (fun _ => rfl) (fun _ => rfl) (fun _ => rfl) rfl rfl hl.1 (Nat.le_of_ble_eq_true rfl) dL_settle_3 ⟨Nat.le_of_ble_eq_true rfl, Nat.le_of_ble_eq_true rfl⟩ (fun E H locs ce q9 ho hP hD hS hcell hv hcl => ?_) (fun u H locs ho hP hD hS => ?_)
  · obtain rfl := hE E ho
    subst ho
    refine vx_catch hown [] ⟨0, 8, 11, 15⟩ [] hTb (fun z hz => by cases hz) (by decide) (by decide) hw0 (va_Nw.use rfl hX.1.2.1) hcell hv hcl ?_
    refine lv_astore_n (lv' := [(2, .ref q9), (0, .ref (a 0)), (1, .ref o)]) hx hb dL_settle_11 rfl hl (by decide) rfl (fun ls hl => ?_)
    refine lv_iconst (v := 1) hx hb dL_settle_12 (by decide) ?_
    rw [hQ]
    exact lend_i hx hb hr (by decide) hP hD hS dL_settle_13 hlocks (Nat.le_of_ble_eq_true rfl) (Nat.le_of_ble_eq_true rfl)
  · subst ho
    refine lv_i2l (v := (u.1 : Int32).toInt64) hx hb dL_settle_6 rfl ?_
    refine va_last hx hb hK.1 hP hD hS 68 2 rfl rfl (show ¬ ((0 : Int32) < 0 ∨ 1 ≤ (0 : Int32).toNatClampNeg) from by decide) dL_settle_7 (fun H locs hP hD hS => ?_)
    have hP : va_P G vwCl (([[((a 0), .inr (8, [.ref (a 1), .ref (a 11), .ref (a 21), .ref (a 63)]))], wG cI (a 1) (a 2) (a 3) (a 4) (a 5) (a 6) (a 7) (a 8) (a 9) (a 10) u.2.1 u.2.2.1 u.2.2.2.1 g_li u.2.2.2.2.1 g_rd u.2.2.2.2.2.1 g_la g_dl g_sh g_tb, wG cI (a 11) (a 12) (a 13) (a 14) (a 15) (a 16) (a 17) (a 18) (a 19) (a 20) z_ft z_er z_eb z_li z_st z_rd z_tu z_la z_dl z_sh z_tb, wH cI cG (fun i => a (21 + i)) u.2.2.2.2.2.2.1 u.2.2.2.2.2.2.2.1 u.2.2.2.2.2.2.2.2, wS cI (a 63) (a 64) (a 65) (a 66) (a 67) tx cm, [(o, .inl (cL, 1, .inr (.inl (vp_updL ol (0 : Int32).toNatClampNeg (u.1 : Int32).toInt64))))]] : List va_W).flatten) H := hP
    have hD : va_D A (([[((a 0), .inr (8, [.ref (a 1), .ref (a 11), .ref (a 21), .ref (a 63)]))], wG cI (a 1) (a 2) (a 3) (a 4) (a 5) (a 6) (a 7) (a 8) (a 9) (a 10) u.2.1 u.2.2.1 u.2.2.2.1 g_li u.2.2.2.2.1 g_rd u.2.2.2.2.2.1 g_la g_dl g_sh g_tb, wG cI (a 11) (a 12) (a 13) (a 14) (a 15) (a 16) (a 17) (a 18) (a 19) (a 20) z_ft z_er z_eb z_li z_st z_rd z_tu z_la z_dl z_sh z_tb, wH cI cG (fun i => a (21 + i)) u.2.2.2.2.2.2.1 u.2.2.2.2.2.2.2.1 u.2.2.2.2.2.2.2.2, wS cI (a 63) (a 64) (a 65) (a 66) (a 67) tx cm, [(o, .inl (cL, 1, .inr (.inl (vp_updL ol (0 : Int32).toNatClampNeg (u.1 : Int32).toInt64))))]] : List va_W).flatten) := hD
    refine lv_goto (tgt := 14) hx hb dL_settle_8 (by decide) ?_
    refine lv_iconst (v := 0) hx hb dL_settle_14 (by decide) ?_
    rw [hQ]
    exact lend_i hx hb hr rfl hP hD hS dL_settle_15 hlocks (Nat.le_of_ble_eq_true rfl) (Nat.le_of_ble_eq_true rfl)
theorem hdL_stacked : yL_stacked.cls ≠ "java/lang/invoke/MethodHandle" ∧ yL_stacked.cls ≠ "java/lang/invoke/VarHandle" ∧ (parseMethodDescriptor yL_stacked.desc).map (fun d => d.parameters.length) = some 4 := by decide +kernel
set_option maxHeartbeats 4000000 in
set_option maxRecDepth 100000 in
theorem cL_stacked_ok (l : Launch) (hlf : l.stackTraces = false) (G : va_G) (cI cG cL : ClassId) (a : Nat → Nat) (o : Nat) (g_ft : Tab) (g_er : Tab) (g_eb : Int32) (g_li : Tab) (g_st : Tab) (g_rd : Int32) (g_tu : Int32) (g_la : Int32) (g_dl : Bool) (g_sh : Int32) (g_tb : Int32) (z_ft : Tab) (z_er : Tab) (z_eb : Int32) (z_li : Tab) (z_st : Tab) (z_rd : Int32) (z_tu : Int32) (z_la : Int32) (z_dl : Bool) (z_sh : Int32) (z_tb : Int32) (yc : Int32) (yp : (Nat → Nat)) (yg : (Nat → GV)) (tx : Tab) (cm : Tab) (ol : Nat → Int64) (p1 : Int32) (p2 : Int32) (out : String ⊕ (Int32)) (hf : fX5_stacked g_st p1 p2 = some out) (hE : ∀ E, out = .inl E → E = "java/lang/IndexOutOfBoundsException" ∨ E = "java/lang/IllegalArgumentException") : LI l G (tyl cI cG cL) yL_stacked wsL_stacked ({ frames := 8, cells := 1, slots := 6, locals := 144 } : Room) [.ref (a 0), .int p1, .int p2, .ref o] (([[((a 0), .inr (8, [.ref (a 1), .ref (a 11), .ref (a 21), .ref (a 63)]))], wG cI (a 1) (a 2) (a 3) (a 4) (a 5) (a 6) (a 7) (a 8) (a 9) (a 10) g_ft g_er g_eb g_li g_st g_rd g_tu g_la g_dl g_sh g_tb, wG cI (a 11) (a 12) (a 13) (a 14) (a 15) (a 16) (a 17) (a 18) (a 19) (a 20) z_ft z_er z_eb z_li z_st z_rd z_tu z_la z_dl z_sh z_tb, wH cI cG (fun i => a (21 + i)) yc yp yg, wS cI (a 63) (a 64) (a 65) (a 66) (a 67) tx cm, [(o, .inl (cL, 1, .inr (.inl ol)))]] : List va_W).flatten) (out.elim (fun E => if E = "java/lang/IndexOutOfBoundsException" then 1 else if E = "java/lang/IllegalArgumentException" then 2 else 0) (fun _ => 0)) (out.elim (fun _ => ([[((a 0), .inr (8, [.ref (a 1), .ref (a 11), .ref (a 21), .ref (a 63)]))], wG cI (a 1) (a 2) (a 3) (a 4) (a 5) (a 6) (a 7) (a 8) (a 9) (a 10) g_ft g_er g_eb g_li g_st g_rd g_tu g_la g_dl g_sh g_tb, wG cI (a 11) (a 12) (a 13) (a 14) (a 15) (a 16) (a 17) (a 18) (a 19) (a 20) z_ft z_er z_eb z_li z_st z_rd z_tu z_la z_dl z_sh z_tb, wH cI cG (fun i => a (21 + i)) yc yp yg, wS cI (a 63) (a 64) (a 65) (a 66) (a 67) tx cm, [(o, .inl (cL, 1, .inr (.inl ol)))]] : List va_W).flatten) (fun u : Int32 => ([[((a 0), .inr (8, [.ref (a 1), .ref (a 11), .ref (a 21), .ref (a 63)]))], wG cI (a 1) (a 2) (a 3) (a 4) (a 5) (a 6) (a 7) (a 8) (a 9) (a 10) g_ft g_er g_eb g_li g_st g_rd g_tu g_la g_dl g_sh g_tb, wG cI (a 11) (a 12) (a 13) (a 14) (a 15) (a 16) (a 17) (a 18) (a 19) (a 20) z_ft z_er z_eb z_li z_st z_rd z_tu z_la z_dl z_sh z_tb, wH cI cG (fun i => a (21 + i)) yc yp yg, wS cI (a 63) (a 64) (a 65) (a 66) (a 67) tx cm, [(o, .inl (cL, 1, .inr (.inl (vp_updL ol (0 : Int32).toNatClampNeg (u : Int32).toInt64))))]] : List va_W).flatten)) 1 6 := by
  intro sz
  apply met_of_vx
  refine vx_ofWH (cc := cL_stacked) (maxL := 5) (ret := (some .int)) (by decide) rfl ?_
  intro p e s m args below meth c s₁ B hml hv
  obtain ⟨rfl, ⟨hsz, hP, hK, hD0⟩, hX, hZ, hN⟩ := hv
  have hx := B.exec
  have hb := B.bytes
  have hr := B.returns
  have hts := atoms_spec (ws := wsL_stacked) B.pre
  have hown : s.vm.findClass RL = some m.cls := findClass_of_methodNamed B.named
  have hlocks := B.notSynchronized
  have hTb : c.exceptionTable.toList = tableOf [(0, 10, 13, 20), (0, 10, 17, 13)] := vx_table (x := yL_stacked) B (hts _ List.mem_cons_self)
  subst hsz
  have hD := hD0.self (sz := s.heap.size)
  generalize hAe : va_A (([[((a 0), .inr (8, [.ref (a 1), .ref (a 11), .ref (a 21), .ref (a 63)]))], wG cI (a 1) (a 2) (a 3) (a 4) (a 5) (a 6) (a 7) (a 8) (a 9) (a 10) g_ft g_er g_eb g_li g_st g_rd g_tu g_la g_dl g_sh g_tb, wG cI (a 11) (a 12) (a 13) (a 14) (a 15) (a 16) (a 17) (a 18) (a 19) (a 20) z_ft z_er z_eb z_li z_st z_rd z_tu z_la z_dl z_sh z_tb, wH cI cG (fun i => a (21 + i)) yc yp yg, wS cI (a 63) (a 64) (a 65) (a 66) (a 67) tx cm, [(o, .inl (cL, 1, .inr (.inl ol)))]] : List va_W).flatten) s.heap.size = A at hD hZ ⊢
  have hA : ∀ q : Nat, s.heap.size ≤ q → A q := fun q h => by rw [← hAe]; exact Or.inr h
  have hS : va_S A s.heap s.heap [] := va_S.rf
  have hw0 := hts (.classLink RL 20 "java/lang/IndexOutOfBoundsException") (List.mem_of_getElem? (i := 1) rfl)
  have hw1 := hts (.classLink RL 13 "java/lang/IllegalArgumentException") (List.mem_of_getElem? (i := 2) rfl)
  show W p l e ({ frames := 8, cells := 1, slots := 6, locals := 144 } : Room) s m _ below meth c s.heap [] 0 0 _ _
  refine W_genQ (fun Q hQ => ?_)
  have hl := lv_entry ([.ref (a 0), .int p1, .int p2, .ref o]) (n := 5) (Nat.le_of_ble_eq_true rfl)
  rw [lg_entry_eq]
  generalize (lg_sl ([.ref (a 0), .int p1, .int p2, .ref o]) ++ List.replicate (5 - (lg_sl ([.ref (a 0), .int p1, .int p2, .ref o])).length) Slot.unset).toArray = ls at hl ⊢
  have hl : lv_has ls 5 [(0, .ref (a 0)), (1, .int p1), (2, .int p2), (3, .ref o)] := hl
  refine lv_aload_n hx hb dL_stacked_0 rfl (lv_at hl 3 rfl) ?_
  refine lv_iconst (v := 0) hx hb dL_stacked_1 (by decide) ?_
  refine lv_aload_n hx hb dL_stacked_2 rfl (lv_at hl 0 rfl) ?_
  refine lv_iload_n hx hb dL_stacked_3 rfl (lv_at hl 1 rfl) ?_
  refine lv_iload_n hx hb dL_stacked_4 rfl (lv_at hl 2 rfl) ?_
  refine xcall_iV (As := [.int p1, .int p2]) (rest := [.int 0, .ref o]) (c0 := [[((a 0), .inr (8, [.ref (a 1), .ref (a 11), .ref (a 21), .ref (a 63)]))], wG cI (a 1) (a 2) (a 3) (a 4) (a 5) (a 6) (a 7) (a 8) (a 9) (a 10) g_ft g_er g_eb g_li g_st g_rd g_tu g_la g_dl g_sh g_tb, wG cI (a 11) (a 12) (a 13) (a 14) (a 15) (a 16) (a 17) (a 18) (a 19) (a 20) z_ft z_er z_eb z_li z_st z_rd z_tu z_la z_dl z_sh z_tb, wH cI cG (fun i => a (21 + i)) yc yp yg, wS cI (a 63) (a 64) (a 65) (a 66) (a 67) tx cm]) ⟨hx, hb, hml, hown, hts⟩ (cX5_stacked_ok l hlf G cI cG a g_ft g_er g_eb g_li g_st g_rd g_tu g_la g_dl g_sh g_tb z_ft z_er z_eb z_li z_st z_rd z_tu z_la z_dl z_sh z_tb yc yp yg tx cm p1 p2 out hf) (cwV 2 hts gL_stacked_X5_stacked rfl rfl rfl hdX5_stacked ⟨Nat.le_of_ble_eq_true rfl, Nat.le_of_ble_eq_true rfl⟩) hP hD hS hA (tyl_z hK) hX hZ 8 rfl rfl rfl [0, 1, 2, 3, 4] rfl rfl rfl rfl rfl (fun u : Int32 => [[((a 0), .inr (8, [.ref (a 1), .ref (a 11), .ref (a 21), .ref (a 63)]))], wG cI (a 1) (a 2) (a 3) (a 4) (a 5) (a 6) (a 7) (a 8) (a 9) (a 10) g_ft g_er g_eb g_li g_st g_rd g_tu g_la g_dl g_sh g_tb, wG cI (a 11) (a 12) (a 13) (a 14) (a 15) (a 16) (a 17) (a 18) (a 19) (a 20) z_ft z_er z_eb z_li z_st z_rd z_tu z_la z_dl z_sh z_tb, wH cI cG (fun i => a (21 + i)) yc yp yg, wS cI (a 63) (a 64) (a 65) (a 66) (a 67) tx cm]) (fun u : Int32 => [[((a 0), .inr (8, [.ref (a 1), .ref (a 11), .ref (a 21), .ref (a 63)]))], wG cI (a 1) (a 2) (a 3) (a 4) (a 5) (a 6) (a 7) (a 8) (a 9) (a 10) g_ft g_er g_eb g_li g_st g_rd g_tu g_la g_dl g_sh g_tb, wG cI (a 11) (a 12) (a 13) (a 14) (a 15) (a 16) (a 17) (a 18) (a 19) (a 20) z_ft z_er z_eb z_li z_st z_rd z_tu z_la z_dl z_sh z_tb, wH cI cG (fun i => a (21 + i)) yc yp yg, wS cI (a 63) (a 64) (a 65) (a 66) (a 67) tx cm, [(o, .inl (cL, 1, .inr (.inl ol)))]]) (fun _ => rfl) (fun _ => rfl) (fun _ => rfl) (fun _ => rfl) rfl rfl hl.1 (Nat.le_of_ble_eq_true rfl) dL_stacked_5 ⟨Nat.le_of_ble_eq_true rfl, Nat.le_of_ble_eq_true rfl⟩ (fun E H locs ce q9 ho hP hD hS hcell hv hcl => ?_) (fun u H locs ho hP hD hS => ?_)
  · rcases hE E ho with rfl | rfl
    · subst ho
      refine vx_catch hown [] ⟨0, 10, 13, 20⟩ [⟨0, 10, 17, 13⟩] hTb (fun z hz => by cases hz) (by decide) (by decide) hw0 (va_Nw.use rfl hX.1.2.2.1) hcell hv hcl ?_
      refine lv_astore (lv' := [(4, .ref q9), (0, .ref (a 0)), (1, .int p1), (2, .int p2), (3, .ref o)]) hx hb dL_stacked_13 hl (by decide) rfl (fun ls hl => ?_)
      refine lv_iconst (v := 1) hx hb dL_stacked_15 (by decide) ?_
      rw [hQ]
      exact lend_i hx hb hr (by decide) hP hD hS dL_stacked_16 hlocks (Nat.le_of_ble_eq_true rfl) (Nat.le_of_ble_eq_true rfl)
    · subst ho
      refine vx_catch hown [⟨0, 10, 13, 20⟩] ⟨0, 10, 17, 13⟩ [] hTb (pre1 (Or.inr ⟨by decide, "java/lang/IndexOutOfBoundsException", hw0, hN.2.1⟩)) (by decide) (by decide) hw1 (va_Nw.use rfl hX.1.1) hcell hv hcl ?_
      refine lv_astore (lv' := [(4, .ref q9), (0, .ref (a 0)), (1, .int p1), (2, .int p2), (3, .ref o)]) hx hb dL_stacked_17 hl (by decide) rfl (fun ls hl => ?_)
      refine lv_iconst (v := 2) hx hb dL_stacked_19 (by decide) ?_
      rw [hQ]
      exact lend_i hx hb hr (by decide) hP hD hS dL_stacked_20 hlocks (Nat.le_of_ble_eq_true rfl) (Nat.le_of_ble_eq_true rfl)
  · subst ho
    refine lv_i2l (v := (u : Int32).toInt64) hx hb dL_stacked_8 rfl ?_
    refine va_last hx hb hK.1 hP hD hS 68 2 rfl rfl (show ¬ ((0 : Int32) < 0 ∨ 1 ≤ (0 : Int32).toNatClampNeg) from by decide) dL_stacked_9 (fun H locs hP hD hS => ?_)
    have hP : va_P G vwCl (([[((a 0), .inr (8, [.ref (a 1), .ref (a 11), .ref (a 21), .ref (a 63)]))], wG cI (a 1) (a 2) (a 3) (a 4) (a 5) (a 6) (a 7) (a 8) (a 9) (a 10) g_ft g_er g_eb g_li g_st g_rd g_tu g_la g_dl g_sh g_tb, wG cI (a 11) (a 12) (a 13) (a 14) (a 15) (a 16) (a 17) (a 18) (a 19) (a 20) z_ft z_er z_eb z_li z_st z_rd z_tu z_la z_dl z_sh z_tb, wH cI cG (fun i => a (21 + i)) yc yp yg, wS cI (a 63) (a 64) (a 65) (a 66) (a 67) tx cm, [(o, .inl (cL, 1, .inr (.inl (vp_updL ol (0 : Int32).toNatClampNeg (u : Int32).toInt64))))]] : List va_W).flatten) H := hP
    have hD : va_D A (([[((a 0), .inr (8, [.ref (a 1), .ref (a 11), .ref (a 21), .ref (a 63)]))], wG cI (a 1) (a 2) (a 3) (a 4) (a 5) (a 6) (a 7) (a 8) (a 9) (a 10) g_ft g_er g_eb g_li g_st g_rd g_tu g_la g_dl g_sh g_tb, wG cI (a 11) (a 12) (a 13) (a 14) (a 15) (a 16) (a 17) (a 18) (a 19) (a 20) z_ft z_er z_eb z_li z_st z_rd z_tu z_la z_dl z_sh z_tb, wH cI cG (fun i => a (21 + i)) yc yp yg, wS cI (a 63) (a 64) (a 65) (a 66) (a 67) tx cm, [(o, .inl (cL, 1, .inr (.inl (vp_updL ol (0 : Int32).toNatClampNeg (u : Int32).toInt64))))]] : List va_W).flatten) := hD
    refine lv_goto (tgt := 21) hx hb dL_stacked_10 (by decide) ?_
    refine lv_iconst (v := 0) hx hb dL_stacked_21 (by decide) ?_
    rw [hQ]
    exact lend_i hx hb hr rfl hP hD hS dL_stacked_22 hlocks (Nat.le_of_ble_eq_true rfl) (Nat.le_of_ble_eq_true rfl)
theorem hdL_mayAnswer : yL_mayAnswer.cls ≠ "java/lang/invoke/MethodHandle" ∧ yL_mayAnswer.cls ≠ "java/lang/invoke/VarHandle" ∧ (parseMethodDescriptor yL_mayAnswer.desc).map (fun d => d.parameters.length) = some 3 := by decide +kernel
set_option maxHeartbeats 4000000 in
set_option maxRecDepth 100000 in
theorem cL_mayAnswer_ok (l : Launch) (hlf : l.stackTraces = false) (G : va_G) (cI cG cL : ClassId) (a : Nat → Nat) (o : Nat) (g_ft : Tab) (g_er : Tab) (g_eb : Int32) (g_li : Tab) (g_st : Tab) (g_rd : Int32) (g_tu : Int32) (g_la : Int32) (g_dl : Bool) (g_sh : Int32) (g_tb : Int32) (z_ft : Tab) (z_er : Tab) (z_eb : Int32) (z_li : Tab) (z_st : Tab) (z_rd : Int32) (z_tu : Int32) (z_la : Int32) (z_dl : Bool) (z_sh : Int32) (z_tb : Int32) (yc : Int32) (yp : (Nat → Nat)) (yg : (Nat → GV)) (tx : Tab) (cm : Tab) (ol : Nat → Int64) (p1 : Int32) (out : String ⊕ (Bool)) (hf : fX5_mayAnswer g_ft g_st p1 = some out) (hE : ∀ E, out = .inl E → E = "java/lang/IndexOutOfBoundsException") : LI l G (tyl cI cG cL) yL_mayAnswer wsL_mayAnswer ({ frames := 8, cells := 1, slots := 6, locals := 142 } : Room) [.ref (a 0), .int p1, .ref o] (([[((a 0), .inr (8, [.ref (a 1), .ref (a 11), .ref (a 21), .ref (a 63)]))], wG cI (a 1) (a 2) (a 3) (a 4) (a 5) (a 6) (a 7) (a 8) (a 9) (a 10) g_ft g_er g_eb g_li g_st g_rd g_tu g_la g_dl g_sh g_tb, wG cI (a 11) (a 12) (a 13) (a 14) (a 15) (a 16) (a 17) (a 18) (a 19) (a 20) z_ft z_er z_eb z_li z_st z_rd z_tu z_la z_dl z_sh z_tb, wH cI cG (fun i => a (21 + i)) yc yp yg, wS cI (a 63) (a 64) (a 65) (a 66) (a 67) tx cm, [(o, .inl (cL, 1, .inr (.inl ol)))]] : List va_W).flatten) (out.elim (fun E => if E = "java/lang/IndexOutOfBoundsException" then 1 else 0) (fun _ => 0)) (out.elim (fun _ => ([[((a 0), .inr (8, [.ref (a 1), .ref (a 11), .ref (a 21), .ref (a 63)]))], wG cI (a 1) (a 2) (a 3) (a 4) (a 5) (a 6) (a 7) (a 8) (a 9) (a 10) g_ft g_er g_eb g_li g_st g_rd g_tu g_la g_dl g_sh g_tb, wG cI (a 11) (a 12) (a 13) (a 14) (a 15) (a 16) (a 17) (a 18) (a 19) (a 20) z_ft z_er z_eb z_li z_st z_rd z_tu z_la z_dl z_sh z_tb, wH cI cG (fun i => a (21 + i)) yc yp yg, wS cI (a 63) (a 64) (a 65) (a 66) (a 67) tx cm, [(o, .inl (cL, 1, .inr (.inl ol)))]] : List va_W).flatten) (fun u : Bool => ([[((a 0), .inr (8, [.ref (a 1), .ref (a 11), .ref (a 21), .ref (a 63)]))], wG cI (a 1) (a 2) (a 3) (a 4) (a 5) (a 6) (a 7) (a 8) (a 9) (a 10) g_ft g_er g_eb g_li g_st g_rd g_tu g_la g_dl g_sh g_tb, wG cI (a 11) (a 12) (a 13) (a 14) (a 15) (a 16) (a 17) (a 18) (a 19) (a 20) z_ft z_er z_eb z_li z_st z_rd z_tu z_la z_dl z_sh z_tb, wH cI cG (fun i => a (21 + i)) yc yp yg, wS cI (a 63) (a 64) (a 65) (a 66) (a 67) tx cm, [(o, .inl (cL, 1, .inr (.inl (vp_updL ol (0 : Int32).toNatClampNeg (if (bI u : Int32) = 0 then 0 else 1)))))]] : List va_W).flatten)) 1 6 := by
  intro sz
  apply met_of_vx
  refine vx_ofWH (cc := cL_mayAnswer) (maxL := 4) (ret := (some .int)) (by decide) rfl ?_
  intro p e s m args below meth c s₁ B hml hv
  obtain ⟨rfl, ⟨hsz, hP, hK, hD0⟩, hX, hZ, hN⟩ := hv
  have hx := B.exec
  have hb := B.bytes
  have hr := B.returns
  have hts := atoms_spec (ws := wsL_mayAnswer) B.pre
  have hown : s.vm.findClass RL = some m.cls := findClass_of_methodNamed B.named
  have hlocks := B.notSynchronized
  have hTb : c.exceptionTable.toList = tableOf [(0, 16, 19, 20)] := vx_table (x := yL_mayAnswer) B (hts _ List.mem_cons_self)
  subst hsz
  have hD := hD0.self (sz := s.heap.size)
  generalize hAe : va_A (([[((a 0), .inr (8, [.ref (a 1), .ref (a 11), .ref (a 21), .ref (a 63)]))], wG cI (a 1) (a 2) (a 3) (a 4) (a 5) (a 6) (a 7) (a 8) (a 9) (a 10) g_ft g_er g_eb g_li g_st g_rd g_tu g_la g_dl g_sh g_tb, wG cI (a 11) (a 12) (a 13) (a 14) (a 15) (a 16) (a 17) (a 18) (a 19) (a 20) z_ft z_er z_eb z_li z_st z_rd z_tu z_la z_dl z_sh z_tb, wH cI cG (fun i => a (21 + i)) yc yp yg, wS cI (a 63) (a 64) (a 65) (a 66) (a 67) tx cm, [(o, .inl (cL, 1, .inr (.inl ol)))]] : List va_W).flatten) s.heap.size = A at hD hZ ⊢
  have hA : ∀ q : Nat, s.heap.size ≤ q → A q := fun q h => by rw [← hAe]; exact Or.inr h
  have hS : va_S A s.heap s.heap [] := va_S.rf
  have hw0 := hts (.classLink RL 20 "java/lang/IndexOutOfBoundsException") (List.mem_of_getElem? (i := 1) rfl)
  show W p l e ({ frames := 8, cells := 1, slots := 6, locals := 142 } : Room) s m _ below meth c s.heap [] 0 0 _ _
  refine W_genQ (fun Q hQ => ?_)
  have hl := lv_entry ([.ref (a 0), .int p1, .ref o]) (n := 4) (Nat.le_of_ble_eq_true rfl)
  rw [lg_entry_eq]
  generalize (lg_sl ([.ref (a 0), .int p1, .ref o]) ++ List.replicate (4 - (lg_sl ([.ref (a 0), .int p1, .ref o])).length) Slot.unset).toArray = ls at hl ⊢
  have hl : lv_has ls 4 [(0, .ref (a 0)), (1, .int p1), (2, .ref o)] := hl
  refine lv_aload_n hx hb dL_mayAnswer_0 rfl (lv_at hl 2 rfl) ?_
  refine lv_iconst (v := 0) hx hb dL_mayAnswer_1 (by decide) ?_
  refine lv_aload_n hx hb dL_mayAnswer_2 rfl (lv_at hl 0 rfl) ?_
  refine lv_iload_n hx hb dL_mayAnswer_3 rfl (lv_at hl 1 rfl) ?_
  refine xcall_iV (As := [.int p1]) (rest := [.int 0, .ref o]) (c0 := [[((a 0), .inr (8, [.ref (a 1), .ref (a 11), .ref (a 21), .ref (a 63)]))], wG cI (a 1) (a 2) (a 3) (a 4) (a 5) (a 6) (a 7) (a 8) (a 9) (a 10) g_ft g_er g_eb g_li g_st g_rd g_tu g_la g_dl g_sh g_tb, wG cI (a 11) (a 12) (a 13) (a 14) (a 15) (a 16) (a 17) (a 18) (a 19) (a 20) z_ft z_er z_eb z_li z_st z_rd z_tu z_la z_dl z_sh z_tb, wH cI cG (fun i => a (21 + i)) yc yp yg, wS cI (a 63) (a 64) (a 65) (a 66) (a 67) tx cm]) ⟨hx, hb, hml, hown, hts⟩ (cX5_mayAnswer_ok l hlf G cI cG a g_ft g_er g_eb g_li g_st g_rd g_tu g_la g_dl g_sh g_tb z_ft z_er z_eb z_li z_st z_rd z_tu z_la z_dl z_sh z_tb yc yp yg tx cm p1 out hf) (cwV 1 hts gL_mayAnswer_X5_mayAnswer rfl rfl rfl hdX5_mayAnswer ⟨Nat.le_of_ble_eq_true rfl, Nat.le_of_ble_eq_true rfl⟩) hP hD hS hA (tyl_z hK) hX hZ 8 rfl rfl rfl [0, 1, 2, 3, 4] rfl rfl rfl rfl rfl (fun u : Bool => [[((a 0), .inr (8, [.ref (a 1), .ref (a 11), .ref (a 21), .ref (a 63)]))], wG cI (a 1) (a 2) (a 3) (a 4) (a 5) (a 6) (a 7) (a 8) (a 9) (a 10) g_ft g_er g_eb g_li g_st g_rd g_tu g_la g_dl g_sh g_tb, wG cI (a 11) (a 12) (a 13) (a 14) (a 15) (a 16) (a 17) (a 18) (a 19) (a 20) z_ft z_er z_eb z_li z_st z_rd z_tu z_la z_dl z_sh z_tb, wH cI cG (fun i => a (21 + i)) yc yp yg, wS cI (a 63) (a 64) (a 65) (a 66) (a 67) tx cm]) (fun u : Bool => [[((a 0), .inr (8, [.ref (a 1), .ref (a 11), .ref (a 21), .ref (a 63)]))], wG cI (a 1) (a 2) (a 3) (a 4) (a 5) (a 6) (a 7) (a 8) (a 9) (a 10) g_ft g_er g_eb g_li g_st g_rd g_tu g_la g_dl g_sh g_tb, wG cI (a 11) (a 12) (a 13) (a 14) (a 15) (a 16) (a 17) (a 18) (a 19) (a 20) z_ft z_er z_eb z_li z_st z_rd z_tu z_la z_dl z_sh z_tb, wH cI cG (fun i => a (21 + i)) yc yp yg, wS cI (a 63) (a 64) (a 65) (a 66) (a 67) tx cm, [(o, .inl (cL, 1, .inr (.inl ol)))]]) (fun _ => rfl) (fun _ => rfl) (fun _ => rfl) (fun _ => rfl) rfl rfl hl.1 (Nat.le_of_ble_eq_true rfl) dL_mayAnswer_4 ⟨Nat.le_of_ble_eq_true rfl, Nat.le_of_ble_eq_true rfl⟩ (fun E H locs ce q9 ho hP hD hS hcell hv hcl => ?_) (fun u H locs ho hP hD hS => ?_)
  · obtain rfl := hE E ho
    subst ho
    refine vx_catch hown [] ⟨0, 16, 19, 20⟩ [] hTb (fun z hz => by cases hz) (by decide) (by decide) hw0 (va_Nw.use rfl hX.1.2.2.1) hcell hv hcl ?_
    refine lv_astore_n (lv' := [(3, .ref q9), (0, .ref (a 0)), (1, .int p1), (2, .ref o)]) hx hb dL_mayAnswer_19 rfl hl (by decide) rfl (fun ls hl => ?_)
    refine lv_iconst (v := 1) hx hb dL_mayAnswer_20 (by decide) ?_
    rw [hQ]
    exact lend_i hx hb hr (by decide) hP hD hS dL_mayAnswer_21 hlocks (Nat.le_of_ble_eq_true rfl) (Nat.le_of_ble_eq_true rfl)
  · subst ho
    refine lv_if_eq (tgt := 14) hx hb dL_mayAnswer_7 (by decide) (fun hc => ?_) (fun hc => ?_)
    · refine lv_lconst (v := 0) hx hb dL_mayAnswer_14 (by decide) ?_
      refine va_last hx hb hK.1 hP hD hS 68 2 rfl rfl (show ¬ ((0 : Int32) < 0 ∨ 1 ≤ (0 : Int32).toNatClampNeg) from by decide) dL_mayAnswer_15 (fun H locs hP hD hS => ?_)
      have hP : va_P G vwCl (([[((a 0), .inr (8, [.ref (a 1), .ref (a 11), .ref (a 21), .ref (a 63)]))], wG cI (a 1) (a 2) (a 3) (a 4) (a 5) (a 6) (a 7) (a 8) (a 9) (a 10) g_ft g_er g_eb g_li g_st g_rd g_tu g_la g_dl g_sh g_tb, wG cI (a 11) (a 12) (a 13) (a 14) (a 15) (a 16) (a 17) (a 18) (a 19) (a 20) z_ft z_er z_eb z_li z_st z_rd z_tu z_la z_dl z_sh z_tb, wH cI cG (fun i => a (21 + i)) yc yp yg, wS cI (a 63) (a 64) (a 65) (a 66) (a 67) tx cm, [(o, .inl (cL, 1, .inr (.inl (vp_updL ol (0 : Int32).toNatClampNeg (if (bI u : Int32) = 0 then 0 else 1)))))]] : List va_W).flatten) H := by rw [if_pos hc]; exact hP
      have hD : va_D A (([[((a 0), .inr (8, [.ref (a 1), .ref (a 11), .ref (a 21), .ref (a 63)]))], wG cI (a 1) (a 2) (a 3) (a 4) (a 5) (a 6) (a 7) (a 8) (a 9) (a 10) g_ft g_er g_eb g_li g_st g_rd g_tu g_la g_dl g_sh g_tb, wG cI (a 11) (a 12) (a 13) (a 14) (a 15) (a 16) (a 17) (a 18) (a 19) (a 20) z_ft z_er z_eb z_li z_st z_rd z_tu z_la z_dl z_sh z_tb, wH cI cG (fun i => a (21 + i)) yc yp yg, wS cI (a 63) (a 64) (a 65) (a 66) (a 67) tx cm, [(o, .inl (cL, 1, .inr (.inl (vp_updL ol (0 : Int32).toNatClampNeg (if (bI u : Int32) = 0 then 0 else 1)))))]] : List va_W).flatten) := by rw [if_pos hc]; exact hD
      refine lv_goto (tgt := 22) hx hb dL_mayAnswer_16 (by decide) ?_
      refine lv_iconst (v := 0) hx hb dL_mayAnswer_22 (by decide) ?_
      rw [hQ]
      exact lend_i hx hb hr rfl hP hD hS dL_mayAnswer_23 hlocks (Nat.le_of_ble_eq_true rfl) (Nat.le_of_ble_eq_true rfl)
    · refine lv_lconst (v := 1) hx hb dL_mayAnswer_10 (by decide) ?_
      refine lv_goto (tgt := 15) hx hb dL_mayAnswer_11 (by decide) ?_
      refine va_last hx hb hK.1 hP hD hS 68 2 rfl rfl (show ¬ ((0 : Int32) < 0 ∨ 1 ≤ (0 : Int32).toNatClampNeg) from by decide) dL_mayAnswer_15 (fun H locs hP hD hS => ?_)
      have hP : va_P G vwCl (([[((a 0), .inr (8, [.ref (a 1), .ref (a 11), .ref (a 21), .ref (a 63)]))], wG cI (a 1) (a 2) (a 3) (a 4) (a 5) (a 6) (a 7) (a 8) (a 9) (a 10) g_ft g_er g_eb g_li g_st g_rd g_tu g_la g_dl g_sh g_tb, wG cI (a 11) (a 12) (a 13) (a 14) (a 15) (a 16) (a 17) (a 18) (a 19) (a 20) z_ft z_er z_eb z_li z_st z_rd z_tu z_la z_dl z_sh z_tb, wH cI cG (fun i => a (21 + i)) yc yp yg, wS cI (a 63) (a 64) (a 65) (a 66) (a 67) tx cm, [(o, .inl (cL, 1, .inr (.inl (vp_updL ol (0 : Int32).toNatClampNeg (if (bI u : Int32) = 0 then 0 else 1)))))]] : List va_W).flatten) H := by rw [if_neg hc]; exact hP
      have hD : va_D A (([[((a 0), .inr (8, [.ref (a 1), .ref (a 11), .ref (a 21), .ref (a 63)]))], wG cI (a 1) (a 2) (a 3) (a 4) (a 5) (a 6) (a 7) (a 8) (a 9) (a 10) g_ft g_er g_eb g_li g_st g_rd g_tu g_la g_dl g_sh g_tb, wG cI (a 11) (a 12) (a 13) (a 14) (a 15) (a 16) (a 17) (a 18) (a 19) (a 20) z_ft z_er z_eb z_li z_st z_rd z_tu z_la z_dl z_sh z_tb, wH cI cG (fun i => a (21 + i)) yc yp yg, wS cI (a 63) (a 64) (a 65) (a 66) (a 67) tx cm, [(o, .inl (cL, 1, .inr (.inl (vp_updL ol (0 : Int32).toNatClampNeg (if (bI u : Int32) = 0 then 0 else 1)))))]] : List va_W).flatten) := by rw [if_neg hc]; exact hD
      refine lv_goto (tgt := 22) hx hb dL_mayAnswer_16 (by decide) ?_
      refine lv_iconst (v := 0) hx hb dL_mayAnswer_22 (by decide) ?_
      rw [hQ]
      exact lend_i hx hb hr rfl hP hD hS dL_mayAnswer_23 hlocks (Nat.le_of_ble_eq_true rfl) (Nat.le_of_ble_eq_true rfl)
theorem hdL_upcoming : yL_upcoming.cls ≠ "java/lang/invoke/MethodHandle" ∧ yL_upcoming.cls ≠ "java/lang/invoke/VarHandle" ∧ (parseMethodDescriptor yL_upcoming.desc).map (fun d => d.parameters.length) = some 3 := by decide +kernel
set_option maxHeartbeats 4000000 in
set_option maxRecDepth 100000 in
theorem cL_upcoming_ok (l : Launch) (hlf : l.stackTraces = false) (G : va_G) (cI cG cL : ClassId) (a : Nat → Nat) (o : Nat) (fu : Nat) (g_ft : Tab) (g_er : Tab) (g_eb : Int32) (g_li : Tab) (g_st : Tab) (g_rd : Int32) (g_tu : Int32) (g_la : Int32) (g_dl : Bool) (g_sh : Int32) (g_tb : Int32) (z_ft : Tab) (z_er : Tab) (z_eb : Int32) (z_li : Tab) (z_st : Tab) (z_rd : Int32) (z_tu : Int32) (z_la : Int32) (z_dl : Bool) (z_sh : Int32) (z_tb : Int32) (yc : Int32) (yp : (Nat → Nat)) (yg : (Nat → GV)) (tx : Tab) (cm : Tab) (ol : Nat → Int64) (p1 : Int32) (out : String ⊕ (Int32 × Tab × Tab × Int32 × Tab × Tab × Int32 × Int32 × Int32 × Bool × Int32 × Int32)) (hf : fX5_upcoming fu g_ft g_er g_eb g_li g_st g_rd g_tu g_la g_dl g_sh g_tb z_ft z_er z_eb z_li z_st z_rd z_tu z_la z_dl z_sh z_tb p1 = some out) (hE : ∀ E, out = .inl E → E = "java/lang/IllegalArgumentException") : LI l G (tyl cI cG cL) yL_upcoming wsL_upcoming ({ frames := 8, cells := 1, slots := 6, locals := 219 } : Room) [.ref (a 0), .int p1, .ref o] (([[((a 0), .inr (8, [.ref (a 1), .ref (a 11), .ref (a 21), .ref (a 63)]))], wG cI (a 1) (a 2) (a 3) (a 4) (a 5) (a 6) (a 7) (a 8) (a 9) (a 10) g_ft g_er g_eb g_li g_st g_rd g_tu g_la g_dl g_sh g_tb, wG cI (a 11) (a 12) (a 13) (a 14) (a 15) (a 16) (a 17) (a 18) (a 19) (a 20) z_ft z_er z_eb z_li z_st z_rd z_tu z_la z_dl z_sh z_tb, wH cI cG (fun i => a (21 + i)) yc yp yg, wS cI (a 63) (a 64) (a 65) (a 66) (a 67) tx cm, [(o, .inl (cL, 1, .inr (.inl ol)))]] : List va_W).flatten) (out.elim (fun E => if E = "java/lang/IllegalArgumentException" then 1 else 0) (fun _ => 0)) (out.elim (fun _ => ([[((a 0), .inr (8, [.ref (a 1), .ref (a 11), .ref (a 21), .ref (a 63)]))], wG cI (a 1) (a 2) (a 3) (a 4) (a 5) (a 6) (a 7) (a 8) (a 9) (a 10) g_ft g_er g_eb g_li g_st g_rd g_tu g_la g_dl g_sh g_tb, wG cI (a 11) (a 12) (a 13) (a 14) (a 15) (a 16) (a 17) (a 18) (a 19) (a 20) z_ft z_er z_eb z_li z_st z_rd z_tu z_la z_dl z_sh z_tb, wH cI cG (fun i => a (21 + i)) yc yp yg, wS cI (a 63) (a 64) (a 65) (a 66) (a 67) tx cm, [(o, .inl (cL, 1, .inr (.inl ol)))]] : List va_W).flatten) (fun u : Int32 × Tab × Tab × Int32 × Tab × Tab × Int32 × Int32 × Int32 × Bool × Int32 × Int32 => ([[((a 0), .inr (8, [.ref (a 1), .ref (a 11), .ref (a 21), .ref (a 63)]))], wG cI (a 1) (a 2) (a 3) (a 4) (a 5) (a 6) (a 7) (a 8) (a 9) (a 10) g_ft g_er g_eb g_li g_st g_rd g_tu g_la g_dl g_sh g_tb, wG cI (a 11) (a 12) (a 13) (a 14) (a 15) (a 16) (a 17) (a 18) (a 19) (a 20) u.2.1 u.2.2.1 u.2.2.2.1 u.2.2.2.2.1 u.2.2.2.2.2.1 u.2.2.2.2.2.2.1 u.2.2.2.2.2.2.2.1 u.2.2.2.2.2.2.2.2.1 u.2.2.2.2.2.2.2.2.2.1 u.2.2.2.2.2.2.2.2.2.2.1 u.2.2.2.2.2.2.2.2.2.2.2, wH cI cG (fun i => a (21 + i)) yc yp yg, wS cI (a 63) (a 64) (a 65) (a 66) (a 67) tx cm, [(o, .inl (cL, 1, .inr (.inl (vp_updL ol (0 : Int32).toNatClampNeg (u.1 : Int32).toInt64))))]] : List va_W).flatten)) 1 6 := by
  intro sz
  apply met_of_vx
  refine vx_ofWH (cc := cL_upcoming) (maxL := 4) (ret := (some .int)) (by decide) rfl ?_
  intro p e s m args below meth c s₁ B hml hv
  obtain ⟨rfl, ⟨hsz, hP, hK, hD0⟩, hX, hZ, hN⟩ := hv
  have hx := B.exec
  have hb := B.bytes
  have hr := B.returns
  have hts := atoms_spec (ws := wsL_upcoming) B.pre
  have hown : s.vm.findClass RL = some m.cls := findClass_of_methodNamed B.named
  have hlocks := B.notSynchronized
  have hTb : c.exceptionTable.toList = tableOf [(0, 9, 12, 13)] := vx_table (x := yL_upcoming) B (hts _ List.mem_cons_self)
  subst hsz
  have hD := hD0.self (sz := s.heap.size)
  generalize hAe : va_A (([[((a 0), .inr (8, [.ref (a 1), .ref (a 11), .ref (a 21), .ref (a 63)]))], wG cI (a 1) (a 2) (a 3) (a 4) (a 5) (a 6) (a 7) (a 8) (a 9) (a 10) g_ft g_er g_eb g_li g_st g_rd g_tu g_la g_dl g_sh g_tb, wG cI (a 11) (a 12) (a 13) (a 14) (a 15) (a 16) (a 17) (a 18) (a 19) (a 20) z_ft z_er z_eb z_li z_st z_rd z_tu z_la z_dl z_sh z_tb, wH cI cG (fun i => a (21 + i)) yc yp yg, wS cI (a 63) (a 64) (a 65) (a 66) (a 67) tx cm, [(o, .inl (cL, 1, .inr (.inl ol)))]] : List va_W).flatten) s.heap.size = A at hD hZ ⊢
  have hA : ∀ q : Nat, s.heap.size ≤ q → A q := fun q h => by rw [← hAe]; exact Or.inr h
  have hS : va_S A s.heap s.heap [] := va_S.rf
  have hw0 := hts (.classLink RL 13 "java/lang/IllegalArgumentException") (List.mem_of_getElem? (i := 1) rfl)
  show W p l e ({ frames := 8, cells := 1, slots := 6, locals := 219 } : Room) s m _ below meth c s.heap [] 0 0 _ _
  refine W_genQ (fun Q hQ => ?_)
  have hl := lv_entry ([.ref (a 0), .int p1, .ref o]) (n := 4) (Nat.le_of_ble_eq_true rfl)
  rw [lg_entry_eq]
  generalize (lg_sl ([.ref (a 0), .int p1, .ref o]) ++ List.replicate (4 - (lg_sl ([.ref (a 0), .int p1, .ref o])).length) Slot.unset).toArray = ls at hl ⊢
  have hl : lv_has ls 4 [(0, .ref (a 0)), (1, .int p1), (2, .ref o)] := hl
  refine lv_aload_n hx hb dL_upcoming_0 rfl (lv_at hl 2 rfl) ?_
  refine lv_iconst (v := 0) hx hb dL_upcoming_1 (by decide) ?_
  refine lv_aload_n hx hb dL_upcoming_2 rfl (lv_at hl 0 rfl) ?_
  refine lv_iload_n hx hb dL_upcoming_3 rfl (lv_at hl 1 rfl) ?_
  refine xcall_iV (As := [.int p1]) (rest := [.int 0, .ref o]) (c0 := [[((a 0), .inr (8, [.ref (a 1), .ref (a 11), .ref (a 21), .ref (a 63)]))], wG cI (a 1) (a 2) (a 3) (a 4) (a 5) (a 6) (a 7) (a 8) (a 9) (a 10) g_ft g_er g_eb g_li g_st g_rd g_tu g_la g_dl g_sh g_tb, wG cI (a 11) (a 12) (a 13) (a 14) (a 15) (a 16) (a 17) (a 18) (a 19) (a 20) z_ft z_er z_eb z_li z_st z_rd z_tu z_la z_dl z_sh z_tb, wH cI cG (fun i => a (21 + i)) yc yp yg, wS cI (a 63) (a 64) (a 65) (a 66) (a 67) tx cm]) ⟨hx, hb, hml, hown, hts⟩ (cX5_upcoming_ok l hlf G cI cG a fu g_ft g_er g_eb g_li g_st g_rd g_tu g_la g_dl g_sh g_tb z_ft z_er z_eb z_li z_st z_rd z_tu z_la z_dl z_sh z_tb yc yp yg tx cm p1 out hf) (cwV 1 hts gL_upcoming_X5_upcoming rfl rfl rfl hdX5_upcoming ⟨Nat.le_of_ble_eq_true rfl, Nat.le_of_ble_eq_true rfl⟩) hP hD hS hA (tyl_z hK) hX hZ 8 rfl rfl rfl [0, 1, 2, 3, 4] rfl rfl rfl rfl rfl (fun u : Int32 × Tab × Tab × Int32 × Tab × Tab × Int32 × Int32 × Int32 × Bool × Int32 × Int32 => [[((a 0), .inr (8, [.ref (a 1), .ref (a 11), .ref (a 21), .ref (a 63)]))], wG cI (a 1) (a 2) (a 3) (a 4) (a 5) (a 6) (a 7) (a 8) (a 9) (a 10) g_ft g_er g_eb g_li g_st g_rd g_tu g_la g_dl g_sh g_tb, wG cI (a 11) (a 12) (a 13) (a 14) (a 15) (a 16) (a 17) (a 18) (a 19) (a 20) u.2.1 u.2.2.1 u.2.2.2.1 u.2.2.2.2.1 u.2.2.2.2.2.1 u.2.2.2.2.2.2.1 u.2.2.2.2.2.2.2.1 u.2.2.2.2.2.2.2.2.1 u.2.2.2.2.2.2.2.2.2.1 u.2.2.2.2.2.2.2.2.2.2.1 u.2.2.2.2.2.2.2.2.2.2.2, wH cI cG (fun i => a (21 + i)) yc yp yg, wS cI (a 63) (a 64) (a 65) (a 66) (a 67) tx cm]) (fun u : Int32 × Tab × Tab × Int32 × Tab × Tab × Int32 × Int32 × Int32 × Bool × Int32 × Int32 => [[((a 0), .inr (8, [.ref (a 1), .ref (a 11), .ref (a 21), .ref (a 63)]))], wG cI (a 1) (a 2) (a 3) (a 4) (a 5) (a 6) (a 7) (a 8) (a 9) (a 10) g_ft g_er g_eb g_li g_st g_rd g_tu g_la g_dl g_sh g_tb, wG cI (a 11) (a 12) (a 13) (a 14) (a 15) (a 16) (a 17) (a 18) (a 19) (a 20) u.2.1 u.2.2.1 u.2.2.2.1 u.2.2.2.2.1 u.2.2.2.2.2.1 u.2.2.2.2.2.2.1 u.2.2.2.2.2.2.2.1 u.2.2.2.2.2.2.2.2.1 u.2.2.2.2.2.2.2.2.2.1 u.2.2.2.2.2.2.2.2.2.2.1 u.2.2.2.2.2.2.2.2.2.2.2, wH cI cG (fun i => a (21 + i)) yc yp yg, wS cI (a 63) (a 64) (a 65) (a 66) (a 67) tx cm, [(o, .inl (cL, 1, .inr (.inl ol)))]]) (fun _ => rfl) (fun _ => rfl) (fun _ => rfl) (fun _ => rfl) rfl rfl hl.1 (Nat.le_of_ble_eq_true rfl) dL_upcoming_4 ⟨Nat.le_of_ble_eq_true rfl, Nat.le_of_ble_eq_true rfl⟩ (fun E H locs ce q9 ho hP hD hS hcell hv hcl => ?_) (fun u H locs ho hP hD hS => ?_)
  · obtain rfl := hE E ho
    subst ho
    refine vx_catch hown [] ⟨0, 9, 12, 13⟩ [] hTb (fun z hz => by cases hz) (by decide) (by decide) hw0 (va_Nw.use rfl hX.1.1) hcell hv hcl ?_
    refine lv_astore_n (lv' := [(3, .ref q9), (0, .ref (a 0)), (1, .int p1), (2, .ref o)]) hx hb dL_upcoming_12 rfl hl (by decide) rfl (fun ls hl => ?_)
    refine lv_iconst (v := 1) hx hb dL_upcoming_13 (by decide) ?_
    rw [hQ]
    exact lend_i hx hb hr (by decide) hP hD hS dL_upcoming_14 hlocks (Nat.le_of_ble_eq_true rfl) (Nat.le_of_ble_eq_true rfl)
  · subst ho
    refine lv_i2l (v := (u.1 : Int32).toInt64) hx hb dL_upcoming_7 rfl ?_
    refine va_last hx hb hK.1 hP hD hS 68 2 rfl rfl (show ¬ ((0 : Int32) < 0 ∨ 1 ≤ (0 : Int32).toNatClampNeg) from by decide) dL_upcoming_8 (fun H locs hP hD hS => ?_)
    have hP : va_P G vwCl (([[((a 0), .inr (8, [.ref (a 1), .ref (a 11), .ref (a 21), .ref (a 63)]))], wG cI (a 1) (a 2) (a 3) (a 4) (a 5) (a 6) (a 7) (a 8) (a 9) (a 10) g_ft g_er g_eb g_li g_st g_rd g_tu g_la g_dl g_sh g_tb, wG cI (a 11) (a 12) (a 13) (a 14) (a 15) (a 16) (a 17) (a 18) (a 19) (a 20) u.2.1 u.2.2.1 u.2.2.2.1 u.2.2.2.2.1 u.2.2.2.2.2.1 u.2.2.2.2.2.2.1 u.2.2.2.2.2.2.2.1 u.2.2.2.2.2.2.2.2.1 u.2.2.2.2.2.2.2.2.2.1 u.2.2.2.2.2.2.2.2.2.2.1 u.2.2.2.2.2.2.2.2.2.2.2, wH cI cG (fun i => a (21 + i)) yc yp yg, wS cI (a 63) (a 64) (a 65) (a 66) (a 67) tx cm, [(o, .inl (cL, 1, .inr (.inl (vp_updL ol (0 : Int32).toNatClampNeg (u.1 : Int32).toInt64))))]] : List va_W).flatten) H := hP
    have hD : va_D A (([[((a 0), .inr (8, [.ref (a 1), .ref (a 11), .ref (a 21), .ref (a 63)]))], wG cI (a 1) (a 2) (a 3) (a 4) (a 5) (a 6) (a 7) (a 8) (a 9) (a 10) g_ft g_er g_eb g_li g_st g_rd g_tu g_la g_dl g_sh g_tb, wG cI (a 11) (a 12) (a 13) (a 14) (a 15) (a 16) (a 17) (a 18) (a 19) (a 20) u.2.1 u.2.2.1 u.2.2.2.1 u.2.2.2.2.1 u.2.2.2.2.2.1 u.2.2.2.2.2.2.1 u.2.2.2.2.2.2.2.1 u.2.2.2.2.2.2.2.2.1 u.2.2.2.2.2.2.2.2.2.1 u.2.2.2.2.2.2.2.2.2.2.1 u.2.2.2.2.2.2.2.2.2.2.2, wH cI cG (fun i => a (21 + i)) yc yp yg, wS cI (a 63) (a 64) (a 65) (a 66) (a 67) tx cm, [(o, .inl (cL, 1, .inr (.inl (vp_updL ol (0 : Int32).toNatClampNeg (u.1 : Int32).toInt64))))]] : List va_W).flatten) := hD
    refine lv_goto (tgt := 15) hx hb dL_upcoming_9 (by decide) ?_
    refine lv_iconst (v := 0) hx hb dL_upcoming_15 (by decide) ?_
    rw [hQ]
    exact lend_i hx hb hr rfl hP hD hS dL_upcoming_16 hlocks (Nat.le_of_ble_eq_true rfl) (Nat.le_of_ble_eq_true rfl)
theorem hdL_goneAfter : yL_goneAfter.cls ≠ "java/lang/invoke/MethodHandle" ∧ yL_goneAfter.cls ≠ "java/lang/invoke/VarHandle" ∧ (parseMethodDescriptor yL_goneAfter.desc).map (fun d => d.parameters.length) = some 3 := by decide +kernel
set_option maxHeartbeats 4000000 in
set_option maxRecDepth 100000 in
theorem cL_goneAfter_ok (l : Launch) (hlf : l.stackTraces = false) (G : va_G) (cI cG cL : ClassId) (a : Nat → Nat) (o : Nat) (fu : Nat) (g_ft : Tab) (g_er : Tab) (g_eb : Int32) (g_li : Tab) (g_st : Tab) (g_rd : Int32) (g_tu : Int32) (g_la : Int32) (g_dl : Bool) (g_sh : Int32) (g_tb : Int32) (z_ft : Tab) (z_er : Tab) (z_eb : Int32) (z_li : Tab) (z_st : Tab) (z_rd : Int32) (z_tu : Int32) (z_la : Int32) (z_dl : Bool) (z_sh : Int32) (z_tb : Int32) (yc : Int32) (yp : (Nat → Nat)) (yg : (Nat → GV)) (tx : Tab) (cm : Tab) (ol : Nat → Int64) (p1 : Int32) (out : String ⊕ (Int32 × Tab × Tab × Int32 × Tab × Tab × Int32 × Int32 × Int32 × Bool × Int32 × Int32)) (hf : fX5_goneAfter fu g_ft g_er g_eb g_li g_st g_rd g_tu g_la g_dl g_sh g_tb z_ft z_er z_eb z_li z_st z_rd z_tu z_la z_dl z_sh z_tb p1 = some out) (hE : ∀ E, out = .inl E → E = "java/lang/IndexOutOfBoundsException") : LI l G (tyl cI cG cL) yL_goneAfter wsL_goneAfter ({ frames := 8, cells := 1, slots := 6, locals := 219 } : Room) [.ref (a 0), .int p1, .ref o] (([[((a 0), .inr (8, [.ref (a 1), .ref (a 11), .ref (a 21), .ref (a 63)]))], wG cI (a 1) (a 2) (a 3) (a 4) (a 5) (a 6) (a 7) (a 8) (a 9) (a 10) g_ft g_er g_eb g_li g_st g_rd g_tu g_la g_dl g_sh g_tb, wG cI (a 11) (a 12) (a 13) (a 14) (a 15) (a 16) (a 17) (a 18) (a 19) (a 20) z_ft z_er z_eb z_li z_st z_rd z_tu z_la z_dl z_sh z_tb, wH cI cG (fun i => a (21 + i)) yc yp yg, wS cI (a 63) (a 64) (a 65) (a 66) (a 67) tx cm, [(o, .inl (cL, 1, .inr (.inl ol)))]] : List va_W).flatten) (out.elim (fun E => if E = "java/lang/IndexOutOfBoundsException" then 1 else 0) (fun _ => 0)) (out.elim (fun _ => ([[((a 0), .inr (8, [.ref (a 1), .ref (a 11), .ref (a 21), .ref (a 63)]))], wG cI (a 1) (a 2) (a 3) (a 4) (a 5) (a 6) (a 7) (a 8) (a 9) (a 10) g_ft g_er g_eb g_li g_st g_rd g_tu g_la g_dl g_sh g_tb, wG cI (a 11) (a 12) (a 13) (a 14) (a 15) (a 16) (a 17) (a 18) (a 19) (a 20) z_ft z_er z_eb z_li z_st z_rd z_tu z_la z_dl z_sh z_tb, wH cI cG (fun i => a (21 + i)) yc yp yg, wS cI (a 63) (a 64) (a 65) (a 66) (a 67) tx cm, [(o, .inl (cL, 1, .inr (.inl ol)))]] : List va_W).flatten) (fun u : Int32 × Tab × Tab × Int32 × Tab × Tab × Int32 × Int32 × Int32 × Bool × Int32 × Int32 => ([[((a 0), .inr (8, [.ref (a 1), .ref (a 11), .ref (a 21), .ref (a 63)]))], wG cI (a 1) (a 2) (a 3) (a 4) (a 5) (a 6) (a 7) (a 8) (a 9) (a 10) g_ft g_er g_eb g_li g_st g_rd g_tu g_la g_dl g_sh g_tb, wG cI (a 11) (a 12) (a 13) (a 14) (a 15) (a 16) (a 17) (a 18) (a 19) (a 20) u.2.1 u.2.2.1 u.2.2.2.1 u.2.2.2.2.1 u.2.2.2.2.2.1 u.2.2.2.2.2.2.1 u.2.2.2.2.2.2.2.1 u.2.2.2.2.2.2.2.2.1 u.2.2.2.2.2.2.2.2.2.1 u.2.2.2.2.2.2.2.2.2.2.1 u.2.2.2.2.2.2.2.2.2.2.2, wH cI cG (fun i => a (21 + i)) yc yp yg, wS cI (a 63) (a 64) (a 65) (a 66) (a 67) tx cm, [(o, .inl (cL, 1, .inr (.inl (vp_updL ol (0 : Int32).toNatClampNeg (u.1 : Int32).toInt64))))]] : List va_W).flatten)) 1 6 := by
  intro sz
  apply met_of_vx
  refine vx_ofWH (cc := cL_goneAfter) (maxL := 4) (ret := (some .int)) (by decide) rfl ?_
  intro p e s m args below meth c s₁ B hml hv
  obtain ⟨rfl, ⟨hsz, hP, hK, hD0⟩, hX, hZ, hN⟩ := hv
  have hx := B.exec
  have hb := B.bytes
  have hr := B.returns
  have hts := atoms_spec (ws := wsL_goneAfter) B.pre
  have hown : s.vm.findClass RL = some m.cls := findClass_of_methodNamed B.named
  have hlocks := B.notSynchronized
  have hTb : c.exceptionTable.toList = tableOf [(0, 9, 12, 20)] := vx_table (x := yL_goneAfter) B (hts _ List.mem_cons_self)
  subst hsz
  have hD := hD0.self (sz := s.heap.size)
  generalize hAe : va_A (([[((a 0), .inr (8, [.ref (a 1), .ref (a 11), .ref (a 21), .ref (a 63)]))], wG cI (a 1) (a 2) (a 3) (a 4) (a 5) (a 6) (a 7) (a 8) (a 9) (a 10) g_ft g_er g_eb g_li g_st g_rd g_tu g_la g_dl g_sh g_tb, wG cI (a 11) (a 12) (a 13) (a 14) (a 15) (a 16) (a 17) (a 18) (a 19) (a 20) z_ft z_er z_eb z_li z_st z_rd z_tu z_la z_dl z_sh z_tb, wH cI cG (fun i => a (21 + i)) yc yp yg, wS cI (a 63) (a 64) (a 65) (a 66) (a 67) tx cm, [(o, .inl (cL, 1, .inr (.inl ol)))]] : List va_W).flatten) s.heap.size = A at hD hZ ⊢
  have hA : ∀ q : Nat, s.heap.size ≤ q → A q := fun q h => by rw [← hAe]; exact Or.inr h
  have hS : va_S A s.heap s.heap [] := va_S.rf
  have hw0 := hts (.classLink RL 20 "java/lang/IndexOutOfBoundsException") (List.mem_of_getElem? (i := 1) rfl)
  show W p l e ({ frames := 8, cells := 1, slots := 6, locals := 219 } : Room) s m _ below meth c s.heap [] 0 0 _ _
  refine W_genQ (fun Q hQ => ?_)
  have hl := lv_entry ([.ref (a 0), .int p1, .ref o]) (n := 4) (Nat.le_of_ble_eq_true rfl)
  rw [lg_entry_eq]
  generalize (lg_sl ([.ref (a 0), .int p1, .ref o]) ++ List.replicate (4 - (lg_sl ([.ref (a 0), .int p1, .ref o])).length) Slot.unset).toArray = ls at hl ⊢
  have hl : lv_has ls 4 [(0, .ref (a 0)), (1, .int p1), (2, .ref o)] := hl
  refine lv_aload_n hx hb dL_goneAfter_0 rfl (lv_at hl 2 rfl) ?_
  refine lv_iconst (v := 0) hx hb dL_goneAfter_1 (by decide) ?_
  refine lv_aload_n hx hb dL_goneAfter_2 rfl (lv_at hl 0 rfl) ?_
  refine lv_iload_n hx hb dL_goneAfter_3 rfl (lv_at hl 1 rfl) ?_
  refine xcall_iV (As := [.int p1]) (rest := [.int 0, .ref o]) (c0 := [[((a 0), .inr (8, [.ref (a 1), .ref (a 11), .ref (a 21), .ref (a 63)]))], wG cI (a 1) (a 2) (a 3) (a 4) (a 5) (a 6) (a 7) (a 8) (a 9) (a 10) g_ft g_er g_eb g_li g_st g_rd g_tu g_la g_dl g_sh g_tb, wG cI (a 11) (a 12) (a 13) (a 14) (a 15) (a 16) (a 17) (a 18) (a 19) (a 20) z_ft z_er z_eb z_li z_st z_rd z_tu z_la z_dl z_sh z_tb, wH cI cG (fun i => a (21 + i)) yc yp yg, wS cI (a 63) (a 64) (a 65) (a 66) (a 67) tx cm]) ⟨hx, hb, hml, hown, hts⟩ (cX5_goneAfter_ok l hlf G cI cG a fu g_ft g_er g_eb g_li g_st g_rd g_tu g_la g_dl g_sh g_tb z_ft z_er z_eb z_li z_st z_rd z_tu z_la z_dl z_sh z_tb yc yp yg tx cm p1 out hf) (cwV 1 hts gL_goneAfter_X5_goneAfter rfl rfl rfl hdX5_goneAfter ⟨Nat.le_of_ble_eq_true rfl, Nat.le_of_ble_eq_true rfl⟩) hP hD hS hA (tyl_z hK) hX hZ 8 rfl rfl rfl [0, 1, 2, 3, 4] rfl rfl rfl rfl rfl (fun u : Int32 × Tab × Tab × Int32 × Tab × Tab × Int32 × Int32 × Int32 × Bool × Int32 × Int32 => [[((a 0), .inr (8, [.ref (a 1), .ref (a 11), .ref (a 21), .ref (a 63)]))], wG cI (a 1) (a 2) (a 3) (a 4) (a 5) (a 6) (a 7) (a 8) (a 9) (a 10) g_ft g_er g_eb g_li g_st g_rd g_tu g_la g_dl g_sh g_tb, wG cI (a 11) (a 12) (a 13) (a 14) (a 15) (a 16) (a 17) (a 18) (a 19) (a 20) u.2.1 u.2.2.1 u.2.2.2.1 u.2.2.2.2.1 u.2.2.2.2.2.1 u.2.2.2.2.2.2.1 u.2.2.2.2.2.2.2.1 u.2.2.2.2.2.2.2.2.1 u.2.2.2.2.2.2.2.2.2.1 u.2.2.2.2.2.2.2.2.2.2.1 u.2.2.2.2.2.2.2.2.2.2.2, wH cI cG (fun i => a (21 + i)) yc yp yg, wS cI (a 63) (a 64) (a 65) (a 66) (a 67) tx cm]) (fun u : Int32 × Tab × Tab × Int32 × Tab × Tab × Int32 × Int32 × Int32 × Bool × Int32 × Int32 => [[((a 0), .inr (8, [.ref (a 1), .ref (a 11), .ref (a 21), .ref (a 63)]))], wG cI (a 1) (a 2) (a 3) (a 4) (a 5) (a 6) (a 7) (a 8) (a 9) (a 10) g_ft g_er g_eb g_li g_st g_rd g_tu g_la g_dl g_sh g_tb, wG cI (a 11) (a 12) (a 13) (a 14) (a 15) (a 16) (a 17) (a 18) (a 19) (a 20) u.2.1 u.2.2.1 u.2.2.2.1 u.2.2.2.2.1 u.2.2.2.2.2.1 u.2.2.2.2.2.2.1 u.2.2.2.2.2.2.2.1 u.2.2.2.2.2.2.2.2.1 u.2.2.2.2.2.2.2.2.2.1 u.2.2.2.2.2.2.2.2.2.2.1 u.2.2.2.2.2.2.2.2.2.2.2, wH cI cG (fun i => a (21 + i)) yc yp yg, wS cI (a 63) (a 64) (a 65) (a 66) (a 67) tx cm, [(o, .inl (cL, 1, .inr (.inl ol)))]]) (fun _ => rfl) (fun _ => rfl) (fun _ => rfl) (fun _ => rfl) rfl rfl hl.1 (Nat.le_of_ble_eq_true rfl) dL_goneAfter_4 ⟨Nat.le_of_ble_eq_true rfl, Nat.le_of_ble_eq_true rfl⟩ (fun E H locs ce q9 ho hP hD hS hcell hv hcl => ?_) (fun u H locs ho hP hD hS => ?_)
  · obtain rfl := hE E ho
    subst ho
    refine vx_catch hown [] ⟨0, 9, 12, 20⟩ [] hTb (fun z hz => by cases hz) (by decide) (by decide) hw0 (va_Nw.use rfl hX.1.2.2.1) hcell hv hcl ?_
    refine lv_astore_n (lv' := [(3, .ref q9), (0, .ref (a 0)), (1, .int p1), (2, .ref o)]) hx hb dL_goneAfter_12 rfl hl (by decide) rfl (fun ls hl => ?_)
    refine lv_iconst (v := 1) hx hb dL_goneAfter_13 (by decide) ?_
    rw [hQ]
    exact lend_i hx hb hr (by decide) hP hD hS dL_goneAfter_14 hlocks (Nat.le_of_ble_eq_true rfl) (Nat.le_of_ble_eq_true rfl)
  · subst ho
    refine lv_i2l (v := (u.1 : Int32).toInt64) hx hb dL_goneAfter_7 rfl ?_
    refine va_last hx hb hK.1 hP hD hS 68 2 rfl rfl (show ¬ ((0 : Int32) < 0 ∨ 1 ≤ (0 : Int32).toNatClampNeg) from by decide) dL_goneAfter_8 (fun H locs hP hD hS => ?_)
    have hP : va_P G vwCl (([[((a 0), .inr (8, [.ref (a 1), .ref (a 11), .ref (a 21), .ref (a 63)]))], wG cI (a 1) (a 2) (a 3) (a 4) (a 5) (a 6) (a 7) (a 8) (a 9) (a 10) g_ft g_er g_eb g_li g_st g_rd g_tu g_la g_dl g_sh g_tb, wG cI (a 11) (a 12) (a 13) (a 14) (a 15) (a 16) (a 17) (a 18) (a 19) (a 20) u.2.1 u.2.2.1 u.2.2.2.1 u.2.2.2.2.1 u.2.2.2.2.2.1 u.2.2.2.2.2.2.1 u.2.2.2.2.2.2.2.1 u.2.2.2.2.2.2.2.2.1 u.2.2.2.2.2.2.2.2.2.1 u.2.2.2.2.2.2.2.2.2.2.1 u.2.2.2.2.2.2.2.2.2.2.2, wH cI cG (fun i => a (21 + i)) yc yp yg, wS cI (a 63) (a 64) (a 65) (a 66) (a 67) tx cm, [(o, .inl (cL, 1, .inr (.inl (vp_updL ol (0 : Int32).toNatClampNeg (u.1 : Int32).toInt64))))]] : List va_W).flatten) H := hP
    have hD : va_D A (([[((a 0), .inr (8, [.ref (a 1), .ref (a 11), .ref (a 21), .ref (a 63)]))], wG cI (a 1) (a 2) (a 3) (a 4) (a 5) (a 6) (a 7) (a 8) (a 9) (a 10) g_ft g_er g_eb g_li g_st g_rd g_tu g_la g_dl g_sh g_tb, wG cI (a 11) (a 12) (a 13) (a 14) (a 15) (a 16) (a 17) (a 18) (a 19) (a 20) u.2.1 u.2.2.1 u.2.2.2.1 u.2.2.2.2.1 u.2.2.2.2.2.1 u.2.2.2.2.2.2.1 u.2.2.2.2.2.2.2.1 u.2.2.2.2.2.2.2.2.1 u.2.2.2.2.2.2.2.2.2.1 u.2.2.2.2.2.2.2.2.2.2.1 u.2.2.2.2.2.2.2.2.2.2.2, wH cI cG (fun i => a (21 + i)) yc yp yg, wS cI (a 63) (a 64) (a 65) (a 66) (a 67) tx cm, [(o, .inl (cL, 1, .inr (.inl (vp_updL ol (0 : Int32).toNatClampNeg (u.1 : Int32).toInt64))))]] : List va_W).flatten) := hD
    refine lv_goto (tgt := 15) hx hb dL_goneAfter_9 (by decide) ?_
    refine lv_iconst (v := 0) hx hb dL_goneAfter_15 (by decide) ?_
    rw [hQ]
    exact lend_i hx hb hr rfl hP hD hS dL_goneAfter_16 hlocks (Nat.le_of_ble_eq_true rfl) (Nat.le_of_ble_eq_true rfl)
theorem hdL_append : yL_append.cls ≠ "java/lang/invoke/MethodHandle" ∧ yL_append.cls ≠ "java/lang/invoke/VarHandle" ∧ (parseMethodDescriptor yL_append.desc).map (fun d => d.parameters.length) = some 3 := by decide +kernel
set_option maxHeartbeats 4000000 in
set_option maxRecDepth 100000 in
theorem cL_append_ok (l : Launch) (hlf : l.stackTraces = false) (G : va_G) (cI cG cL : ClassId) (a : Nat → Nat) (o : Nat) (fu : Nat) (g_ft : Tab) (g_er : Tab) (g_eb : Int32) (g_li : Tab) (g_st : Tab) (g_rd : Int32) (g_tu : Int32) (g_la : Int32) (g_dl : Bool) (g_sh : Int32) (g_tb : Int32) (z_ft : Tab) (z_er : Tab) (z_eb : Int32) (z_li : Tab) (z_st : Tab) (z_rd : Int32) (z_tu : Int32) (z_la : Int32) (z_dl : Bool) (z_sh : Int32) (z_tb : Int32) (yc : Int32) (yp : (Nat → Nat)) (yg : (Nat → GV)) (tx : Tab) (cm : Tab) (ol : Nat → Int64) (p1 : Int32) (out : String ⊕ (Int32 × Tab)) (hf : fX5_append fu tx p1 = some out) (hE : ∀ E, out = .inl E → E = "java/lang/IllegalArgumentException" ∨ E = "java/lang/IllegalStateException") : LI l G (tyl cI cG cL) yL_append wsL_append ({ frames := 8, cells := 2, slots := 12, locals := 143 } : Room) [.ref (a 0), .int p1, .ref o] (([[((a 0), .inr (8, [.ref (a 1), .ref (a 11), .ref (a 21), .ref (a 63)]))], wG cI (a 1) (a 2) (a 3) (a 4) (a 5) (a 6) (a 7) (a 8) (a 9) (a 10) g_ft g_er g_eb g_li g_st g_rd g_tu g_la g_dl g_sh g_tb, wG cI (a 11) (a 12) (a 13) (a 14) (a 15) (a 16) (a 17) (a 18) (a 19) (a 20) z_ft z_er z_eb z_li z_st z_rd z_tu z_la z_dl z_sh z_tb, wH cI cG (fun i => a (21 + i)) yc yp yg, wS cI (a 63) (a 64) (a 65) (a 66) (a 67) tx cm, [(o, .inl (cL, 1, .inr (.inl ol)))]] : List va_W).flatten) (out.elim (fun E => if E = "java/lang/IllegalArgumentException" then 1 else if E = "java/lang/IllegalStateException" then 2 else 0) (fun _ => 0)) (out.elim (fun _ => ([[((a 0), .inr (8, [.ref (a 1), .ref (a 11), .ref (a 21), .ref (a 63)]))], wG cI (a 1) (a 2) (a 3) (a 4) (a 5) (a 6) (a 7) (a 8) (a 9) (a 10) g_ft g_er g_eb g_li g_st g_rd g_tu g_la g_dl g_sh g_tb, wG cI (a 11) (a 12) (a 13) (a 14) (a 15) (a 16) (a 17) (a 18) (a 19) (a 20) z_ft z_er z_eb z_li z_st z_rd z_tu z_la z_dl z_sh z_tb, wH cI cG (fun i => a (21 + i)) yc yp yg, wS cI (a 63) (a 64) (a 65) (a 66) (a 67) tx cm, [(o, .inl (cL, 1, .inr (.inl ol)))]] : List va_W).flatten) (fun u : Int32 × Tab => ([[((a 0), .inr (8, [.ref (a 1), .ref (a 11), .ref (a 21), .ref (a 63)]))], wG cI (a 1) (a 2) (a 3) (a 4) (a 5) (a 6) (a 7) (a 8) (a 9) (a 10) g_ft g_er g_eb g_li g_st g_rd g_tu g_la g_dl g_sh g_tb, wG cI (a 11) (a 12) (a 13) (a 14) (a 15) (a 16) (a 17) (a 18) (a 19) (a 20) z_ft z_er z_eb z_li z_st z_rd z_tu z_la z_dl z_sh z_tb, wH cI cG (fun i => a (21 + i)) yc yp yg, wS cI (a 63) (a 64) (a 65) (a 66) (a 67) u.2 cm, [(o, .inl (cL, 1, .inr (.inl (vp_updL ol (0 : Int32).toNatClampNeg (u.1 : Int32).toInt64))))]] : List va_W).flatten)) 2 12 := by
  intro sz
  apply met_of_vx
  refine vx_ofWH (cc := cL_append) (maxL := 4) (ret := (some .int)) (by decide) rfl ?_
  intro p e s m args below meth c s₁ B hml hv
  obtain ⟨rfl, ⟨hsz, hP, hK, hD0⟩, hX, hZ, hN⟩ := hv
  have hx := B.exec
  have hb := B.bytes
  have hr := B.returns
  have hts := atoms_spec (ws := wsL_append) B.pre
  have hown : s.vm.findClass RL = some m.cls := findClass_of_methodNamed B.named
  have hlocks := B.notSynchronized
  have hTb : c.exceptionTable.toList = tableOf [(0, 9, 12, 13), (0, 9, 15, 15)] := vx_table (x := yL_append) B (hts _ List.mem_cons_self)
  subst hsz
  have hD := hD0.self (sz := s.heap.size)
  generalize hAe : va_A (([[((a 0), .inr (8, [.ref (a 1), .ref (a 11), .ref (a 21), .ref (a 63)]))], wG cI (a 1) (a 2) (a 3) (a 4) (a 5) (a 6) (a 7) (a 8) (a 9) (a 10) g_ft g_er g_eb g_li g_st g_rd g_tu g_la g_dl g_sh g_tb, wG cI (a 11) (a 12) (a 13) (a 14) (a 15) (a 16) (a 17) (a 18) (a 19) (a 20) z_ft z_er z_eb z_li z_st z_rd z_tu z_la z_dl z_sh z_tb, wH cI cG (fun i => a (21 + i)) yc yp yg, wS cI (a 63) (a 64) (a 65) (a 66) (a 67) tx cm, [(o, .inl (cL, 1, .inr (.inl ol)))]] : List va_W).flatten) s.heap.size = A at hD hZ ⊢
  have hA : ∀ q : Nat, s.heap.size ≤ q → A q := fun q h => by rw [← hAe]; exact Or.inr h
  have hS : va_S A s.heap s.heap [] := va_S.rf
  have hw0 := hts (.classLink RL 13 "java/lang/IllegalArgumentException") (List.mem_of_getElem? (i := 1) rfl)
  have hw1 := hts (.classLink RL 15 "java/lang/IllegalStateException") (List.mem_of_getElem? (i := 2) rfl)
  show W p l e ({ frames := 8, cells := 2, slots := 12, locals := 143 } : Room) s m _ below meth c s.heap [] 0 0 _ _
  refine W_genQ (fun Q hQ => ?_)
  have hl := lv_entry ([.ref (a 0), .int p1, .ref o]) (n := 4) (Nat.le_of_ble_eq_true rfl)
  rw [lg_entry_eq]
  generalize (lg_sl ([.ref (a 0), .int p1, .ref o]) ++ List.replicate (4 - (lg_sl ([.ref (a 0), .int p1, .ref o])).length) Slot.unset).toArray = ls at hl ⊢
  have hl : lv_has ls 4 [(0, .ref (a 0)), (1, .int p1), (2, .ref o)] := hl
  refine lv_aload_n hx hb dL_append_0 rfl (lv_at hl 2 rfl) ?_
  refine lv_iconst (v := 0) hx hb dL_append_1 (by decide) ?_
  refine lv_aload_n hx hb dL_append_2 rfl (lv_at hl 0 rfl) ?_
  refine lv_iload_n hx hb dL_append_3 rfl (lv_at hl 1 rfl) ?_
  refine xcall_iV (As := [.int p1]) (rest := [.int 0, .ref o]) (c0 := [[((a 0), .inr (8, [.ref (a 1), .ref (a 11), .ref (a 21), .ref (a 63)]))], wG cI (a 1) (a 2) (a 3) (a 4) (a 5) (a 6) (a 7) (a 8) (a 9) (a 10) g_ft g_er g_eb g_li g_st g_rd g_tu g_la g_dl g_sh g_tb, wG cI (a 11) (a 12) (a 13) (a 14) (a 15) (a 16) (a 17) (a 18) (a 19) (a 20) z_ft z_er z_eb z_li z_st z_rd z_tu z_la z_dl z_sh z_tb, wH cI cG (fun i => a (21 + i)) yc yp yg, wS cI (a 63) (a 64) (a 65) (a 66) (a 67) tx cm]) ⟨hx, hb, hml, hown, hts⟩ (cX5_append_ok l hlf G cI cG a fu g_ft g_er g_eb g_li g_st g_rd g_tu g_la g_dl g_sh g_tb z_ft z_er z_eb z_li z_st z_rd z_tu z_la z_dl z_sh z_tb yc yp yg tx cm p1 out hf) (cwV 1 hts gL_append_X5_append rfl rfl rfl hdX5_append ⟨Nat.le_of_ble_eq_true rfl, Nat.le_of_ble_eq_true rfl⟩) hP hD hS hA (tyl_z hK) hX hZ 8 rfl rfl rfl [0, 1, 2, 3, 4] rfl rfl rfl rfl rfl (fun u : Int32 × Tab => [[((a 0), .inr (8, [.ref (a 1), .ref (a 11), .ref (a 21), .ref (a 63)]))], wG cI (a 1) (a 2) (a 3) (a 4) (a 5) (a 6) (a 7) (a 8) (a 9) (a 10) g_ft g_er g_eb g_li g_st g_rd g_tu g_la g_dl g_sh g_tb, wG cI (a 11) (a 12) (a 13) (a 14) (a 15) (a 16) (a 17) (a 18) (a 19) (a 20) z_ft z_er z_eb z_li z_st z_rd z_tu z_la z_dl z_sh z_tb, wH cI cG (fun i => a (21 + i)) yc yp yg, wS cI (a 63) (a 64) (a 65) (a 66) (a 67) u.2 cm]) (fun u : Int32 × Tab => [[((a 0), .inr (8, [.ref (a 1), .ref (a 11), .ref (a 21), .ref (a 63)]))], wG cI (a 1) (a 2) (a 3) (a 4) (a 5) (a 6) (a 7) (a 8) (a 9) (a 10) g_ft g_er g_eb g_li g_st g_rd g_tu g_la g_dl g_sh g_tb, wG cI (a 11) (a 12) (a 13) (a 14) (a 15) (a 16) (a 17) (a 18) (a 19) (a 20) z_ft z_er z_eb z_li z_st z_rd z_tu z_la z_dl z_sh z_tb, wH cI cG (fun i => a (21 + i)) yc yp yg, wS cI (a 63) (a 64) (a 65) (a 66) (a 67) u.2 cm, [(o, .inl (cL, 1, .inr (.inl ol)))]]) (fun _ => rfl) (fun _ => rfl) (fun _ => rfl) (fun _ => rfl) rfl rfl hl.1 (Nat.le_of_ble_eq_true rfl) dL_append_4 ⟨Nat.le_of_ble_eq_true rfl, Nat.le_of_ble_eq_true rfl⟩ (fun E H locs ce q9 ho hP hD hS hcell hv hcl => ?_) (fun u H locs ho hP hD hS => ?_)
  · rcases hE E ho with rfl | rfl
    · subst ho
      refine vx_catch hown [] ⟨0, 9, 12, 13⟩ [⟨0, 9, 15, 15⟩] hTb (fun z hz => by cases hz) (by decide) (by decide) hw0 (va_Nw.use rfl hX.1.1) hcell hv hcl ?_
      refine lv_astore_n (lv' := [(3, .ref q9), (0, .ref (a 0)), (1, .int p1), (2, .ref o)]) hx hb dL_append_12 rfl hl (by decide) rfl (fun ls hl => ?_)
      refine lv_iconst (v := 1) hx hb dL_append_13 (by decide) ?_
      rw [hQ]
      exact lend_i hx hb hr (by decide) hP hD hS dL_append_14 hlocks (Nat.le_of_ble_eq_true rfl) (Nat.le_of_ble_eq_true rfl)
    · subst ho
      refine vx_catch hown [⟨0, 9, 12, 13⟩] ⟨0, 9, 15, 15⟩ [] hTb (pre1 (Or.inr ⟨by decide, "java/lang/IllegalArgumentException", hw0, hN.2.2.1⟩)) (by decide) (by decide) hw1 (va_Nw.use rfl hX.1.2.1) hcell hv hcl ?_
      refine lv_astore_n (lv' := [(3, .ref q9), (0, .ref (a 0)), (1, .int p1), (2, .ref o)]) hx hb dL_append_15 rfl hl (by decide) rfl (fun ls hl => ?_)
      refine lv_iconst (v := 2) hx hb dL_append_16 (by decide) ?_
      rw [hQ]
      exact lend_i hx hb hr (by decide) hP hD hS dL_append_17 hlocks (Nat.le_of_ble_eq_true rfl) (Nat.le_of_ble_eq_true rfl)
  · subst ho
    refine lv_i2l (v := (u.1 : Int32).toInt64) hx hb dL_append_7 rfl ?_
    refine va_last hx hb hK.1 hP hD hS 68 2 rfl rfl (show ¬ ((0 : Int32) < 0 ∨ 1 ≤ (0 : Int32).toNatClampNeg) from by decide) dL_append_8 (fun H locs hP hD hS => ?_)
    have hP : va_P G vwCl (([[((a 0), .inr (8, [.ref (a 1), .ref (a 11), .ref (a 21), .ref (a 63)]))], wG cI (a 1) (a 2) (a 3) (a 4) (a 5) (a 6) (a 7) (a 8) (a 9) (a 10) g_ft g_er g_eb g_li g_st g_rd g_tu g_la g_dl g_sh g_tb, wG cI (a 11) (a 12) (a 13) (a 14) (a 15) (a 16) (a 17) (a 18) (a 19) (a 20) z_ft z_er z_eb z_li z_st z_rd z_tu z_la z_dl z_sh z_tb, wH cI cG (fun i => a (21 + i)) yc yp yg, wS cI (a 63) (a 64) (a 65) (a 66) (a 67) u.2 cm, [(o, .inl (cL, 1, .inr (.inl (vp_updL ol (0 : Int32).toNatClampNeg (u.1 : Int32).toInt64))))]] : List va_W).flatten) H := hP
    have hD : va_D A (([[((a 0), .inr (8, [.ref (a 1), .ref (a 11), .ref (a 21), .ref (a 63)]))], wG cI (a 1) (a 2) (a 3) (a 4) (a 5) (a 6) (a 7) (a 8) (a 9) (a 10) g_ft g_er g_eb g_li g_st g_rd g_tu g_la g_dl g_sh g_tb, wG cI (a 11) (a 12) (a 13) (a 14) (a 15) (a 16) (a 17) (a 18) (a 19) (a 20) z_ft z_er z_eb z_li z_st z_rd z_tu z_la z_dl z_sh z_tb, wH cI cG (fun i => a (21 + i)) yc yp yg, wS cI (a 63) (a 64) (a 65) (a 66) (a 67) u.2 cm, [(o, .inl (cL, 1, .inr (.inl (vp_updL ol (0 : Int32).toNatClampNeg (u.1 : Int32).toInt64))))]] : List va_W).flatten) := hD
    refine lv_goto (tgt := 18) hx hb dL_append_9 (by decide) ?_
    refine lv_iconst (v := 0) hx hb dL_append_18 (by decide) ?_
    rw [hQ]
    exact lend_i hx hb hr rfl hP hD hS dL_append_19 hlocks (Nat.le_of_ble_eq_true rfl) (Nat.le_of_ble_eq_true rfl)
theorem hdL_undo : yL_undo.cls ≠ "java/lang/invoke/MethodHandle" ∧ yL_undo.cls ≠ "java/lang/invoke/VarHandle" ∧ (parseMethodDescriptor yL_undo.desc).map (fun d => d.parameters.length) = some 2 := by decide +kernel
set_option maxHeartbeats 4000000 in
set_option maxRecDepth 100000 in
theorem cL_undo_ok (l : Launch) (hlf : l.stackTraces = false) (G : va_G) (cI cG cL : ClassId) (a : Nat → Nat) (o : Nat) (g_ft : Tab) (g_er : Tab) (g_eb : Int32) (g_li : Tab) (g_st : Tab) (g_rd : Int32) (g_tu : Int32) (g_la : Int32) (g_dl : Bool) (g_sh : Int32) (g_tb : Int32) (z_ft : Tab) (z_er : Tab) (z_eb : Int32) (z_li : Tab) (z_st : Tab) (z_rd : Int32) (z_tu : Int32) (z_la : Int32) (z_dl : Bool) (z_sh : Int32) (z_tb : Int32) (yc : Int32) (yp : (Nat → Nat)) (yg : (Nat → GV)) (tx : Tab) (cm : Tab) (ol : Nat → Int64)  (out : String ⊕ (Int32 × Tab × Tab × Int32 × Tab × Tab × Int32 × Int32 × Int32 × Bool × Int32 × Int32 × Int32)) (hf : fX5_undo g_ft g_er g_eb g_li g_st g_rd g_tu g_la g_dl g_sh g_tb yc yp yg = some out) (hE : ∀ E, out = .inl E → E = "java/lang/IllegalStateException") : LI l G (tyl cI cG cL) yL_undo wsL_undo ({ frames := 8, cells := 1, slots := 6, locals := 165 } : Room) [.ref (a 0), .ref o] (([[((a 0), .inr (8, [.ref (a 1), .ref (a 11), .ref (a 21), .ref (a 63)]))], wG cI (a 1) (a 2) (a 3) (a 4) (a 5) (a 6) (a 7) (a 8) (a 9) (a 10) g_ft g_er g_eb g_li g_st g_rd g_tu g_la g_dl g_sh g_tb, wG cI (a 11) (a 12) (a 13) (a 14) (a 15) (a 16) (a 17) (a 18) (a 19) (a 20) z_ft z_er z_eb z_li z_st z_rd z_tu z_la z_dl z_sh z_tb, wH cI cG (fun i => a (21 + i)) yc yp yg, wS cI (a 63) (a 64) (a 65) (a 66) (a 67) tx cm, [(o, .inl (cL, 1, .inr (.inl ol)))]] : List va_W).flatten) (out.elim (fun E => if E = "java/lang/IllegalStateException" then 1 else 0) (fun _ => 0)) (out.elim (fun _ => ([[((a 0), .inr (8, [.ref (a 1), .ref (a 11), .ref (a 21), .ref (a 63)]))], wG cI (a 1) (a 2) (a 3) (a 4) (a 5) (a 6) (a 7) (a 8) (a 9) (a 10) g_ft g_er g_eb g_li g_st g_rd g_tu g_la g_dl g_sh g_tb, wG cI (a 11) (a 12) (a 13) (a 14) (a 15) (a 16) (a 17) (a 18) (a 19) (a 20) z_ft z_er z_eb z_li z_st z_rd z_tu z_la z_dl z_sh z_tb, wH cI cG (fun i => a (21 + i)) yc yp yg, wS cI (a 63) (a 64) (a 65) (a 66) (a 67) tx cm, [(o, .inl (cL, 1, .inr (.inl ol)))]] : List va_W).flatten) (fun u : Int32 × Tab × Tab × Int32 × Tab × Tab × Int32 × Int32 × Int32 × Bool × Int32 × Int32 × Int32 => ([[((a 0), .inr (8, [.ref (a 1), .ref (a 11), .ref (a 21), .ref (a 63)]))], wG cI (a 1) (a 2) (a 3) (a 4) (a 5) (a 6) (a 7) (a 8) (a 9) (a 10) u.2.1 u.2.2.1 u.2.2.2.1 u.2.2.2.2.1 u.2.2.2.2.2.1 u.2.2.2.2.2.2.1 u.2.2.2.2.2.2.2.1 u.2.2.2.2.2.2.2.2.1 u.2.2.2.2.2.2.2.2.2.1 u.2.2.2.2.2.2.2.2.2.2.1 u.2.2.2.2.2.2.2.2.2.2.2.1, wG cI (a 11) (a 12) (a 13) (a 14) (a 15) (a 16) (a 17) (a 18) (a 19) (a 20) z_ft z_er z_eb z_li z_st z_rd z_tu z_la z_dl z_sh z_tb, wH cI cG (fun i => a (21 + i)) u.2.2.2.2.2.2.2.2.2.2.2.2 yp yg, wS cI (a 63) (a 64) (a 65) (a 66) (a 67) tx cm, [(o, .inl (cL, 1, .inr (.inl (vp_updL ol (0 : Int32).toNatClampNeg (u.1 : Int32).toInt64))))]] : List va_W).flatten)) 1 6 := by
  intro sz
  apply met_of_vx
  refine vx_ofWH (cc := cL_undo) (maxL := 3) (ret := (some .int)) (by decide) rfl ?_
  intro p e s m args below meth c s₁ B hml hv
  obtain ⟨rfl, ⟨hsz, hP, hK, hD0⟩, hX, hZ, hN⟩ := hv
  have hx := B.exec
  have hb := B.bytes
  have hr := B.returns
  have hts := atoms_spec (ws := wsL_undo) B.pre
  have hown : s.vm.findClass RL = some m.cls := findClass_of_methodNamed B.named
  have hlocks := B.notSynchronized
  have hTb : c.exceptionTable.toList = tableOf [(0, 8, 11, 15)] := vx_table (x := yL_undo) B (hts _ List.mem_cons_self)
  subst hsz
  have hD := hD0.self (sz := s.heap.size)
  generalize hAe : va_A (([[((a 0), .inr (8, [.ref (a 1), .ref (a 11), .ref (a 21), .ref (a 63)]))], wG cI (a 1) (a 2) (a 3) (a 4) (a 5) (a 6) (a 7) (a 8) (a 9) (a 10) g_ft g_er g_eb g_li g_st g_rd g_tu g_la g_dl g_sh g_tb, wG cI (a 11) (a 12) (a 13) (a 14) (a 15) (a 16) (a 17) (a 18) (a 19) (a 20) z_ft z_er z_eb z_li z_st z_rd z_tu z_la z_dl z_sh z_tb, wH cI cG (fun i => a (21 + i)) yc yp yg, wS cI (a 63) (a 64) (a 65) (a 66) (a 67) tx cm, [(o, .inl (cL, 1, .inr (.inl ol)))]] : List va_W).flatten) s.heap.size = A at hD hZ ⊢
  have hA : ∀ q : Nat, s.heap.size ≤ q → A q := fun q h => by rw [← hAe]; exact Or.inr h
  have hS : va_S A s.heap s.heap [] := va_S.rf
  have hw0 := hts (.classLink RL 15 "java/lang/IllegalStateException") (List.mem_of_getElem? (i := 1) rfl)
  show W p l e ({ frames := 8, cells := 1, slots := 6, locals := 165 } : Room) s m _ below meth c s.heap [] 0 0 _ _
  refine W_genQ (fun Q hQ => ?_)
  have hl := lv_entry ([.ref (a 0), .ref o]) (n := 3) (Nat.le_of_ble_eq_true rfl)
  rw [lg_entry_eq]
  generalize (lg_sl ([.ref (a 0), .ref o]) ++ List.replicate (3 - (lg_sl ([.ref (a 0), .ref o])).length) Slot.unset).toArray = ls at hl ⊢
  have hl : lv_has ls 3 [(0, .ref (a 0)), (1, .ref o)] := hl
  refine lv_aload_n hx hb dL_undo_0 rfl (lv_at hl 1 rfl) ?_
  refine lv_iconst (v := 0) hx hb dL_undo_1 (by decide) ?_
  refine lv_aload_n hx hb dL_undo_2 rfl (lv_at hl 0 rfl) ?_
  refine xcall_iV (As := []) (rest := [.int 0, .ref o]) (c0 := [[((a 0), .inr (8, [.ref (a 1), .ref (a 11), .ref (a 21), .ref (a 63)]))], wG cI (a 1) (a 2) (a 3) (a 4) (a 5) (a 6) (a 7) (a 8) (a 9) (a 10) g_ft g_er g_eb g_li g_st g_rd g_tu g_la g_dl g_sh g_tb, wG cI (a 11) (a 12) (a 13) (a 14) (a 15) (a 16) (a 17) (a 18) (a 19) (a 20) z_ft z_er z_eb z_li z_st z_rd z_tu z_la z_dl z_sh z_tb, wH cI cG (fun i => a (21 + i)) yc yp yg, wS cI (a 63) (a 64) (a 65) (a 66) (a 67) tx cm]) ⟨hx, hb, hml, hown, hts⟩ (cX5_undo_ok l hlf G cI cG a g_ft g_er g_eb g_li g_st g_rd g_tu g_la g_dl g_sh g_tb z_ft z_er z_eb z_li z_st z_rd z_tu z_la z_dl z_sh z_tb yc yp yg tx cm out hf) (cwV 0 hts gL_undo_X5_undo rfl rfl rfl hdX5_undo ⟨Nat.le_of_ble_eq_true rfl, Nat.le_of_ble_eq_true rfl⟩) hP hD hS hA (tyl_z hK) hX hZ 8 rfl rfl rfl [0, 1, 2, 3, 4] rfl rfl rfl rfl rfl (fun u : Int32 × Tab × Tab × Int32 × Tab × Tab × Int32 × Int32 × Int32 × Bool × Int32 × Int32 × Int32 => [[((a 0), .inr (8, [.ref (a 1), .ref (a 11), .ref (a 21), .ref (a 63)]))], wG cI (a 1) (a 2) (a 3) (a 4) (a 5) (a 6) (a 7) (a 8) (a 9) (a 10) u.2.1 u.2.2.1 u.2.2.2.1 u.2.2.2.2.1 u.2.2.2.2.2.1 u.2.2.2.2.2.2.1 u.2.2.2.2.2.2.2.1 u.2.2.2.2.2.2.2.2.1 u.2.2.2.2.2.2.2.2.2.1 u.2.2.2.2.2.2.2.2.2.2.1 u.2.2.2.2.2.2.2.2.2.2.2.1, wG cI (a 11) (a 12) (a 13) (a 14) (a 15) (a 16) (a 17) (a 18) (a 19) (a 20) z_ft z_er z_eb z_li z_st z_rd z_tu z_la z_dl z_sh z_tb, wH cI cG (fun i => a (21 + i)) u.2.2.2.2.2.2.2.2.2.2.2.2 yp yg, wS cI (a 63) (a 64) (a 65) (a 66) (a 67) tx cm]) (fun u : Int32 × Tab × Tab × Int32 × Tab × Tab × Int32 × Int32 × Int32 × Bool × Int32 × Int32 × Int32 => [[((a 0), .inr (8, [.ref (a 1), .ref (a 11), .ref (a 21), .ref (a 63)]))], wG cI (a 1) (a 2) (a 3) (a 4) (a 5) (a 6) (a 7) (a 8) (a 9) (a 10) u.2.1 u.2.2.1 u.2.2.2.1 u.2.2.2.2.1 u.2.2.2.2.2.1 u.2.2.2.2.2.2.1 u.2.2.2.2.2.2.2.1 u.2.2.2.2.2.2.2.2.1 u.2.2.2.2.2.2.2.2.2.1 u.2.2.2.2.2.2.2.2.2.2.1 u.2.2.2.2.2.2.2.2.2.2.2.1, wG cI (a 11) (a 12) (a 13) (a 14) (a 15) (a 16) (a 17) (a 18) (a 19) (a 20) z_ft z_er z_eb z_li z_st z_rd z_tu z_la z_dl z_sh z_tb, wH cI cG (fun i => a (21 + i)) u.2.2.2.2.2.2.2.2.2.2.2.2 yp yg, wS cI (a 63) (a 64) (a 65) (a 66) (a 67) tx cm, [(o, .inl (cL, 1, .inr (.inl ol)))]]) (fun _ => rfl) (fun _ => rfl) (fun _ => rfl) (fun _ => rfl) rfl rfl hl.1 (Nat.le_of_ble_eq_true rfl) dL_undo_3 ⟨Nat.le_of_ble_eq_true rfl, Nat.le_of_ble_eq_true rfl⟩ (fun E H locs ce q9 ho hP hD hS hcell hv hcl => ?_) (fun u H locs ho hP hD hS => ?_)
  · obtain rfl := hE E ho
    subst ho
    refine vx_catch hown [] ⟨0, 8, 11, 15⟩ [] hTb (fun z hz => by cases hz) (by decide) (by decide) hw0 (va_Nw.use rfl hX.1.2.1) hcell hv hcl ?_
    refine lv_astore_n (lv' := [(2, .ref q9), (0, .ref (a 0)), (1, .ref o)]) hx hb dL_undo_11 rfl hl (by decide) rfl (fun ls hl => ?_)
    refine lv_iconst (v := 1) hx hb dL_undo_12 (by decide) ?_
    rw [hQ]
    exact lend_i hx hb hr (by decide) hP hD hS dL_undo_13 hlocks (Nat.le_of_ble_eq_true rfl) (Nat.le_of_ble_eq_true rfl)
  · subst ho
    refine lv_i2l (v := (u.1 : Int32).toInt64) hx hb dL_undo_6 rfl ?_
    refine va_last hx hb hK.1 hP hD hS 68 2 rfl rfl (show ¬ ((0 : Int32) < 0 ∨ 1 ≤ (0 : Int32).toNatClampNeg) from by decide) dL_undo_7 (fun H locs hP hD hS => ?_)
    have hP : va_P G vwCl (([[((a 0), .inr (8, [.ref (a 1), .ref (a 11), .ref (a 21), .ref (a 63)]))], wG cI (a 1) (a 2) (a 3) (a 4) (a 5) (a 6) (a 7) (a 8) (a 9) (a 10) u.2.1 u.2.2.1 u.2.2.2.1 u.2.2.2.2.1 u.2.2.2.2.2.1 u.2.2.2.2.2.2.1 u.2.2.2.2.2.2.2.1 u.2.2.2.2.2.2.2.2.1 u.2.2.2.2.2.2.2.2.2.1 u.2.2.2.2.2.2.2.2.2.2.1 u.2.2.2.2.2.2.2.2.2.2.2.1, wG cI (a 11) (a 12) (a 13) (a 14) (a 15) (a 16) (a 17) (a 18) (a 19) (a 20) z_ft z_er z_eb z_li z_st z_rd z_tu z_la z_dl z_sh z_tb, wH cI cG (fun i => a (21 + i)) u.2.2.2.2.2.2.2.2.2.2.2.2 yp yg, wS cI (a 63) (a 64) (a 65) (a 66) (a 67) tx cm, [(o, .inl (cL, 1, .inr (.inl (vp_updL ol (0 : Int32).toNatClampNeg (u.1 : Int32).toInt64))))]] : List va_W).flatten) H := hP
    have hD : va_D A (([[((a 0), .inr (8, [.ref (a 1), .ref (a 11), .ref (a 21), .ref (a 63)]))], wG cI (a 1) (a 2) (a 3) (a 4) (a 5) (a 6) (a 7) (a 8) (a 9) (a 10) u.2.1 u.2.2.1 u.2.2.2.1 u.2.2.2.2.1 u.2.2.2.2.2.1 u.2.2.2.2.2.2.1 u.2.2.2.2.2.2.2.1 u.2.2.2.2.2.2.2.2.1 u.2.2.2.2.2.2.2.2.2.1 u.2.2.2.2.2.2.2.2.2.2.1 u.2.2.2.2.2.2.2.2.2.2.2.1, wG cI (a 11) (a 12) (a 13) (a 14) (a 15) (a 16) (a 17) (a 18) (a 19) (a 20) z_ft z_er z_eb z_li z_st z_rd z_tu z_la z_dl z_sh z_tb, wH cI cG (fun i => a (21 + i)) u.2.2.2.2.2.2.2.2.2.2.2.2 yp yg, wS cI (a 63) (a 64) (a 65) (a 66) (a 67) tx cm, [(o, .inl (cL, 1, .inr (.inl (vp_updL ol (0 : Int32).toNatClampNeg (u.1 : Int32).toInt64))))]] : List va_W).flatten) := hD
    refine lv_goto (tgt := 14) hx hb dL_undo_8 (by decide) ?_
    refine lv_iconst (v := 0) hx hb dL_undo_14 (by decide) ?_
    rw [hQ]
    exact lend_i hx hb hr rfl hP hD hS dL_undo_15 hlocks (Nat.le_of_ble_eq_true rfl) (Nat.le_of_ble_eq_true rfl)
