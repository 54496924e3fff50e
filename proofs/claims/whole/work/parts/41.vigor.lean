abbrev CD (l : Launch) (G : va_G) (tys : List (ClassId × FieldType)) (y : MethodName) (ws : List Cond) (rm : Room) (av : List Value) (w0 : va_W) (r : UInt64) (w1 : va_W) : Prop :=
  ∀ sz : Nat, Met l y ws rm (va_Pc av (cPre G tys w0 sz)) (va_Qd (fun r' (_ : Unit) => r' = r) (cB G w1 (va_A w0 sz)) (va_A w0 sz)) 0 0 (va_A w0 sz)
theorem end_d {p : Program} {l : Launch} {e : Env} {R : Room} {s : State} {m : MethodId} {args : Array Value} {below : List Frame} {meth : Method} {c : Code} {H : Heap} {locs : List Loc} {pc : Nat} {ls : Array Slot} {cc : ByteArray} {G : va_G} {A : Nat → Prop} {v out : UInt64} {w1 : va_W} (hx : p.tables.exec = Jvm.exec) (hb : c.code = cc) (hr : meth.sig.returnType = some .double) (hv : v = out) (hP : va_P G vwCl w1 H) (hD : va_D A w1) (hS : va_S A s.heap H locs) (hdg : decode cc pc = .ok (.dreturn, 1)) (hlocks : meth.locks = false) :
    W p l e R s m args below meth c H locs 0 0 (MQ below (va_Qd (fun r' (_ : Unit) => r' = out) (cB G w1 A) A) args s 0 0 A) (F0 m pc ls [.double v]) :=
  W.dret hx hb hr (fun t ht hW => ⟨⟨v, (), rfl, hv, by rw [ht]; exact hP, hD⟩, hS.F ht⟩) hS.2.2 hdg hlocks
theorem hdX5_vigor : yX5_vigor.cls = RX5 ∧ yX5_vigor.cls ≠ "java/lang/invoke/MethodHandle" ∧ yX5_vigor.cls ≠ "java/lang/invoke/VarHandle" ∧ (parseMethodDescriptor yX5_vigor.desc).map (fun d => d.parameters.length) = some 0 := by decide +kernel
set_option maxHeartbeats 4000000 in
set_option maxRecDepth 100000 in
theorem cX5_vigor_ok (l : Launch) (G : va_G) (cI cG : ClassId) (a : Nat → Nat) (fu : Nat) (g_ft : Tab) (g_er : Tab) (g_eb : Int32) (g_li : Tab) (g_st : Tab) (g_rd : Int32) (g_tu : Int32) (g_la : Int32) (g_dl : Bool) (g_sh : Int32) (g_tb : Int32) (z_ft : Tab) (z_er : Tab) (z_eb : Int32) (z_li : Tab) (z_st : Tab) (z_rd : Int32) (z_tu : Int32) (z_la : Int32) (z_dl : Bool) (z_sh : Int32) (z_tb : Int32) (yc : Int32) (yp : (Nat → Nat)) (yg : (Nat → GV)) (tx : Tab) (cm : Tab) (out : UInt64) (hf : fX5_vigor fu g_ft = some out) : CD l G (tyz cI cG) yX5_vigor wsX5_vigor ({ frames := 3, cells := 0, slots := 0, locals := 66 } : Room) [.ref (a 0)] (([[((a 0), .inr (8, [.ref (a 1), .ref (a 11), .ref (a 21), .ref (a 63)]))], wG cI (a 1) (a 2) (a 3) (a 4) (a 5) (a 6) (a 7) (a 8) (a 9) (a 10) g_ft g_er g_eb g_li g_st g_rd g_tu g_la g_dl g_sh g_tb, wG cI (a 11) (a 12) (a 13) (a 14) (a 15) (a 16) (a 17) (a 18) (a 19) (a 20) z_ft z_er z_eb z_li z_st z_rd z_tu z_la z_dl z_sh z_tb, wH cI cG (fun i => a (21 + i)) yc yp yg, wS cI (a 63) (a 64) (a 65) (a 66) (a 67) tx cm] : List va_W).flatten) out (([[((a 0), .inr (8, [.ref (a 1), .ref (a 11), .ref (a 21), .ref (a 63)]))], wG cI (a 1) (a 2) (a 3) (a 4) (a 5) (a 6) (a 7) (a 8) (a 9) (a 10) g_ft g_er g_eb g_li g_st g_rd g_tu g_la g_dl g_sh g_tb, wG cI (a 11) (a 12) (a 13) (a 14) (a 15) (a 16) (a 17) (a 18) (a 19) (a 20) z_ft z_er z_eb z_li z_st z_rd z_tu z_la z_dl z_sh z_tb, wH cI cG (fun i => a (21 + i)) yc yp yg, wS cI (a 63) (a 64) (a 65) (a 66) (a 67) tx cm] : List va_W).flatten) := by
  intro sz
  refine Met.ofW (cc := cX5_vigor) (maxL := 3) (ret := (some .double)) (by decide) rfl ?_
  intro p e s m args below meth c s₁ B hml hv
  obtain ⟨rfl, hsz, hP, hK, hD0⟩ := hv
  have hx := B.exec
  have hb := B.bytes
  have hr := B.returns
  have hts := atoms_spec (ws := wsX5_vigor) B.pre
  have hown : s.vm.findClass RX5 = some m.cls := findClass_of_methodNamed B.named
  have hlocks := B.notSynchronized
  subst hsz
  have hD := hD0.self (sz := s.heap.size)
  generalize hAe : va_A (([[((a 0), .inr (8, [.ref (a 1), .ref (a 11), .ref (a 21), .ref (a 63)]))], wG cI (a 1) (a 2) (a 3) (a 4) (a 5) (a 6) (a 7) (a 8) (a 9) (a 10) g_ft g_er g_eb g_li g_st g_rd g_tu g_la g_dl g_sh g_tb, wG cI (a 11) (a 12) (a 13) (a 14) (a 15) (a 16) (a 17) (a 18) (a 19) (a 20) z_ft z_er z_eb z_li z_st z_rd z_tu z_la z_dl z_sh z_tb, wH cI cG (fun i => a (21 + i)) yc yp yg, wS cI (a 63) (a 64) (a 65) (a 66) (a 67) tx cm] : List va_W).flatten) s.heap.size = A at hD ⊢
  have hA : ∀ q : Nat, s.heap.size ≤ q → A q := fun q h => by rw [← hAe]; exact Or.inr h
  have hS : va_S A s.heap s.heap [] := va_S.rf
  have hw0 := hts (.fieldLink RX5 10 "SpeedTurns" "game" "LSpeedTurns$Game;") (List.mem_of_getElem? (i := 1) rfl)
  have hin5 : ∀ w ∈ u_ws RX5 TX5 4, w ∈ wsX5_vigor := by decide +kernel
  show W p l e ({ frames := 3, cells := 0, slots := 0, locals := 66 } : Room) s m _ below meth c s.heap [] 0 0 _ _
  refine W_genQ (fun Q hQ => ?_)
  have h := hf
  rw [fX5_vigor] at h
  have hl := lv_entry ([.ref (a 0)]) (n := 3) (Nat.le_of_ble_eq_true rfl)
  rw [lg_entry_eq]
  generalize (lg_sl ([.ref (a 0)]) ++ List.replicate (3 - (lg_sl ([.ref (a 0)])).length) Slot.unset).toArray = ls at hl ⊢
  have hl : lv_has ls 3 [(0, .ref (a 0))] := hl
  refine lv_aload_n hx hb dX5_vigor_0 rfl (lv_at hl 0 rfl) ?_
  refine va_get (D := G) (ci := 8) (v := .ref (a 1)) (C := RX5) (T := TX5) (N := 4) hx hb hts hin5 hown hK.1 hP 0 rfl rfl 0 (by decide) hw0 (fun _ h9 => h9) rfl dX5_vigor_1 ?_
  obtain ⟨x1, ex1, h⟩ := o_b h
  refine bcall_iV (As := []) (rest := []) (c0 := [wG cI (a 1) (a 2) (a 3) (a 4) (a 5) (a 6) (a 7) (a 8) (a 9) (a 10) g_ft g_er g_eb g_li g_st g_rd g_tu g_la g_dl g_sh g_tb]) (c1 := [wG cI (a 1) (a 2) (a 3) (a 4) (a 5) (a 6) (a 7) (a 8) (a 9) (a 10) g_ft g_er g_eb g_li g_st g_rd g_tu g_la g_dl g_sh g_tb]) (bs2 := [[((a 0), .inr (8, [.ref (a 1), .ref (a 11), .ref (a 21), .ref (a 63)]))], wG cI (a 1) (a 2) (a 3) (a 4) (a 5) (a 6) (a 7) (a 8) (a 9) (a 10) g_ft g_er g_eb g_li g_st g_rd g_tu g_la g_dl g_sh g_tb, wG cI (a 11) (a 12) (a 13) (a 14) (a 15) (a 16) (a 17) (a 18) (a 19) (a 20) z_ft z_er z_eb z_li z_st z_rd z_tu z_la z_dl z_sh z_tb, wH cI cG (fun i => a (21 + i)) yc yp yg, wS cI (a 63) (a 64) (a 65) (a 66) (a 67) tx cm]) ⟨hx, hb, hml, hown, hts⟩ (cX1_firstLives_ok l G cI cG (a 1) (a 2) (a 3) (a 4) (a 5) (a 6) (a 7) (a 8) (a 9) (a 10) fu g_ft g_er g_eb g_li g_st g_rd g_tu g_la g_dl g_sh g_tb x1 ex1) (cwV 0 hts gX5_vigor_X1_firstLives rfl rfl rfl hdX1_firstLives ⟨Nat.le_of_ble_eq_true rfl, Nat.le_of_ble_eq_true rfl⟩) hP hD hS hA hK 4 rfl rfl rfl [1] rfl rfl rfl rfl rfl rfl rfl rfl rfl hl.1 (Nat.le_of_ble_eq_true rfl) dX5_vigor_4 ⟨Nat.zero_le _, Nat.zero_le _⟩ (fun H locs hP hD hS => ?_)
  refine lv_i2d hx hb dX5_vigor_7 ?_
  refine lv_dstore_n (lv' := [(1, .double (FP.i2d x1)), (0, .ref (a 0))]) hx hb dX5_vigor_8 rfl hl (by decide) rfl (fun ls hl => ?_)
  refine lv_dload_n hx hb dX5_vigor_9 rfl (lv_at hl 0 rfl) ?_
  refine lv_dconst0 hx hb dX5_vigor_10 ?_
  refine lv_dcmp hx hb dX5_vigor_11 ?_
  refine lv_if_le (tgt := 28) hx hb dX5_vigor_12 (by decide) (fun hc => ?_) (fun hc => ?_)
  · have h := o_t h hc
    refine lv_dconst0 hx hb dX5_vigor_28 ?_
    obtain rfl := o_s h
    rw [hQ]
    exact end_d hx hb hr rfl hP hD hS dX5_vigor_29 hlocks
  · have h := o_f h hc
    refine lv_aload_n hx hb dX5_vigor_15 rfl (lv_at hl 1 rfl) ?_
    refine va_get (D := G) (ci := 8) (v := .ref (a 1)) (C := RX5) (T := TX5) (N := 4) hx hb hts hin5 hown hK.1 hP 0 rfl rfl 0 (by decide) hw0 (fun _ h9 => h9) rfl dX5_vigor_16 ?_
    obtain ⟨x2, ex2, h⟩ := o_b h
    refine bcall_iV (As := []) (rest := []) (c0 := [wG cI (a 1) (a 2) (a 3) (a 4) (a 5) (a 6) (a 7) (a 8) (a 9) (a 10) g_ft g_er g_eb g_li g_st g_rd g_tu g_la g_dl g_sh g_tb]) (c1 := [wG cI (a 1) (a 2) (a 3) (a 4) (a 5) (a 6) (a 7) (a 8) (a 9) (a 10) g_ft g_er g_eb g_li g_st g_rd g_tu g_la g_dl g_sh g_tb]) (bs2 := [[((a 0), .inr (8, [.ref (a 1), .ref (a 11), .ref (a 21), .ref (a 63)]))], wG cI (a 1) (a 2) (a 3) (a 4) (a 5) (a 6) (a 7) (a 8) (a 9) (a 10) g_ft g_er g_eb g_li g_st g_rd g_tu g_la g_dl g_sh g_tb, wG cI (a 11) (a 12) (a 13) (a 14) (a 15) (a 16) (a 17) (a 18) (a 19) (a 20) z_ft z_er z_eb z_li z_st z_rd z_tu z_la z_dl z_sh z_tb, wH cI cG (fun i => a (21 + i)) yc yp yg, wS cI (a 63) (a 64) (a 65) (a 66) (a 67) tx cm]) ⟨hx, hb, hml, hown, hts⟩ (cX1_lives_ok l G cI cG (a 1) (a 2) (a 3) (a 4) (a 5) (a 6) (a 7) (a 8) (a 9) (a 10) fu g_ft g_er g_eb g_li g_st g_rd g_tu g_la g_dl g_sh g_tb x2 ex2) (cwV 0 hts gX5_vigor_X1_lives rfl rfl rfl hdX1_lives ⟨Nat.le_of_ble_eq_true rfl, Nat.le_of_ble_eq_true rfl⟩) hP hD hS hA hK 4 rfl rfl rfl [1] rfl rfl rfl rfl rfl rfl rfl rfl rfl hl.1 (Nat.le_of_ble_eq_true rfl) dX5_vigor_19 ⟨Nat.zero_le _, Nat.zero_le _⟩ (fun H locs hP hD hS => ?_)
    refine lv_i2d hx hb dX5_vigor_22 ?_
    refine lv_dload_n hx hb dX5_vigor_23 rfl (lv_at hl 0 rfl) ?_
    obtain ⟨hne, h⟩ := o_g h
    refine lv_ddiv hx hb dX5_vigor_24 hne ?_
    refine lv_goto (tgt := 29) hx hb dX5_vigor_25 (by decide) ?_
    obtain rfl := o_s h
    rw [hQ]
    exact end_d hx hb hr rfl hP hD hS dX5_vigor_29 hlocks
theorem hdX6_vigor : yX6_vigor.cls = RX6 ∧ yX6_vigor.cls ≠ "java/lang/invoke/MethodHandle" ∧ yX6_vigor.cls ≠ "java/lang/invoke/VarHandle" ∧ (parseMethodDescriptor yX6_vigor.desc).map (fun d => d.parameters.length) = some 0 := by decide +kernel
set_option maxHeartbeats 4000000 in
set_option maxRecDepth 100000 in
theorem cX6_vigor_ok (l : Launch) (G : va_G) (cI cG : ClassId) (a0 a1 a2 a3 a4 : Nat) (fu : Nat) (th : Int32) (sa : (Nat → Int32)) (asd : (Nat → Int32)) (sv : (Nat → Int32)) (sm : Int32) (mt : (Nat → Int32)) (ln : Int32) (nx : Int32) (cd : Int32) (dg : Int32) (pw : Int32) (hs : Int64) (out : UInt64 × Int32) (hf : fX6_vigor fu th sa = some out) : CD l G (tyz cI cG) yX6_vigor wsX6_vigor ({ frames := 2, cells := 0, slots := 0, locals := 45 } : Room) [.ref a0] [(a0, .inr (9, [.int th, .ref a1, .ref a2, .ref a3, .int sm, .ref a4, .int ln, .int nx, .int cd, .int dg, .int pw, .long hs])), (a1, .inl (cI, 378, .inl sa)), (a2, .inl (cI, 378, .inl asd)), (a3, .inl (cI, 1512, .inl sv)), (a4, .inl (cI, 120, .inl mt))] out.1 [(a0, .inr (9, [.int out.2, .ref a1, .ref a2, .ref a3, .int sm, .ref a4, .int ln, .int nx, .int cd, .int dg, .int pw, .long hs])), (a1, .inl (cI, 378, .inl sa)), (a2, .inl (cI, 378, .inl asd)), (a3, .inl (cI, 1512, .inl sv)), (a4, .inl (cI, 120, .inl mt))] := by
  intro sz
  refine Met.ofW (cc := cX6_vigor) (maxL := 1) (ret := (some .double)) (by decide) rfl ?_
  intro p e s m args below meth c s₁ B hml hv
  obtain ⟨rfl, hsz, hP, hK, hD0⟩ := hv
  have hx := B.exec
  have hb := B.bytes
  have hr := B.returns
  have hts := atoms_spec (ws := wsX6_vigor) B.pre
  have hown : s.vm.findClass RX6 = some m.cls := findClass_of_methodNamed B.named
  have hlocks := B.notSynchronized
  subst hsz
  have hD := hD0.self (sz := s.heap.size)
  generalize hAe : va_A ([(a0, .inr (9, [.int th, .ref a1, .ref a2, .ref a3, .int sm, .ref a4, .int ln, .int nx, .int cd, .int dg, .int pw, .long hs])), (a1, .inl (cI, 378, .inl sa)), (a2, .inl (cI, 378, .inl asd)), (a3, .inl (cI, 1512, .inl sv)), (a4, .inl (cI, 120, .inl mt))]) s.heap.size = A at hD ⊢
  have hA : ∀ q : Nat, s.heap.size ≤ q → A q := fun q h => by rw [← hAe]; exact Or.inr h
  have hS : va_S A s.heap s.heap [] := va_S.rf
  have hw0 := hts (.fieldLink RX6 22 "SpeedTurnsModel" "thrown" "I") (List.mem_of_getElem? (i := 1) rfl)
  have hin6 : ∀ w ∈ u_ws RX6 TX6 12, w ∈ wsX6_vigor := by decide +kernel
  have hw2 := hts (.fieldLink RX6 7 "SpeedTurnsModel" "s" "[I") (List.mem_of_getElem? (i := 2) rfl)
  show W p l e ({ frames := 2, cells := 0, slots := 0, locals := 45 } : Room) s m _ below meth c s.heap [] 0 0 _ _
  refine W_genQ (fun Q hQ => ?_)
  have h := hf
  rw [fX6_vigor] at h
  have hl := lv_entry ([.ref a0]) (n := 1) (Nat.le_of_ble_eq_true rfl)
  rw [lg_entry_eq]
  generalize (lg_sl ([.ref a0]) ++ List.replicate (1 - (lg_sl ([.ref a0])).length) Slot.unset).toArray = ls at hl ⊢
  have hl : lv_has ls 1 [(0, .ref a0)] := hl
  refine lv_aload_n hx hb dX6_vigor_0 rfl (lv_at hl 0 rfl) ?_
  refine lv_iconst (v := 0) hx hb dX6_vigor_1 (by decide) ?_
  refine va_put (D := G) (ci := 9) (v := .int (0 : Int32)) (ty := .int) (C := RX6) (T := TX6) (N := 12) hx hb hts hin6 tyX6 tyX6_ok nmX6 hown hK.1 hP hD hS 0 rfl rfl 0 (by decide) hw0 (fun _ h9 => h9) rfl (by decide +kernel) rfl rfl (Nat.le_of_ble_eq_true rfl) dX6_vigor_2 (fun H locs hP hD hS => ?_)
  have hP : va_P G vwCl ([(a0, .inr (9, [.int (0 : Int32), .ref a1, .ref a2, .ref a3, .int sm, .ref a4, .int ln, .int nx, .int cd, .int dg, .int pw, .long hs])), (a1, .inl (cI, 378, .inl sa)), (a2, .inl (cI, 378, .inl asd)), (a3, .inl (cI, 1512, .inl sv)), (a4, .inl (cI, 120, .inl mt))]) H := hP
  have hD : va_D A ([(a0, .inr (9, [.int (0 : Int32), .ref a1, .ref a2, .ref a3, .int sm, .ref a4, .int ln, .int nx, .int cd, .int dg, .int pw, .long hs])), (a1, .inl (cI, 378, .inl sa)), (a2, .inl (cI, 378, .inl asd)), (a3, .inl (cI, 1512, .inl sv)), (a4, .inl (cI, 120, .inl mt))]) := hD
  refine lv_aload_n hx hb dX6_vigor_5 rfl (lv_at hl 0 rfl) ?_
  refine va_get (D := G) (ci := 9) (v := .ref a1) (C := RX6) (T := TX6) (N := 12) hx hb hts hin6 hown hK.1 hP 0 rfl rfl 1 (by decide) hw2 (fun _ h9 => h9) rfl dX6_vigor_6 ?_
  refine lv_iconst (v := 0) hx hb dX6_vigor_9 (by decide) ?_
  obtain ⟨hin, h⟩ := o_g h
  refine va_iald hx hb hK.1 hP 1 0 rfl rfl hin dX6_vigor_10 ?_
  refine lv_if_ne (tgt := 18) hx hb dX6_vigor_11 (by decide) (fun hc => ?_) (fun hc => ?_)
  · have h := o_f h hc
    refine lv_aload_n hx hb dX6_vigor_18 rfl (lv_at hl 0 rfl) ?_
    refine lv_iconst (v := 2) hx hb dX6_vigor_19 (by decide) ?_
    obtain ⟨x1, ex1, h⟩ := o_b h
    refine call_iV (As := [.int (2 : Int32)]) (rest := []) (ws2 := [(a0, .inr (9, [.int (0 : Int32), .ref a1, .ref a2, .ref a3, .int sm, .ref a4, .int ln, .int nx, .int cd, .int dg, .int pw, .long hs])), (a1, .inl (cI, 378, .inl sa)), (a2, .inl (cI, 378, .inl asd)), (a3, .inl (cI, 1512, .inl sv)), (a4, .inl (cI, 120, .inl mt))]) ⟨hx, hb, hml, hown, hts⟩ (cX6_lives_ok l G cI cG a0 a1 a2 a3 a4 fu (0 : Int32) sa asd sv sm mt ln nx cd dg pw hs (2 : Int32) x1 ex1) (cwV 1 hts gX6_vigor_X6_lives rfl rfl rfl hdX6_lives ⟨Nat.le_of_ble_eq_true rfl, Nat.le_of_ble_eq_true rfl⟩) hP hD hS hA hK 9 rfl rfl rfl [0, 1, 2, 3, 4] rfl rfl rfl rfl rfl rfl rfl rfl hl.1 (Nat.le_of_ble_eq_true rfl) dX6_vigor_20 ⟨Nat.zero_le _, Nat.zero_le _⟩ (fun H locs hP hD hS => ?_)
    refine lv_i2d hx hb dX6_vigor_23 ?_
    refine lv_aload_n hx hb dX6_vigor_24 rfl (lv_at hl 0 rfl) ?_
    refine lv_iconst (v := 1) hx hb dX6_vigor_25 (by decide) ?_
    obtain ⟨x2, ex2, h⟩ := o_b h
    refine call_iV (As := [.int (1 : Int32)]) (rest := [.double (FP.i2d x1)]) (ws2 := [(a0, .inr (9, [.int (0 : Int32), .ref a1, .ref a2, .ref a3, .int sm, .ref a4, .int ln, .int nx, .int cd, .int dg, .int pw, .long hs])), (a1, .inl (cI, 378, .inl sa)), (a2, .inl (cI, 378, .inl asd)), (a3, .inl (cI, 1512, .inl sv)), (a4, .inl (cI, 120, .inl mt))]) ⟨hx, hb, hml, hown, hts⟩ (cX6_lives_ok l G cI cG a0 a1 a2 a3 a4 fu (0 : Int32) sa asd sv sm mt ln nx cd dg pw hs (1 : Int32) x2 ex2) (cwV 1 hts gX6_vigor_X6_lives rfl rfl rfl hdX6_lives ⟨Nat.le_of_ble_eq_true rfl, Nat.le_of_ble_eq_true rfl⟩) hP hD hS hA hK 9 rfl rfl rfl [0, 1, 2, 3, 4] rfl rfl rfl rfl rfl rfl rfl rfl hl.1 (Nat.le_of_ble_eq_true rfl) dX6_vigor_26 ⟨Nat.zero_le _, Nat.zero_le _⟩ (fun H locs hP hD hS => ?_)
    refine lv_i2d hx hb dX6_vigor_29 ?_
    obtain ⟨hne, h⟩ := o_g h
    refine lv_ddiv hx hb dX6_vigor_30 hne ?_
    obtain rfl := o_s h
    rw [hQ]
    exact end_d hx hb hr rfl hP hD hS dX6_vigor_31 hlocks
  · have h := o_t h hc
    refine lv_dconst0 hx hb dX6_vigor_14 ?_
    refine lv_goto (tgt := 31) hx hb dX6_vigor_15 (by decide) ?_
    obtain rfl := o_s h
    rw [hQ]
    exact end_d hx hb hr rfl hP hD hS dX6_vigor_31 hlocks
