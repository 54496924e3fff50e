set_option maxHeartbeats 4000000 in
set_option maxRecDepth 100000 in
theorem law_mayAnswer {p : Program} {l : Launch} {e : Env} {s : State} {m : MethodId} {below : List Frame} {meth : Method} {cd : Code} {H : Heap} {locs : List Loc} {cells slots : Nat} {Q : State → Prop} {ls : Array Slot} {A : Nat → Prop} {G : va_G} {cI cG cL : ClassId} {a b : Nat → Nat} {o sb L n : Nat} {xs : Nat → Int32} {i : Int32} {c : CS} {mo : MS} {ol : Nat → Int64} {fu : Nat} {I : Nat → CS → MS → Prop} (S : Sim fu I) (hlf : l.stackTraces = false) (F : CallFix p m cd cL_law 9 s #[.ref sb] wsL_law RL) (hA : ∀ q : Nat, s.heap.size ≤ q → A q) (hK : cK G (tyl cI cG cL) s) (hX : xSt s) (hZ : xZ A s s.heap) (hN : xN s) (hXs : va_X sb L xs s s.heap) (hbl : sb < s.heap.size) (hbA : ¬ A sb) (hi : ∀ j : Int32, 1 ≤ j → j ≤ 6 → vp_in (i + j) L) (hI : I (n + 1) c mo) (hP : va_P G vwCl (lwB cI cG cL a o b c mo ol).flatten H) (hD : va_D A (lwB cI cG cL a o b c mo ol).flatten) (hS : va_S A s.heap H locs) (hl : lv_has ls 9 [(4, .int i), (3, .ref o), (2, .ref (b 0)), (1, .ref (a 0)), (0, .ref sb)]) (hf : cells + 7 ≤ 601024 ∧ slots + 42 ≤ 7293034)
    (kk : ∀ (c' : CS) (mo' : MS) (ol' : Nat → Int64) (H1 : Heap) (locs1 : List Loc) (ls1 : Array Slot), I n c' mo' → va_P G vwCl (lwB cI cG cL a o b c' mo' ol').flatten H1 → va_D A (lwB cI cG cL a o b c' mo' ol').flatten → va_S A s.heap H1 locs1 → lv_has ls1 9 [(4, .int i), (3, .ref o), (2, .ref (b 0)), (1, .ref (a 0)), (0, .ref sb)] → W p l e room_1 s m #[.ref sb] below meth cd H1 locs1 (cells + 7) (slots + 42) Q (F0 m 1475 ls1 [])) : W p l e room_1 s m #[.ref sb] below meth cd H locs cells slots Q (F0 m 1106 ls []) := by
  have F0 := F
  obtain ⟨hx, hb, hml, hown, hts⟩ := F0
  obtain ⟨out, r, e1, e2, e3, e4, e5, e6⟩ := S.s_mayAnswer (xs (i + 1).toNatClampNeg) hI
  refine lv_aload_n hx hb dL_law_1106 rfl (lv_at hl 3 rfl) ?_
  refine lv_aload_n hx hb dL_law_1107 rfl (lv_at hl 4 rfl) ?_
  refine lv_iload hx hb dL_law_1108 (lv_at hl 0 rfl) ?_
  refine lv_iconst (v := 1) hx hb dL_law_1110 (by decide) ?_
  refine lv_iadd hx hb dL_law_1111 ?_
  refine va_sld hx hb hXs hbl hbA hS (hi 1 (by decide) (by decide)) dL_law_1112 ?_
  refine lv_aload_n hx hb dL_law_1113 rfl (lv_at hl 1 rfl) ?_
  rcases out with E | u
  · skip
    obtain ⟨k, hk⟩ : ∃ k : Int32, k = ((Sum.elim (fun E => if E = "java/lang/IndexOutOfBoundsException" then 1 else 0) (fun _ => 0) (Sum.inl E : String ⊕ (Bool))) : Int32) := ⟨_, rfl⟩
    have hk0 : k ≠ 0 := by
      have := e2 E rfl
      subst this
      rw [hk]; decide
    have M := cL_mayAnswer_ok l hlf G cI cG cL a o c.ft c.er c.eb c.li c.st c.rd c.tu c.la c.dl c.sh c.tb c.zft c.zer c.zeb c.zli c.zst c.zrd c.ztu c.zla c.zdl c.zsh c.ztb c.yc c.yp c.yg c.tx c.cm ol (xs (i + 1).toNatClampNeg) (.inl E) e1 e2
    rw [← hk] at M
    have hk4 := e4.trans hk.symm
    refine lcall (As := [.ref (a 0), .int (xs (i + 1).toNatClampNeg), .ref o]) (rest := []) (c0 := [[((a 0), .inr (8, [.ref (a 1), .ref (a 11), .ref (a 21), .ref (a 63)]))], wG cI (a 1) (a 2) (a 3) (a 4) (a 5) (a 6) (a 7) (a 8) (a 9) (a 10) c.ft c.er c.eb c.li c.st c.rd c.tu c.la c.dl c.sh c.tb, wG cI (a 11) (a 12) (a 13) (a 14) (a 15) (a 16) (a 17) (a 18) (a 19) (a 20) c.zft c.zer c.zeb c.zli c.zst c.zrd c.ztu c.zla c.zdl c.zsh c.ztb, wH cI cG (fun i => a (21 + i)) c.yc c.yp c.yg, wS cI (a 63) (a 64) (a 65) (a 66) (a 67) c.tx c.cm, [(o, .inl (cL, 1, .inr (.inl ol)))]]) (c1 := [[((a 0), .inr (8, [.ref (a 1), .ref (a 11), .ref (a 21), .ref (a 63)]))], wG cI (a 1) (a 2) (a 3) (a 4) (a 5) (a 6) (a 7) (a 8) (a 9) (a 10) c.ft c.er c.eb c.li c.st c.rd c.tu c.la c.dl c.sh c.tb, wG cI (a 11) (a 12) (a 13) (a 14) (a 15) (a 16) (a 17) (a 18) (a 19) (a 20) c.zft c.zer c.zeb c.zli c.zst c.zrd c.ztu c.zla c.zdl c.zsh c.ztb, wH cI cG (fun i => a (21 + i)) c.yc c.yp c.yg, wS cI (a 63) (a 64) (a 65) (a 66) (a 67) c.tx c.cm, [(o, .inl (cL, 1, .inr (.inl ol)))]]) (bs2 := lwB cI cG cL a o b c mo ol) ⟨hx, hb, hml, hown, hts⟩ M (vx_cwSW 3 hts gL_law_L_mayAnswer rfl rfl rfl hdL_mayAnswer ⟨(Nat.le_of_ble_eq_true rfl), (Nat.le_of_ble_eq_true rfl)⟩) hP hD hS hA hK hX hZ hN [0, 1, 2, 3, 4, 5] rfl rfl rfl rfl rfl rfl rfl rfl rfl hl.1 (Nat.le_of_ble_eq_true rfl) dL_law_1114 ⟨(Nat.le_trans (Nat.add_le_add_left (by decide) _) hf.1), (Nat.le_trans (Nat.add_le_add_left (by decide) _) hf.2)⟩ (fun H locs hP hD hS => ?_)
    refine lv_istore (lv' := [(5, .int k), (4, .int i), (3, .ref o), (2, .ref (b 0)), (1, .ref (a 0)), (0, .ref sb)]) hx hb dL_law_1117 hl (by decide) rfl (fun ls hl => ?_)
    refine lv_aload_n hx hb dL_law_1119 rfl (lv_at hl 3 rfl) ?_
    refine lv_aload_n hx hb dL_law_1120 rfl (lv_at hl 5 rfl) ?_
    refine lv_iload hx hb dL_law_1121 (lv_at hl 1 rfl) ?_
    refine lv_iconst (v := 1) hx hb dL_law_1123 (by decide) ?_
    refine lv_iadd hx hb dL_law_1124 ?_
    refine va_sld hx hb hXs hbl hbA hS (hi 1 (by decide) (by decide)) dL_law_1125 ?_
    refine bcall_iV (As := [.int (xs (i + 1).toNatClampNeg)]) (rest := []) (c0 := [[((b 0), .inr (9, [.int mo.th, .ref (b 1), .ref (b 2), .ref (b 3), .int mo.sm, .ref (b 4), .int mo.ln, .int mo.nx, .int mo.cd, .int mo.dg, .int mo.pw, .long mo.hs])), ((b 1), .inl (cI, 378, .inl mo.sa)), ((b 2), .inl (cI, 378, .inl mo.asd)), ((b 3), .inl (cI, 1512, .inl mo.sv)), ((b 4), .inl (cI, 120, .inl mo.mt))]]) (c1 := [[((b 0), .inr (9, [.int r.2, .ref (b 1), .ref (b 2), .ref (b 3), .int mo.sm, .ref (b 4), .int mo.ln, .int mo.nx, .int mo.cd, .int mo.dg, .int mo.pw, .long mo.hs])), ((b 1), .inl (cI, 378, .inl mo.sa)), ((b 2), .inl (cI, 378, .inl mo.asd)), ((b 3), .inl (cI, 1512, .inl mo.sv)), ((b 4), .inl (cI, 120, .inl mo.mt))]]) (bs2 := lwB cI cG cL a o b c ((r.2, mo.sa, mo.asd, mo.sv, mo.sm, mo.mt, mo.ln, mo.nx, mo.cd, mo.dg, mo.pw, mo.hs) : MS) ol) ⟨hx, hb, hml, hown, hts⟩ (cX6_mayAnswer_ok l G cI cG (b 0) (b 1) (b 2) (b 3) (b 4) mo.th mo.sa mo.asd mo.sv mo.sm mo.mt mo.ln mo.nx mo.cd mo.dg mo.pw mo.hs (xs (i + 1).toNatClampNeg) r e3) (cwV 1 hts gL_law_X6_mayAnswer rfl rfl rfl hdX6_mayAnswer ⟨(Nat.le_of_ble_eq_true rfl), (Nat.le_of_ble_eq_true rfl)⟩) hP hD hS hA (tyl_z hK) 9 rfl rfl rfl [6] rfl rfl rfl rfl rfl rfl rfl rfl rfl hl.1 (Nat.le_of_ble_eq_true rfl) dL_law_1126 ⟨(Nat.le_trans (Nat.add_le_add_left (by decide) _) hf.1), (Nat.le_trans (Nat.add_le_add_left (by decide) _) hf.2)⟩ (fun H locs hP hD hS => ?_)
    refine lv_istore (lv' := [(6, .int (bI r.1)), (5, .int k), (4, .int i), (3, .ref o), (2, .ref (b 0)), (1, .ref (a 0)), (0, .ref sb)]) hx hb dL_law_1129 hl (by decide) rfl (fun ls hl => ?_)
    refine lv_aload_n hx hb dL_law_1131 rfl (lv_at hl 4 rfl) ?_
    refine bcall_iV (As := []) (rest := []) (c0 := [[((b 0), .inr (9, [.int r.2, .ref (b 1), .ref (b 2), .ref (b 3), .int mo.sm, .ref (b 4), .int mo.ln, .int mo.nx, .int mo.cd, .int mo.dg, .int mo.pw, .long mo.hs])), ((b 1), .inl (cI, 378, .inl mo.sa)), ((b 2), .inl (cI, 378, .inl mo.asd)), ((b 3), .inl (cI, 1512, .inl mo.sv)), ((b 4), .inl (cI, 120, .inl mo.mt))]]) (c1 := [[((b 0), .inr (9, [.int r.2, .ref (b 1), .ref (b 2), .ref (b 3), .int mo.sm, .ref (b 4), .int mo.ln, .int mo.nx, .int mo.cd, .int mo.dg, .int mo.pw, .long mo.hs])), ((b 1), .inl (cI, 378, .inl mo.sa)), ((b 2), .inl (cI, 378, .inl mo.asd)), ((b 3), .inl (cI, 1512, .inl mo.sv)), ((b 4), .inl (cI, 120, .inl mo.mt))]]) (bs2 := lwB cI cG cL a o b c ((r.2, mo.sa, mo.asd, mo.sv, mo.sm, mo.mt, mo.ln, mo.nx, mo.cd, mo.dg, mo.pw, mo.hs) : MS) ol) ⟨hx, hb, hml, hown, hts⟩ (cX6_thrown_ok l G cI cG (b 0) (b 1) (b 2) (b 3) (b 4) r.2 mo.sa mo.asd mo.sv mo.sm mo.mt mo.ln mo.nx mo.cd mo.dg mo.pw mo.hs (r.2) rfl) (cwV 0 hts gL_law_X6_thrown rfl rfl rfl hdX6_thrown ⟨(Nat.le_of_ble_eq_true rfl), (Nat.le_of_ble_eq_true rfl)⟩) hP hD hS hA (tyl_z hK) 9 rfl rfl rfl [6] rfl rfl rfl rfl rfl rfl rfl rfl rfl hl.1 (Nat.le_of_ble_eq_true rfl) dL_law_1132 ⟨(Nat.le_trans (Nat.add_le_add_left (by decide) _) hf.1), (Nat.le_trans (Nat.add_le_add_left (by decide) _) hf.2)⟩ (fun H locs hP hD hS => ?_)
    refine lv_iload hx hb dL_law_1135 (lv_at hl 1 rfl) ?_
    refine lv_icmp_eq (tgt := 1142) hx hb dL_law_1137 (by decide) (fun _ => ?_) (fun c9 => absurd hk4 c9)
    refine lv_iload hx hb dL_law_1142 (lv_at hl 1 rfl) ?_
    refine lv_if_ne (tgt := 1166) hx hb dL_law_1144 (by decide) (fun _ => ?_) (fun c9 => absurd c9 hk0)
    refine lv_goto (tgt := 1475) hx hb dL_law_1166 (by decide) ?_
    exact W.widen (Nat.add_le_add_left (by decide) _) (Nat.add_le_add_left (by decide) _) (kk c ((r.2, mo.sa, mo.asd, mo.sv, mo.sm, mo.mt, mo.ln, mo.nx, mo.cd, mo.dg, mo.pw, mo.hs) : MS) ol H locs ls e6 hP hD hS (lv_sub hl [2, 3, 4, 5, 6] rfl))
  · skip
    obtain ⟨k, hk⟩ : ∃ k : Int32, k = ((Sum.elim (fun E => if E = "java/lang/IndexOutOfBoundsException" then 1 else 0) (fun _ => 0) (Sum.inr u : String ⊕ (Bool))) : Int32) := ⟨_, rfl⟩
    have hk0 : k = 0 := hk
    have M := cL_mayAnswer_ok l hlf G cI cG cL a o c.ft c.er c.eb c.li c.st c.rd c.tu c.la c.dl c.sh c.tb c.zft c.zer c.zeb c.zli c.zst c.zrd c.ztu c.zla c.zdl c.zsh c.ztb c.yc c.yp c.yg c.tx c.cm ol (xs (i + 1).toNatClampNeg) (.inr u) e1 e2
    rw [← hk] at M
    have hk4 := e4.trans hk.symm
    refine lcall (As := [.ref (a 0), .int (xs (i + 1).toNatClampNeg), .ref o]) (rest := []) (c0 := [[((a 0), .inr (8, [.ref (a 1), .ref (a 11), .ref (a 21), .ref (a 63)]))], wG cI (a 1) (a 2) (a 3) (a 4) (a 5) (a 6) (a 7) (a 8) (a 9) (a 10) c.ft c.er c.eb c.li c.st c.rd c.tu c.la c.dl c.sh c.tb, wG cI (a 11) (a 12) (a 13) (a 14) (a 15) (a 16) (a 17) (a 18) (a 19) (a 20) c.zft c.zer c.zeb c.zli c.zst c.zrd c.ztu c.zla c.zdl c.zsh c.ztb, wH cI cG (fun i => a (21 + i)) c.yc c.yp c.yg, wS cI (a 63) (a 64) (a 65) (a 66) (a 67) c.tx c.cm, [(o, .inl (cL, 1, .inr (.inl ol)))]]) (c1 := [[((a 0), .inr (8, [.ref (a 1), .ref (a 11), .ref (a 21), .ref (a 63)]))], wG cI (a 1) (a 2) (a 3) (a 4) (a 5) (a 6) (a 7) (a 8) (a 9) (a 10) c.ft c.er c.eb c.li c.st c.rd c.tu c.la c.dl c.sh c.tb, wG cI (a 11) (a 12) (a 13) (a 14) (a 15) (a 16) (a 17) (a 18) (a 19) (a 20) c.zft c.zer c.zeb c.zli c.zst c.zrd c.ztu c.zla c.zdl c.zsh c.ztb, wH cI cG (fun i => a (21 + i)) c.yc c.yp c.yg, wS cI (a 63) (a 64) (a 65) (a 66) (a 67) c.tx c.cm, [(o, .inl (cL, 1, .inr (.inl (vp_updL ol (0 : Int32).toNatClampNeg (if (bI u : Int32) = 0 then 0 else 1)))))]]) (bs2 := lwB cI cG cL a o b c mo ((vp_updL ol (0 : Int32).toNatClampNeg (if (bI u : Int32) = 0 then 0 else 1)))) ⟨hx, hb, hml, hown, hts⟩ M (vx_cwSW 3 hts gL_law_L_mayAnswer rfl rfl rfl hdL_mayAnswer ⟨(Nat.le_of_ble_eq_true rfl), (Nat.le_of_ble_eq_true rfl)⟩) hP hD hS hA hK hX hZ hN [0, 1, 2, 3, 4, 5] rfl rfl rfl rfl rfl rfl rfl rfl rfl hl.1 (Nat.le_of_ble_eq_true rfl) dL_law_1114 ⟨(Nat.le_trans (Nat.add_le_add_left (by decide) _) hf.1), (Nat.le_trans (Nat.add_le_add_left (by decide) _) hf.2)⟩ (fun H locs hP hD hS => ?_)
    refine lv_istore (lv' := [(5, .int k), (4, .int i), (3, .ref o), (2, .ref (b 0)), (1, .ref (a 0)), (0, .ref sb)]) hx hb dL_law_1117 hl (by decide) rfl (fun ls hl => ?_)
    refine lv_aload_n hx hb dL_law_1119 rfl (lv_at hl 3 rfl) ?_
    refine lv_aload_n hx hb dL_law_1120 rfl (lv_at hl 5 rfl) ?_
    refine lv_iload hx hb dL_law_1121 (lv_at hl 1 rfl) ?_
    refine lv_iconst (v := 1) hx hb dL_law_1123 (by decide) ?_
    refine lv_iadd hx hb dL_law_1124 ?_
    refine va_sld hx hb hXs hbl hbA hS (hi 1 (by decide) (by decide)) dL_law_1125 ?_
    refine bcall_iV (As := [.int (xs (i + 1).toNatClampNeg)]) (rest := []) (c0 := [[((b 0), .inr (9, [.int mo.th, .ref (b 1), .ref (b 2), .ref (b 3), .int mo.sm, .ref (b 4), .int mo.ln, .int mo.nx, .int mo.cd, .int mo.dg, .int mo.pw, .long mo.hs])), ((b 1), .inl (cI, 378, .inl mo.sa)), ((b 2), .inl (cI, 378, .inl mo.asd)), ((b 3), .inl (cI, 1512, .inl mo.sv)), ((b 4), .inl (cI, 120, .inl mo.mt))]]) (c1 := [[((b 0), .inr (9, [.int r.2, .ref (b 1), .ref (b 2), .ref (b 3), .int mo.sm, .ref (b 4), .int mo.ln, .int mo.nx, .int mo.cd, .int mo.dg, .int mo.pw, .long mo.hs])), ((b 1), .inl (cI, 378, .inl mo.sa)), ((b 2), .inl (cI, 378, .inl mo.asd)), ((b 3), .inl (cI, 1512, .inl mo.sv)), ((b 4), .inl (cI, 120, .inl mo.mt))]]) (bs2 := lwB cI cG cL a o b c ((r.2, mo.sa, mo.asd, mo.sv, mo.sm, mo.mt, mo.ln, mo.nx, mo.cd, mo.dg, mo.pw, mo.hs) : MS) ((vp_updL ol (0 : Int32).toNatClampNeg (if (bI u : Int32) = 0 then 0 else 1)))) ⟨hx, hb, hml, hown, hts⟩ (cX6_mayAnswer_ok l G cI cG (b 0) (b 1) (b 2) (b 3) (b 4) mo.th mo.sa mo.asd mo.sv mo.sm mo.mt mo.ln mo.nx mo.cd mo.dg mo.pw mo.hs (xs (i + 1).toNatClampNeg) r e3) (cwV 1 hts gL_law_X6_mayAnswer rfl rfl rfl hdX6_mayAnswer ⟨(Nat.le_of_ble_eq_true rfl), (Nat.le_of_ble_eq_true rfl)⟩) hP hD hS hA (tyl_z hK) 9 rfl rfl rfl [6] rfl rfl rfl rfl rfl rfl rfl rfl rfl hl.1 (Nat.le_of_ble_eq_true rfl) dL_law_1126 ⟨(Nat.le_trans (Nat.add_le_add_left (by decide) _) hf.1), (Nat.le_trans (Nat.add_le_add_left (by decide) _) hf.2)⟩ (fun H locs hP hD hS => ?_)
    refine lv_istore (lv' := [(6, .int (bI r.1)), (5, .int k), (4, .int i), (3, .ref o), (2, .ref (b 0)), (1, .ref (a 0)), (0, .ref sb)]) hx hb dL_law_1129 hl (by decide) rfl (fun ls hl => ?_)
    refine lv_aload_n hx hb dL_law_1131 rfl (lv_at hl 4 rfl) ?_
    refine bcall_iV (As := []) (rest := []) (c0 := [[((b 0), .inr (9, [.int r.2, .ref (b 1), .ref (b 2), .ref (b 3), .int mo.sm, .ref (b 4), .int mo.ln, .int mo.nx, .int mo.cd, .int mo.dg, .int mo.pw, .long mo.hs])), ((b 1), .inl (cI, 378, .inl mo.sa)), ((b 2), .inl (cI, 378, .inl mo.asd)), ((b 3), .inl (cI, 1512, .inl mo.sv)), ((b 4), .inl (cI, 120, .inl mo.mt))]]) (c1 := [[((b 0), .inr (9, [.int r.2, .ref (b 1), .ref (b 2), .ref (b 3), .int mo.sm, .ref (b 4), .int mo.ln, .int mo.nx, .int mo.cd, .int mo.dg, .int mo.pw, .long mo.hs])), ((b 1), .inl (cI, 378, .inl mo.sa)), ((b 2), .inl (cI, 378, .inl mo.asd)), ((b 3), .inl (cI, 1512, .inl mo.sv)), ((b 4), .inl (cI, 120, .inl mo.mt))]]) (bs2 := lwB cI cG cL a o b c ((r.2, mo.sa, mo.asd, mo.sv, mo.sm, mo.mt, mo.ln, mo.nx, mo.cd, mo.dg, mo.pw, mo.hs) : MS) ((vp_updL ol (0 : Int32).toNatClampNeg (if (bI u : Int32) = 0 then 0 else 1)))) ⟨hx, hb, hml, hown, hts⟩ (cX6_thrown_ok l G cI cG (b 0) (b 1) (b 2) (b 3) (b 4) r.2 mo.sa mo.asd mo.sv mo.sm mo.mt mo.ln mo.nx mo.cd mo.dg mo.pw mo.hs (r.2) rfl) (cwV 0 hts gL_law_X6_thrown rfl rfl rfl hdX6_thrown ⟨(Nat.le_of_ble_eq_true rfl), (Nat.le_of_ble_eq_true rfl)⟩) hP hD hS hA (tyl_z hK) 9 rfl rfl rfl [6] rfl rfl rfl rfl rfl rfl rfl rfl rfl hl.1 (Nat.le_of_ble_eq_true rfl) dL_law_1132 ⟨(Nat.le_trans (Nat.add_le_add_left (by decide) _) hf.1), (Nat.le_trans (Nat.add_le_add_left (by decide) _) hf.2)⟩ (fun H locs hP hD hS => ?_)
    refine lv_iload hx hb dL_law_1135 (lv_at hl 1 rfl) ?_
    refine lv_icmp_eq (tgt := 1142) hx hb dL_law_1137 (by decide) (fun _ => ?_) (fun c9 => absurd hk4 c9)
    refine lv_iload hx hb dL_law_1142 (lv_at hl 1 rfl) ?_
    refine lv_if_ne (tgt := 1166) hx hb dL_law_1144 (by decide) (fun c9 => absurd hk0 c9) (fun _ => ?_)
    refine lv_aload_n hx hb dL_law_1147 rfl (lv_at hl 3 rfl) ?_
    refine lv_iconst (v := 0) hx hb dL_law_1148 (by decide) ?_
    refine va_lald hx hb hK.1 hP 68 2 rfl rfl (show ¬ ((0 : Int32) < 0 ∨ 1 ≤ (0 : Int32).toNatClampNeg) from by decide) dL_law_1149 ?_
    refine lv_iload hx hb dL_law_1150 (lv_at hl 0 rfl) ?_
    rcases hr1 : r.1 with _ | _
    · skip
      have hu : u = false := (e5 u rfl).trans hr1
      subst hu
      skip
      refine lv_if_eq (tgt := 1159) hx hb dL_law_1152 (by decide) (fun _ => ?_) (fun c9 => absurd (by decide) c9)
      refine lv_lconst (v := 0) hx hb dL_law_1159 (by decide) ?_
      refine lv_lcmpE hx hb (by rfl) dL_law_1160 ?_
      refine lv_if_eq (tgt := 1166) hx hb dL_law_1161 (by decide) (fun _ => ?_) (fun c9 => absurd rfl c9)
      refine lv_goto (tgt := 1475) hx hb dL_law_1166 (by decide) ?_
      exact W.widen (Nat.add_le_add_left (by decide) _) (Nat.add_le_add_left (by decide) _) (kk c ((r.2, mo.sa, mo.asd, mo.sv, mo.sm, mo.mt, mo.ln, mo.nx, mo.cd, mo.dg, mo.pw, mo.hs) : MS) ((vp_updL ol (0 : Int32).toNatClampNeg (if (bI false : Int32) = 0 then 0 else 1))) H locs ls e6 hP hD hS (lv_sub hl [2, 3, 4, 5, 6] rfl))
    · skip
      have hu : u = true := (e5 u rfl).trans hr1
      subst hu
      skip
      refine lv_if_eq (tgt := 1159) hx hb dL_law_1152 (by decide) (fun c9 => absurd c9 (by decide)) (fun _ => ?_)
      refine lv_lconst (v := 1) hx hb dL_law_1155 (by decide) ?_
      refine lv_goto (tgt := 1160) hx hb dL_law_1156 (by decide) ?_
      refine lv_lcmpE hx hb (by rfl) dL_law_1160 ?_
      refine lv_if_eq (tgt := 1166) hx hb dL_law_1161 (by decide) (fun _ => ?_) (fun c9 => absurd rfl c9)
      refine lv_goto (tgt := 1475) hx hb dL_law_1166 (by decide) ?_
      exact W.widen (Nat.add_le_add_left (by decide) _) (Nat.add_le_add_left (by decide) _) (kk c ((r.2, mo.sa, mo.asd, mo.sv, mo.sm, mo.mt, mo.ln, mo.nx, mo.cd, mo.dg, mo.pw, mo.hs) : MS) ((vp_updL ol (0 : Int32).toNatClampNeg (if (bI true : Int32) = 0 then 0 else 1))) H locs ls e6 hP hD hS (lv_sub hl [2, 3, 4, 5, 6] rfl))
