set_option maxHeartbeats 4000000 in
set_option maxRecDepth 100000 in
theorem law_vigor {p : Program} {l : Launch} {e : Env} {s : State} {m : MethodId} {below : List Frame} {meth : Method} {cd : Code} {H : Heap} {locs : List Loc} {cells slots : Nat} {Q : State → Prop} {ls : Array Slot} {A : Nat → Prop} {G : va_G} {cI cG cL : ClassId} {a b : Nat → Nat} {o sb L n : Nat} {xs : Nat → Int32} {i : Int32} {c : CS} {mo : MS} {ol : Nat → Int64} {fu : Nat} {I : Nat → CS → MS → Prop} (S : Sim fu I) (hlf : l.stackTraces = false) (F : CallFix p m cd cL_law 9 s #[.ref sb] wsL_law RL) (hA : ∀ q : Nat, s.heap.size ≤ q → A q) (hK : cK G (tyl cI cG cL) s) (hX : xSt s) (hZ : xZ A s s.heap) (hN : xN s) (hXs : va_X sb L xs s s.heap) (hbl : sb < s.heap.size) (hbA : ¬ A sb) (hi : ∀ j : Int32, 1 ≤ j → j ≤ 6 → vp_in (i + j) L) (hI : I (n + 1) c mo) (hP : va_P G vwCl (lwB cI cG cL a o b c mo ol).flatten H) (hD : va_D A (lwB cI cG cL a o b c mo ol).flatten) (hS : va_S A s.heap H locs) (hl : lv_has ls 9 [(4, .int i), (3, .ref o), (2, .ref (b 0)), (1, .ref (a 0)), (0, .ref sb)]) (hf : cells + 7 ≤ 601024 ∧ slots + 42 ≤ 7293034)
    (kk : ∀ (c' : CS) (mo' : MS) (ol' : Nat → Int64) (H1 : Heap) (locs1 : List Loc) (ls1 : Array Slot), I n c' mo' → va_P G vwCl (lwB cI cG cL a o b c' mo' ol').flatten H1 → va_D A (lwB cI cG cL a o b c' mo' ol').flatten → va_S A s.heap H1 locs1 → lv_has ls1 9 [(4, .int i), (3, .ref o), (2, .ref (b 0)), (1, .ref (a 0)), (0, .ref sb)] → W p l e room_1 s m #[.ref sb] below meth cd H1 locs1 (cells + 7) (slots + 42) Q (F0 m 1475 ls1 [])) : W p l e room_1 s m #[.ref sb] below meth cd H locs cells slots Q (F0 m 1294 ls []) := by
  have F0 := F
  obtain ⟨hx, hb, hml, hown, hts⟩ := F0
  obtain ⟨out, r, e1, e3, e4, e6⟩ := S.s_vigor hI
  refine lv_aload_n hx hb dL_law_1294 rfl (lv_at hl 3 rfl) ?_
  refine bcall_dV (As := []) (rest := []) (c0 := [[((a 0), .inr (8, [.ref (a 1), .ref (a 11), .ref (a 21), .ref (a 63)]))], wG cI (a 1) (a 2) (a 3) (a 4) (a 5) (a 6) (a 7) (a 8) (a 9) (a 10) c.ft c.er c.eb c.li c.st c.rd c.tu c.la c.dl c.sh c.tb, wG cI (a 11) (a 12) (a 13) (a 14) (a 15) (a 16) (a 17) (a 18) (a 19) (a 20) c.zft c.zer c.zeb c.zli c.zst c.zrd c.ztu c.zla c.zdl c.zsh c.ztb, wH cI cG (fun i => a (21 + i)) c.yc c.yp c.yg, wS cI (a 63) (a 64) (a 65) (a 66) (a 67) c.tx c.cm]) (c1 := [[((a 0), .inr (8, [.ref (a 1), .ref (a 11), .ref (a 21), .ref (a 63)]))], wG cI (a 1) (a 2) (a 3) (a 4) (a 5) (a 6) (a 7) (a 8) (a 9) (a 10) c.ft c.er c.eb c.li c.st c.rd c.tu c.la c.dl c.sh c.tb, wG cI (a 11) (a 12) (a 13) (a 14) (a 15) (a 16) (a 17) (a 18) (a 19) (a 20) c.zft c.zer c.zeb c.zli c.zst c.zrd c.ztu c.zla c.zdl c.zsh c.ztb, wH cI cG (fun i => a (21 + i)) c.yc c.yp c.yg, wS cI (a 63) (a 64) (a 65) (a 66) (a 67) c.tx c.cm]) (bs2 := lwB cI cG cL a o b c mo ol) ⟨hx, hb, hml, hown, hts⟩ (cX5_vigor_ok l G cI cG a fu c.ft c.er c.eb c.li c.st c.rd c.tu c.la c.dl c.sh c.tb c.zft c.zer c.zeb c.zli c.zst c.zrd c.ztu c.zla c.zdl c.zsh c.ztb c.yc c.yp c.yg c.tx c.cm out e1) (cwV 0 hts gL_law_X5_vigor rfl rfl rfl hdX5_vigor ⟨(Nat.le_of_ble_eq_true rfl), (Nat.le_of_ble_eq_true rfl)⟩) hP hD hS hA (tyl_z hK) 8 rfl rfl rfl [0, 1, 2, 3, 4] rfl rfl rfl rfl rfl rfl rfl rfl rfl hl.1 (Nat.le_of_ble_eq_true rfl) dL_law_1295 ⟨(Nat.le_trans (Nat.le_add_right _ _) hf.1), (Nat.le_trans (Nat.le_add_right _ _) hf.2)⟩ (fun H locs hP hD hS => ?_)
  refine lv_dstore (lv' := [(5, .double out), (4, .int i), (3, .ref o), (2, .ref (b 0)), (1, .ref (a 0)), (0, .ref sb)]) hx hb dL_law_1298 hl (by decide) rfl (fun ls hl => ?_)
  refine lv_aload_n hx hb dL_law_1300 rfl (lv_at hl 3 rfl) ?_
  refine bcall_dV (As := []) (rest := []) (c0 := [[((b 0), .inr (9, [.int mo.th, .ref (b 1), .ref (b 2), .ref (b 3), .int mo.sm, .ref (b 4), .int mo.ln, .int mo.nx, .int mo.cd, .int mo.dg, .int mo.pw, .long mo.hs])), ((b 1), .inl (cI, 378, .inl mo.sa)), ((b 2), .inl (cI, 378, .inl mo.asd)), ((b 3), .inl (cI, 1512, .inl mo.sv)), ((b 4), .inl (cI, 120, .inl mo.mt))]]) (c1 := [[((b 0), .inr (9, [.int r.2, .ref (b 1), .ref (b 2), .ref (b 3), .int mo.sm, .ref (b 4), .int mo.ln, .int mo.nx, .int mo.cd, .int mo.dg, .int mo.pw, .long mo.hs])), ((b 1), .inl (cI, 378, .inl mo.sa)), ((b 2), .inl (cI, 378, .inl mo.asd)), ((b 3), .inl (cI, 1512, .inl mo.sv)), ((b 4), .inl (cI, 120, .inl mo.mt))]]) (bs2 := lwB cI cG cL a o b c ((r.2, mo.sa, mo.asd, mo.sv, mo.sm, mo.mt, mo.ln, mo.nx, mo.cd, mo.dg, mo.pw, mo.hs) : MS) ol) ⟨hx, hb, hml, hown, hts⟩ (cX6_vigor_ok l G cI cG (b 0) (b 1) (b 2) (b 3) (b 4) fu mo.th mo.sa mo.asd mo.sv mo.sm mo.mt mo.ln mo.nx mo.cd mo.dg mo.pw mo.hs r e3) (cwV 0 hts gL_law_X6_vigor rfl rfl rfl hdX6_vigor ⟨(Nat.le_of_ble_eq_true rfl), (Nat.le_of_ble_eq_true rfl)⟩) hP hD hS hA (tyl_z hK) 9 rfl rfl rfl [6] rfl rfl rfl rfl rfl rfl rfl rfl rfl hl.1 (Nat.le_of_ble_eq_true rfl) dL_law_1301 ⟨(Nat.le_trans (Nat.le_add_right _ _) hf.1), (Nat.le_trans (Nat.le_add_right _ _) hf.2)⟩ (fun H locs hP hD hS => ?_)
  refine lv_dstore (lv' := [(7, .double r.1), (5, .double out), (4, .int i), (3, .ref o), (2, .ref (b 0)), (1, .ref (a 0)), (0, .ref sb)]) hx hb dL_law_1304 hl (by decide) rfl (fun ls hl => ?_)
  refine lv_dload hx hb dL_law_1306 (lv_at hl 1 rfl) ?_
  refine lv_dload hx hb dL_law_1308 (lv_at hl 0 rfl) ?_
  refine lv_dcmp hx hb dL_law_1310 ?_
  have e4 : out = r.1 := e4
  subst e4
  rcases dcmp_any r.1 with hd9 | hd9
  · rw [hd9]
    refine lv_if_eq (tgt := 1332) hx hb dL_law_1311 (by decide) (fun _ => ?_) (fun c9 => absurd rfl c9)
    refine lv_goto (tgt := 1475) hx hb dL_law_1332 (by decide) ?_
    exact W.widen (Nat.le_add_right _ _) (Nat.le_add_right _ _) (kk c ((r.2, mo.sa, mo.asd, mo.sv, mo.sm, mo.mt, mo.ln, mo.nx, mo.cd, mo.dg, mo.pw, mo.hs) : MS) ol H locs ls e6 hP hD hS (lv_sub hl [2, 3, 4, 5, 6] rfl))
  · rw [hd9]
    refine lv_if_eq (tgt := 1332) hx hb dL_law_1311 (by decide) (fun c9 => absurd c9 (by decide)) (fun _ => ?_)
    refine lv_dload hx hb dL_law_1314 (lv_at hl 1 rfl) ?_
    refine lv_dload hx hb dL_law_1316 (lv_at hl 1 rfl) ?_
    refine lv_dcmp hx hb dL_law_1318 ?_
    rw [hd9]
    refine lv_if_eq (tgt := 1330) hx hb dL_law_1319 (by decide) (fun c9 => absurd c9 (by decide)) (fun _ => ?_)
    refine lv_dload hx hb dL_law_1322 (lv_at hl 0 rfl) ?_
    refine lv_dload hx hb dL_law_1324 (lv_at hl 0 rfl) ?_
    refine lv_dcmp hx hb dL_law_1326 ?_
    rw [hd9]
    refine lv_if_ne (tgt := 1332) hx hb dL_law_1327 (by decide) (fun _ => ?_) (fun c9 => absurd c9 (by decide))
    refine lv_goto (tgt := 1475) hx hb dL_law_1332 (by decide) ?_
    exact W.widen (Nat.le_add_right _ _) (Nat.le_add_right _ _) (kk c ((r.2, mo.sa, mo.asd, mo.sv, mo.sm, mo.mt, mo.ln, mo.nx, mo.cd, mo.dg, mo.pw, mo.hs) : MS) ol H locs ls e6 hP hD hS (lv_sub hl [2, 3, 4, 5, 6] rfl))
