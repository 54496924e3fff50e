theorem lw_toInt {n : Nat} (h : n ≤ 10000) : (Int32.ofNat n).toInt = (n : Int) := nI_toInt (by omega)
theorem lw_gt {L k : Nat} (hL : L ≤ 3584) (hk : k ≤ 512) : (Int32.ofNat L - 7 < Int32.ofNat (7 * k)) ↔ L < 7 * k + 7 := by
  rw [Int32.lt_iff_toInt_lt, Int32.toInt_sub, lw_toInt (by omega), lw_toInt (by omega), show (7 : Int32).toInt = 7 from rfl]
  simp only [Int.bmod]
  split <;> omega
theorem lw_in {L k : Nat} (hL : L ≤ 3584) (h : 7 * k + 7 ≤ L) (j : Int32) (h1 : 1 ≤ j) (h2 : j ≤ 6) : vp_in (Int32.ofNat (7 * k) + j) L := by
  rw [Int32.le_iff_toInt_le] at h1 h2
  rw [show (1 : Int32).toInt = 1 from rfl] at h1
  rw [show (6 : Int32).toInt = 6 from rfl] at h2
  have e : (Int32.ofNat (7 * k) + j).toInt = (7 * k : Nat) + j.toInt := by
    rw [Int32.toInt_add, lw_toInt (by omega)]
    simp only [Int.bmod]
    split <;> omega
  rintro (q | q)
  · rw [Int32.lt_iff_toInt_lt, e, show (0 : Int32).toInt = 0 from rfl] at q
    omega
  · have : (Int32.ofNat (7 * k) + j).toNatClampNeg = (Int32.ofNat (7 * k) + j).toInt.toNat := rfl
    rw [this, e] at q
    omega
theorem lw_in0 {L k : Nat} (hL : L ≤ 3584) (h : 7 * k + 7 ≤ L) : vp_in (Int32.ofNat (7 * k)) L := by
  rintro (q | q)
  · rw [Int32.lt_iff_toInt_lt, lw_toInt (by omega), show (0 : Int32).toInt = 0 from rfl] at q
    omega
  · have : (Int32.ofNat (7 * k)).toNatClampNeg = (Int32.ofNat (7 * k)).toInt.toNat := rfl
    rw [this, lw_toInt (by omega)] at q
    omega
theorem lw_nxt {k : Nat} (hk : k ≤ 512) : Int32.ofNat (7 * k) + Int32.ofInt 7 = Int32.ofNat (7 * (k + 1)) := by
  apply Int32.toInt_inj.mp
  rw [Int32.toInt_add, lw_toInt (by omega), lw_toInt (by omega), show (Int32.ofInt 7).toInt = 7 from rfl]
  simp only [Int.bmod]
  split <;> omega
set_option maxHeartbeats 4000000 in
set_option maxRecDepth 100000 in
theorem law_loop {p : Program} {l : Launch} {e : Env} {s : State} {m : MethodId} {below : List Frame} {meth : Method} {cd : Code} {Q : State → Prop} {A : Nat → Prop} {G : va_G} {cI cG cL : ClassId} {a b : Nat → Nat} {o sb L : Nat} {xs : Nat → Int32} {fu : Nat} {I : Nat → CS → MS → Prop} (S : Sim fu I) (hlf : l.stackTraces = false) (F : CallFix p m cd cL_law 9 s #[.ref sb] wsL_law RL) (hA : ∀ q : Nat, s.heap.size ≤ q → A q) (hK : cK G (tyl cI cG cL) s) (hX : xSt s) (hZ : xZ A s s.heap) (hN : xN s) (hXs : va_X sb L xs s s.heap) (hbl : sb < s.heap.size) (hbA : ¬ A sb) (hL : L ≤ 3584) {c0 s0 : Nat} (hc0 : c0 + 3591 ≤ 601024) (hs0 : s0 + 21546 ≤ 7293034)
    (kend : ∀ (H1 : Heap) (locs1 : List Loc) (ls1 : Array Slot), va_S A s.heap H1 locs1 → W p l e room_1 s m #[.ref sb] below meth cd H1 locs1 (c0 + 3584) (s0 + 21504) Q (F0 m 1481 ls1 [])) : ∀ (t k : Nat) (c : CS) (mo : MS) (ol : Nat → Int64) (H : Heap) (locs : List Loc) (ls : Array Slot), k + t = 512 → I t c mo → va_P G vwCl (lwB cI cG cL a o b c mo ol).flatten H → va_D A (lwB cI cG cL a o b c mo ol).flatten → va_S A s.heap H locs → lv_has ls 9 [(4, .int (Int32.ofNat (7 * k))), (3, .ref o), (2, .ref (b 0)), (1, .ref (a 0)), (0, .ref sb)] → W p l e room_1 s m #[.ref sb] below meth cd H locs (c0 + 7 * k) (s0 + 42 * k) Q (F0 m 23 ls []) := by
  have F0' := F
  obtain ⟨hx, hb, hml, hown, hts⟩ := F0'
  intro t
  induction t with
  | zero =>
    intro k c mo ol H locs ls hk hI hP hD hS hl
    refine lv_iload hx hb dL_law_23 (lv_at hl 0 rfl) ?_
    refine lv_aload_n hx hb dL_law_25 rfl (lv_at hl 4 rfl) ?_
    refine va_slen hx hb hXs hbl hbA hS dL_law_26 ?_
    refine lv_bipush (v := 7) hx hb dL_law_27 (by decide) ?_
    refine lv_isub hx hb dL_law_29 ?_
    refine lv_icmp_gt (tgt := 1481) hx hb dL_law_30 (by decide) (fun _ => W.widen (by omega) (by omega) (kend H locs ls hS)) (fun c9 => absurd ((lw_gt hL (by omega)).mpr (by omega)) c9)
  | succ t ih =>
    intro k c mo ol H locs ls hk hI hP hD hS hl
    refine lv_iload hx hb dL_law_23 (lv_at hl 0 rfl) ?_
    refine lv_aload_n hx hb dL_law_25 rfl (lv_at hl 4 rfl) ?_
    refine va_slen hx hb hXs hbl hbA hS dL_law_26 ?_
    refine lv_bipush (v := 7) hx hb dL_law_27 (by decide) ?_
    refine lv_isub hx hb dL_law_29 ?_
    refine lv_icmp_gt (tgt := 1481) hx hb dL_law_30 (by decide) (fun _ => W.widen (by omega) (by omega) (kend H locs ls hS)) (fun c9 => ?_)
    have hkL : 7 * k + 7 ≤ L := Nat.not_lt.mp (fun h => c9 ((lw_gt hL (by omega)).mpr h))
    have hi := lw_in hL hkL
    have KK : ∀ (c' : CS) (mo' : MS) (ol' : Nat → Int64) (H1 : Heap) (locs1 : List Loc) (ls1 : Array Slot), I t c' mo' → va_P G vwCl (lwB cI cG cL a o b c' mo' ol').flatten H1 → va_D A (lwB cI cG cL a o b c' mo' ol').flatten → va_S A s.heap H1 locs1 → lv_has ls1 9 [(4, .int (Int32.ofNat (7 * k))), (3, .ref o), (2, .ref (b 0)), (1, .ref (a 0)), (0, .ref sb)] → W p l e room_1 s m #[.ref sb] below meth cd H1 locs1 (c0 + 7 * k + 7) (s0 + 42 * k + 42) Q (F0 m 1475 ls1 []) := by
      intro c' mo' ol' H1 locs1 ls1 hI hP hD hS hl
      refine lv_iinc (v := Int32.ofNat (7 * (k + 1))) (lv' := [(4, .int (Int32.ofNat (7 * (k + 1)))), (3, .ref o), (2, .ref (b 0)), (1, .ref (a 0)), (0, .ref sb)]) hx hb dL_law_1475 hl (k := 0) rfl (lw_nxt (by omega)) (by decide) rfl (fun ls hl => ?_)
      refine lv_goto (tgt := 23) hx hb dL_law_1478 (by decide) ?_
      have e1 : c0 + 7 * k + 7 = c0 + 7 * (k + 1) := by omega
      have e2 : s0 + 42 * k + 42 = s0 + 42 * (k + 1) := by omega
      rw [e1, e2]
      exact ih (k + 1) c' mo' ol' H1 locs1 ls (by omega) hI hP hD hS hl
    refine lv_aload_n hx hb dL_law_33 rfl (lv_at hl 4 rfl) ?_
    refine lv_iload hx hb dL_law_34 (lv_at hl 0 rfl) ?_
    refine va_sld hx hb hXs hbl hbA hS (lw_in0 hL hkL) dL_law_36 ?_
    refine lv_bipush (v := 31) hx hb dL_law_37 (by decide) ?_
    refine lv_iand hx hb dL_law_39 ?_
    generalize hz : xs (Int32.ofNat (7 * k)).toNatClampNeg &&& 31 = z
    by_cases h0 : z.toInt = 0
    · refine lv_tableIn (tgt := 156) hx hb dL_law_40 (by rw [h0]; decide) (by rw [h0]; decide) (by rw [h0]; rfl) (by decide) ?_
      exact law_add S hlf F hA hK hX hZ hN hXs hbl hbA hi hI hP hD hS hl ⟨by omega, by omega⟩ KK
    by_cases h1 : z.toInt = 1
    · refine lv_tableIn (tgt := 224) hx hb dL_law_40 (by rw [h1]; decide) (by rw [h1]; decide) (by rw [h1]; rfl) (by decide) ?_
      exact law_setSpeed S hlf F hA hK hX hZ hN hXs hbl hbA hi hI hP hD hS hl ⟨by omega, by omega⟩ KK
    by_cases h2 : z.toInt = 2
    · refine lv_tableIn (tgt := 292) hx hb dL_law_40 (by rw [h2]; decide) (by rw [h2]; decide) (by rw [h2]; rfl) (by decide) ?_
      exact law_setShock S hlf F hA hK hX hZ hN hXs hbl hbA hi hI hP hD hS hl ⟨by omega, by omega⟩ KK
    by_cases h3 : z.toInt = 3
    · refine lv_tableIn (tgt := 348) hx hb dL_law_40 (by rw [h3]; decide) (by rw [h3]; decide) (by rw [h3]; rfl) (by decide) ?_
      exact law_fighter S hlf F hA hK hX hZ hN hXs hbl hbA hi hI hP hD hS hl ⟨by omega, by omega⟩ KK
    by_cases h4 : z.toInt = 4
    · refine lv_tableIn (tgt := 416) hx hb dL_law_40 (by rw [h4]; decide) (by rw [h4]; decide) (by rw [h4]; rfl) (by decide) ?_
      exact law_effect S hlf F hA hK hX hZ hN hXs hbl hbA hi hI hP hD hS hl ⟨by omega, by omega⟩ KK
    by_cases h5 : z.toInt = 5
    · refine lv_tableIn (tgt := 484) hx hb dL_law_40 (by rw [h5]; decide) (by rw [h5]; decide) (by rw [h5]; rfl) (by decide) ?_
      exact law_value S hlf F hA hK hX hZ hN hXs hbl hbA hi hI hP hD hS hl ⟨by omega, by omega⟩ KK
    by_cases h6 : z.toInt = 6
    · refine lv_tableIn (tgt := 540) hx hb dL_law_40 (by rw [h6]; decide) (by rw [h6]; decide) (by rw [h6]; rfl) (by decide) ?_
      exact law_inList S hlf F hA hK hX hZ hN hXs hbl hbA hi hI hP hD hS hl ⟨by omega, by omega⟩ KK
    by_cases h7 : z.toInt = 7
    · refine lv_tableIn (tgt := 596) hx hb dL_law_40 (by rw [h7]; decide) (by rw [h7]; decide) (by rw [h7]; rfl) (by decide) ?_
      exact law_next S hlf F hA hK hX hZ hN hXs hbl hbA hi hI hP hD hS hl ⟨by omega, by omega⟩ KK
    by_cases h8 : z.toInt = 8
    · refine lv_tableIn (tgt := 640) hx hb dL_law_40 (by rw [h8]; decide) (by rw [h8]; decide) (by rw [h8]; rfl) (by decide) ?_
      exact law_end S hlf F hA hK hX hZ hN hXs hbl hbA hi hI hP hD hS hl ⟨by omega, by omega⟩ KK
    by_cases h9 : z.toInt = 9
    · refine lv_tableIn (tgt := 684) hx hb dL_law_40 (by rw [h9]; decide) (by rw [h9]; decide) (by rw [h9]; rfl) (by decide) ?_
      exact law_delay S hlf F hA hK hX hZ hN hXs hbl hbA hi hI hP hD hS hl ⟨by omega, by omega⟩ KK
    by_cases h10 : z.toInt = 10
    · refine lv_tableIn (tgt := 728) hx hb dL_law_40 (by rw [h10]; decide) (by rw [h10]; decide) (by rw [h10]; rfl) (by decide) ?_
      exact law_comeIn S hlf F hA hK hX hZ hN hXs hbl hbA hi hI hP hD hS hl ⟨by omega, by omega⟩ KK
    by_cases h11 : z.toInt = 11
    · refine lv_tableIn (tgt := 784) hx hb dL_law_40 (by rw [h11]; decide) (by rw [h11]; decide) (by rw [h11]; rfl) (by decide) ?_
      exact law_act S hlf F hA hK hX hZ hN hXs hbl hbA hi hI hP hD hS hl ⟨by omega, by omega⟩ KK
    by_cases h12 : z.toInt = 12
    · refine lv_tableIn (tgt := 876) hx hb dL_law_40 (by rw [h12]; decide) (by rw [h12]; decide) (by rw [h12]; rfl) (by decide) ?_
      exact law_cast S hlf F hA hK hX hZ hN hXs hbl hbA hi hI hP hD hS hl ⟨by omega, by omega⟩ KK
    by_cases h13 : z.toInt = 13
    · refine lv_tableIn (tgt := 994) hx hb dL_law_40 (by rw [h13]; decide) (by rw [h13]; decide) (by rw [h13]; rfl) (by decide) ?_
      exact law_settle S hlf F hA hK hX hZ hN hXs hbl hbA hi hI hP hD hS hl ⟨by omega, by omega⟩ KK
    by_cases h14 : z.toInt = 14
    · refine lv_tableIn (tgt := 1038) hx hb dL_law_40 (by rw [h14]; decide) (by rw [h14]; decide) (by rw [h14]; rfl) (by decide) ?_
      exact law_stacked S hlf F hA hK hX hZ hN hXs hbl hbA hi hI hP hD hS hl ⟨by omega, by omega⟩ KK
    by_cases h15 : z.toInt = 15
    · refine lv_tableIn (tgt := 1106) hx hb dL_law_40 (by rw [h15]; decide) (by rw [h15]; decide) (by rw [h15]; rfl) (by decide) ?_
      exact law_mayAnswer S hlf F hA hK hX hZ hN hXs hbl hbA hi hI hP hD hS hl ⟨by omega, by omega⟩ KK
    by_cases h16 : z.toInt = 16
    · refine lv_tableIn (tgt := 1169) hx hb dL_law_40 (by rw [h16]; decide) (by rw [h16]; decide) (by rw [h16]; rfl) (by decide) ?_
      exact law_upcoming S hlf F hA hK hX hZ hN hXs hbl hbA hi hI hP hD hS hl ⟨by omega, by omega⟩ KK
    by_cases h17 : z.toInt = 17
    · refine lv_tableIn (tgt := 1225) hx hb dL_law_40 (by rw [h17]; decide) (by rw [h17]; decide) (by rw [h17]; rfl) (by decide) ?_
      exact law_goneAfter S hlf F hA hK hX hZ hN hXs hbl hbA hi hI hP hD hS hl ⟨by omega, by omega⟩ KK
    by_cases h18 : z.toInt = 18
    · refine lv_tableIn (tgt := 1281) hx hb dL_law_40 (by rw [h18]; decide) (by rw [h18]; decide) (by rw [h18]; rfl) (by decide) ?_
      exact law_lifeSettled S hlf F hA hK hX hZ hN hXs hbl hbA hi hI hP hD hS hl ⟨by omega, by omega⟩ KK
    by_cases h19 : z.toInt = 19
    · refine lv_tableIn (tgt := 1294) hx hb dL_law_40 (by rw [h19]; decide) (by rw [h19]; decide) (by rw [h19]; rfl) (by decide) ?_
      exact law_vigor S hlf F hA hK hX hZ hN hXs hbl hbA hi hI hP hD hS hl ⟨by omega, by omega⟩ KK
    by_cases h20 : z.toInt = 20
    · refine lv_tableIn (tgt := 1335) hx hb dL_law_40 (by rw [h20]; decide) (by rw [h20]; decide) (by rw [h20]; rfl) (by decide) ?_
      exact law_append S hlf F hA hK hX hZ hN hXs hbl hbA hi hI hP hD hS hl ⟨by omega, by omega⟩ KK
    by_cases h21 : z.toInt = 21
    · refine lv_tableIn (tgt := 1391) hx hb dL_law_40 (by rw [h21]; decide) (by rw [h21]; decide) (by rw [h21]; rfl) (by decide) ?_
      exact law_clearText S hlf F hA hK hX hZ hN hXs hbl hbA hi hI hP hD hS hl ⟨by omega, by omega⟩ KK
    by_cases h22 : z.toInt = 22
    · refine lv_tableIn (tgt := 1404) hx hb dL_law_40 (by rw [h22]; decide) (by rw [h22]; decide) (by rw [h22]; rfl) (by decide) ?_
      exact law_carryOut S hlf F hA hK hX hZ hN hXs hbl hbA hi hI hP hD hS hl ⟨by omega, by omega⟩ KK
    by_cases h23 : z.toInt = 23
    · refine lv_tableIn (tgt := 1417) hx hb dL_law_40 (by rw [h23]; decide) (by rw [h23]; decide) (by rw [h23]; rfl) (by decide) ?_
      exact law_undo S hlf F hA hK hX hZ hN hXs hbl hbA hi hI hP hD hS hl ⟨by omega, by omega⟩ KK
    by_cases h24 : z.toInt = 24
    · refine lv_tableIn (tgt := 1461) hx hb dL_law_40 (by rw [h24]; decide) (by rw [h24]; decide) (by rw [h24]; rfl) (by decide) ?_
      exact law_digest S hlf F hA hK hX hZ hN hXs hbl hbA hi hI hP hD hS hl ⟨by omega, by omega⟩ KK
    refine lv_tableOut (tgt := 1475) hx hb dL_law_40 (by omega) (by decide) ?_
    exact W.widen (Nat.le_add_right _ _) (Nat.le_add_right _ _) (KK c mo ol H locs ls (S.s_mono hI) hP hD hS hl)
