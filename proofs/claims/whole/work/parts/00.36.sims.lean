/-! call by call: the same answers, and what holds holds again -/
theorem bIf : (bI false = 0) = True := eq_true bI_ff
theorem bIt : (bI true = 0) = False := eq_false bI_t
theorem reqF {ft : Tab} {p : Int32} {b : Bool} (h : fX1_isFighter ft p = some b) : fX5_requireFighter ft p = some (if b = true then .inr () else .inl "java/lang/IndexOutOfBoundsException") := by
  rw [fX5_requireFighter, h]
  cases b <;> simp only [Option.bind_some, bIf, bIt, if_true, if_false] <;> simp
theorem reqW (p a b : Int32) : fX5_requireWithin p a b = some (if inB p a b = true then .inr () else .inl "java/lang/IllegalArgumentException") := by
  rw [fX5_requireWithin, c_within]
  cases inB p a b <;> simp only [Option.bind_some, bIf, bIt, if_true, if_false] <;> simp
theorem reqP (b : Bool) : fX5_requirePossible b = some (if b = true then .inr () else .inl "java/lang/IllegalStateException") := by
  rw [fX5_requirePossible]
  cases b <;> simp only [bIf, bIt, if_true, if_false] <;> simp
theorem bft : (false = true) = False := eq_false (by decide)
theorem btt : (true = true) = True := eq_true rfl
theorem sim_add {fu : Nat} (hfu : 2000 < fu) : Sim_add fu Inv := by
  intro n c mo p1 p2 hI
  have hI0 := hI
  obtain ⟨B, hB, hG, hZ, hH, hT, hC⟩ := hI
  obtain ⟨yc', yp', yg', sv', sm', s1, s2, s3⟩ := g_save (fu := fu) hG hH hfu
  obtain ⟨m, es, fl, sk, h⟩ := hG
  have hm := h.2.2.2.1.2
  have e0 : mo.sa 0 = nI m := h.2.2.2.1.1
  cases h1 : inB p1 1 30 with
  | false =>
    refine ⟨.inl "java/lang/IllegalArgumentException", (0, 1, mo.sa, mo.sv, mo.sm), ?_, ?_, ?_, ?_, ?_, inv_stay hI0 _ _ _ _ _ _ _⟩
    · simp only [fX5_add, c_within, m_in, fX6_fails, Option.bind_some, Sum.elim_inl, Sum.elim_inr, bIf, bIt, if_true, if_false, bft, btt, h1]
    · intro E hE; cases hE; exact Or.inl rfl
    · simp only [fX6_add, c_within, m_in, fX6_fails, Option.bind_some, Sum.elim_inl, Sum.elim_inr, bIf, bIt, if_true, if_false, bft, btt, h1]
    · rw [Sum.elim_inl, if_pos rfl]
    · intro u hu; cases hu
  | true =>
    cases h2 : inB p2 1 200 with
    | false =>
      refine ⟨.inl "java/lang/IllegalArgumentException", (0, 1, mo.sa, mo.sv, mo.sm), ?_, ?_, ?_, ?_, ?_, inv_stay hI0 _ _ _ _ _ _ _⟩
      · simp only [fX5_add, c_within, m_in, fX6_fails, Option.bind_some, Sum.elim_inl, Sum.elim_inr, bIf, bIt, if_true, if_false, bft, btt, h1, h2]
      · intro E hE; cases hE; exact Or.inl rfl
      · simp only [fX6_add, c_within, m_in, fX6_fails, Option.bind_some, Sum.elim_inl, Sum.elim_inr, bIf, bIt, if_true, if_false, bft, btt, h1, h2]
      · rw [Sum.elim_inl, if_pos rfl]
      · intro u hu; cases hu
    | true =>
      by_cases h3 : m < 10
      · have h4 : nI m < 10 := nI_lt (b := 10) h3 (by decide)
        have h5 : ¬ nI m = 10 := fun q => by have := (nI_inj (b := 10) (by omega) (by decide)).mp q; omega
        obtain ⟨lf, l1, l2, rfl⟩ := inB_r (a := 1) (b := 200) h2 (by decide) (by decide)
        obtain ⟨ft', sa', x5, x6, x7, x8, x9, a1, a2, a3, a4, a5, a6, a7, hG'⟩ := g_add (fu := fu) p1 h h3 l1 l2 hfu
        refine ⟨.inr (nI m, ft', yc', yp', yg'), (nI m, 0, sa', sv', sm'), ?_, ?_, ?_, rfl, ?_, ?_⟩
        · simp only [fX5_add, c_within, m_in, fX6_fails, Option.bind_some, Sum.elim_inl, Sum.elim_inr, bIf, bIt, if_true, if_false, bft, btt, h1, h2, fX1_fighterCount, h.1.1.cnt, h4, s1, a1]
        · intro E hE; cases hE
        · simp only [fX6_add, c_within, m_in, fX6_fails, Option.bind_some, Sum.elim_inl, Sum.elim_inr, bIf, bIt, if_true, if_false, bft, btt, h1, h2, q0, g0, e0, h5, s2, a2, a3, a4, a5, a6, a7]
        · intro u hu; cases hu; rfl
        · exact ⟨B, by omega, ⟨_, _, _, _, hG'⟩, hZ, s3, hT, hC⟩
      · have h4 : ¬ nI m < 10 := nI_nlt (b := 10) (by omega) (by omega)
        have h5 : nI m = 10 := by rw [show m = 10 by omega]; rfl
        refine ⟨.inl "java/lang/IllegalStateException", (0, 2, mo.sa, mo.sv, mo.sm), ?_, ?_, ?_, ?_, ?_, inv_stay hI0 _ _ _ _ _ _ _⟩
        · simp only [fX5_add, c_within, m_in, fX6_fails, Option.bind_some, Sum.elim_inl, Sum.elim_inr, bIf, bIt, if_true, if_false, bft, btt, h1, h2, fX1_fighterCount, h.1.1.cnt, h4]
        · intro E hE; cases hE; exact Or.inr (rfl)
        · simp only [fX6_add, c_within, m_in, fX6_fails, Option.bind_some, Sum.elim_inl, Sum.elim_inr, bIf, bIt, if_true, if_false, bft, btt, h1, h2, q0, g0, e0, h5]
        · rw [Sum.elim_inl, if_neg (by decide), if_pos rfl]
        · intro u hu; cases hu
theorem sim_setSpeed {fu : Nat} (hfu : 2000 < fu) : Sim_setSpeed fu Inv := by
  intro n c mo p1 p2 hI
  have hI0 := hI
  obtain ⟨B, hB, hG, hZ, hH, hT, hC⟩ := hI
  obtain ⟨yc', yp', yg', sv', sm', s1, s2, s3⟩ := g_save (fu := fu) hG hH hfu
  obtain ⟨m, es, fl, sk, h⟩ := hG
  have hm := h.2.2.2.1.2
  have e0 : mo.sa 0 = nI m := h.2.2.2.1.1
  obtain ⟨b1, i1, i2, i3⟩ := g_isF h p1
  cases b1 with
  | false =>
    refine ⟨.inl "java/lang/IndexOutOfBoundsException", (0, 1, mo.sa, mo.sv, mo.sm), ?_, ?_, ?_, ?_, ?_, inv_stay hI0 _ _ _ _ _ _ _⟩
    · simp only [fX5_setSpeed, c_within, m_in, fX6_fails, Option.bind_some, Sum.elim_inl, Sum.elim_inr, bIf, bIt, if_true, if_false, bft, btt, reqF i1]
    · intro E hE; cases hE; exact Or.inl rfl
    · simp only [fX6_setSpeed, c_within, m_in, fX6_fails, Option.bind_some, Sum.elim_inl, Sum.elim_inr, bIf, bIt, if_true, if_false, bft, btt, i2]
    · rw [Sum.elim_inl, if_pos rfl]
    · intro u hu; cases hu
  | true =>
    obtain ⟨a, ha, rfl⟩ := i3 rfl
    cases h2 : inB p2 1 30 with
    | false =>
      refine ⟨.inl "java/lang/IllegalArgumentException", (0, 2, mo.sa, mo.sv, mo.sm), ?_, ?_, ?_, ?_, ?_, inv_stay hI0 _ _ _ _ _ _ _⟩
      · simp only [fX5_setSpeed, c_within, m_in, fX6_fails, Option.bind_some, Sum.elim_inl, Sum.elim_inr, bIf, bIt, if_true, if_false, bft, btt, reqF i1, reqW, h2]
      · intro E hE; cases hE; exact Or.inr (rfl)
      · simp only [fX6_setSpeed, c_within, m_in, fX6_fails, Option.bind_some, Sum.elim_inl, Sum.elim_inr, bIf, bIt, if_true, if_false, bft, btt, i2, h2]
      · rw [Sum.elim_inl, if_neg (by decide), if_pos rfl]
      · intro u hu; cases hu
    | true =>
      obtain ⟨ft', sa', v, a1, a2, a3, hG'⟩ := g_speed p2 h ha
      refine ⟨.inr (v, ft', yc', yp', yg'), (v, 0, sa', sv', sm'), ?_, ?_, ?_, rfl, ?_, ?_⟩
      · simp only [fX5_setSpeed, c_within, m_in, fX6_fails, Option.bind_some, Sum.elim_inl, Sum.elim_inr, bIf, bIt, if_true, if_false, bft, btt, reqF i1, reqW, h2, s1, a1]
      · intro E hE; cases hE
      · simp only [fX6_setSpeed, c_within, m_in, fX6_fails, Option.bind_some, Sum.elim_inl, Sum.elim_inr, bIf, bIt, if_true, if_false, bft, btt, i2, h2, s2, a2, a3]
      · intro u hu; cases hu; rfl
      · exact ⟨B, by omega, ⟨_, _, _, _, hG'⟩, hZ, s3, hT, hC⟩
theorem sim_setShock {fu : Nat} (hfu : 2000 < fu) : Sim_setShock fu Inv := by
  intro n c mo p1 hI
  have hI0 := hI
  obtain ⟨B, hB, hG, hZ, hH, hT, hC⟩ := hI
  obtain ⟨yc', yp', yg', sv', sm', s1, s2, s3⟩ := g_save (fu := fu) hG hH hfu
  obtain ⟨m, es, fl, sk, h⟩ := hG
  have hm := h.2.2.2.1.2
  have e0 : mo.sa 0 = nI m := h.2.2.2.1.1
  cases h1 : inB p1 1 200 with
  | false =>
    refine ⟨.inl "java/lang/IllegalArgumentException", (0, 1, mo.sa, mo.sv, mo.sm), ?_, ?_, ?_, ?_, ?_, inv_stay hI0 _ _ _ _ _ _ _⟩
    · simp only [fX5_setShock, c_within, m_in, fX6_fails, Option.bind_some, Sum.elim_inl, Sum.elim_inr, bIf, bIt, if_true, if_false, bft, btt, reqW, h1]
    · intro E hE; cases hE; exact rfl
    · simp only [fX6_setShock, c_within, m_in, fX6_fails, Option.bind_some, Sum.elim_inl, Sum.elim_inr, bIf, bIt, if_true, if_false, bft, btt, h1]
    · rw [Sum.elim_inl, if_pos rfl]
    · intro u hu; cases hu
  | true =>
    refine ⟨.inr (c.sh, p1, yc', yp', yg'), (mo.sa 2, 0, upd mo.sa 2 p1, sv', sm'), ?_, ?_, ?_, rfl, ?_, ?_⟩
    · simp only [fX5_setShock, c_within, m_in, fX6_fails, Option.bind_some, Sum.elim_inl, Sum.elim_inr, bIf, bIt, if_true, if_false, bft, btt, reqW, h1, s1, fX1_changeShock]
    · intro E hE; cases hE
    · simp only [fX6_setShock, c_within, m_in, fX6_fails, Option.bind_some, Sum.elim_inl, Sum.elim_inr, bIf, bIt, if_true, if_false, bft, btt, h1, s2, q2, g2]
    · intro u hu; cases hu; exact h.2.1.2.2.2.2.1
    · exact ⟨B, by omega, ⟨_, _, _, _, g_shock p1 h⟩, hZ, s3, hT, hC⟩
theorem sim_fighter {fu : Nat} (hfu : 2000 < fu) : Sim_fighter fu Inv := by
  intro n c mo p1 p2 hI
  have hI0 := hI
  obtain ⟨B, hB, hG, hZ, hH, hT, hC⟩ := hI
  obtain ⟨yc', yp', yg', sv', sm', s1, s2, s3⟩ := g_save (fu := fu) hG hH hfu
  obtain ⟨m, es, fl, sk, h⟩ := hG
  have hm := h.2.2.2.1.2
  have e0 : mo.sa 0 = nI m := h.2.2.2.1.1
  obtain ⟨b1, i1, i2, i3⟩ := g_isF h p1
  cases b1 with
  | false =>
    refine ⟨.inl "java/lang/IndexOutOfBoundsException", (0, 1), ?_, ?_, ?_, ?_, ?_, inv_stay hI0 _ _ _ _ _ _ _⟩
    · simp only [fX5_fighter, c_within, m_in, fX6_fails, Option.bind_some, Sum.elim_inl, Sum.elim_inr, bIf, bIt, if_true, if_false, bft, btt, reqF i1]
    · intro E hE; cases hE; exact Or.inl rfl
    · simp only [fX6_fighter, c_within, m_in, fX6_fails, Option.bind_some, Sum.elim_inl, Sum.elim_inr, bIf, bIt, if_true, if_false, bft, btt, i2]
    · rw [Sum.elim_inl, if_pos rfl]
    · intro u hu; cases hu
  | true =>
    obtain ⟨a, ha, rfl⟩ := i3 rfl
    cases h2 : inB p2 0 8 with
    | false =>
      refine ⟨.inl "java/lang/IllegalArgumentException", (0, 2), ?_, ?_, ?_, ?_, ?_, inv_stay hI0 _ _ _ _ _ _ _⟩
      · simp only [fX5_fighter, c_within, m_in, fX6_fails, Option.bind_some, Sum.elim_inl, Sum.elim_inr, bIf, bIt, if_true, if_false, bft, btt, reqF i1, reqW, h2]
      · intro E hE; cases hE; exact Or.inr (rfl)
      · simp only [fX6_fighter, c_within, m_in, fX6_fails, Option.bind_some, Sum.elim_inl, Sum.elim_inr, bIf, bIt, if_true, if_false, bft, btt, i2, h2]
      · rw [Sum.elim_inl, if_neg (by decide), if_pos rfl]
      · intro u hu; cases hu
    | true =>
      obtain ⟨w, -, w2, rfl⟩ := inB_r (a := 0) (b := 8) h2 (by decide) (by decide)
      obtain ⟨v, v1, v2⟩ := g_about h ha hfu w w2
      refine ⟨.inr v, (v, 0), ?_, ?_, ?_, rfl, ?_, ?_⟩
      · simp only [fX5_fighter, c_within, m_in, fX6_fails, Option.bind_some, Sum.elim_inl, Sum.elim_inr, bIf, bIt, if_true, if_false, bft, btt, reqF i1, reqW, h2, v1]
      · intro E hE; cases hE
      · simp only [fX6_fighter, c_within, m_in, fX6_fails, Option.bind_some, Sum.elim_inl, Sum.elim_inr, bIf, bIt, if_true, if_false, bft, btt, i2, h2, v2]
      · intro u hu; cases hu; rfl
      · exact inv_stay hI0 _ _ _ _ _ _ _
theorem sim_effect {fu : Nat} (hfu : 2000 < fu) : Sim_effect fu Inv := by
  intro n c mo p1 p2 hI
  have hI0 := hI
  obtain ⟨B, hB, hG, hZ, hH, hT, hC⟩ := hI
  obtain ⟨yc', yp', yg', sv', sm', s1, s2, s3⟩ := g_save (fu := fu) hG hH hfu
  obtain ⟨m, es, fl, sk, h⟩ := hG
  have hm := h.2.2.2.1.2
  have e0 : mo.sa 0 = nI m := h.2.2.2.1.1
  have hE : EC c.er es := h.1.2.1
  have e1 : mo.sa 1 = nI es.length := h.2.2.2.2.1.1.1
  have hle := hE.le
  cases h1 : inB p1 0 (nI es.length - 1) with
  | false =>
    refine ⟨.inl "java/lang/IndexOutOfBoundsException", (0, 1), ?_, ?_, ?_, ?_, ?_, inv_stay hI0 _ _ _ _ _ _ _⟩
    · simp only [fX5_effect, c_within, m_in, fX6_fails, Option.bind_some, Sum.elim_inl, Sum.elim_inr, bIf, bIt, if_true, if_false, bft, btt, fX5_requireEffect, fX1_effectCount, fX0_count, hE.cnt, h1]
    · intro E hE; cases hE; exact Or.inl rfl
    · simp only [fX6_effect, c_within, m_in, fX6_fails, Option.bind_some, Sum.elim_inl, Sum.elim_inr, bIf, bIt, if_true, if_false, bft, btt, q1, g1, e1, h1]
    · rw [Sum.elim_inl, if_pos rfl]
    · intro u hu; cases hu
  | true =>
    obtain ⟨a, ha, rfl⟩ := inB_ix h1 (by omega)
    cases h2 : inB p2 0 6 with
    | false =>
      refine ⟨.inl "java/lang/IllegalArgumentException", (0, 2), ?_, ?_, ?_, ?_, ?_, inv_stay hI0 _ _ _ _ _ _ _⟩
      · simp only [fX5_effect, c_within, m_in, fX6_fails, Option.bind_some, Sum.elim_inl, Sum.elim_inr, bIf, bIt, if_true, if_false, bft, btt, fX5_requireEffect, fX1_effectCount, fX0_count, hE.cnt, h1, reqW, h2]
      · intro E hE; cases hE; exact Or.inr (rfl)
      · simp only [fX6_effect, c_within, m_in, fX6_fails, Option.bind_some, Sum.elim_inl, Sum.elim_inr, bIf, bIt, if_true, if_false, bft, btt, q1, g1, e1, h1, h2]
      · rw [Sum.elim_inl, if_neg (by decide), if_pos rfl]
      · intro u hu; cases hu
    | true =>
      obtain ⟨w, -, w2, rfl⟩ := inB_r (a := 0) (b := 6) h2 (by decide) (by decide)
      obtain ⟨v, v1, v2⟩ := g_aboutE h ha (show w < 8 by omega)
      refine ⟨.inr v, (v, 0), ?_, ?_, ?_, rfl, ?_, ?_⟩
      · simp only [fX5_effect, c_within, m_in, fX6_fails, Option.bind_some, Sum.elim_inl, Sum.elim_inr, bIf, bIt, if_true, if_false, bft, btt, fX5_requireEffect, fX1_effectCount, fX0_count, hE.cnt, h1, reqW, h2, v1]
      · intro E hE; cases hE
      · simp only [fX6_effect, c_within, m_in, fX6_fails, Option.bind_some, Sum.elim_inl, Sum.elim_inr, bIf, bIt, if_true, if_false, bft, btt, q1, g1, e1, h1, h2, v2]
      · intro u hu; cases hu; rfl
      · exact inv_stay hI0 _ _ _ _ _ _ _
theorem sim_value {fu : Nat} (hfu : 2000 < fu) : Sim_value fu Inv := by
  intro n c mo p1 hI
  have hI0 := hI
  obtain ⟨B, hB, hG, hZ, hH, hT, hC⟩ := hI
  obtain ⟨yc', yp', yg', sv', sm', s1, s2, s3⟩ := g_save (fu := fu) hG hH hfu
  obtain ⟨m, es, fl, sk, h⟩ := hG
  have hm := h.2.2.2.1.2
  have e0 : mo.sa 0 = nI m := h.2.2.2.1.1
  cases h2 : inB p1 0 8 with
  | false =>
    refine ⟨.inl "java/lang/IllegalArgumentException", (0, 1), ?_, ?_, ?_, ?_, ?_, inv_stay hI0 _ _ _ _ _ _ _⟩
    · simp only [fX5_value, c_within, m_in, fX6_fails, Option.bind_some, Sum.elim_inl, Sum.elim_inr, bIf, bIt, if_true, if_false, bft, btt, reqW, h2]
    · intro E hE; cases hE; exact rfl
    · simp only [fX6_value, c_within, m_in, fX6_fails, Option.bind_some, Sum.elim_inl, Sum.elim_inr, bIf, bIt, if_true, if_false, bft, btt, h2]
    · rw [Sum.elim_inl, if_pos rfl]
    · intro u hu; cases hu
  | true =>
    obtain ⟨w, -, w2, rfl⟩ := inB_r (a := 0) (b := 8) h2 (by decide) (by decide)
    obtain ⟨v, v1, v2⟩ := g_number h hfu w w2
    refine ⟨.inr v, (v, 0), ?_, ?_, ?_, rfl, ?_, ?_⟩
    · simp only [fX5_value, c_within, m_in, fX6_fails, Option.bind_some, Sum.elim_inl, Sum.elim_inr, bIf, bIt, if_true, if_false, bft, btt, reqW, h2, v1]
    · intro E hE; cases hE
    · simp only [fX6_value, c_within, m_in, fX6_fails, Option.bind_some, Sum.elim_inl, Sum.elim_inr, bIf, bIt, if_true, if_false, bft, btt, h2, v2]
    · intro u hu; cases hu; rfl
    · exact inv_stay hI0 _ _ _ _ _ _ _
theorem sim_inList {fu : Nat} (hfu : 2000 < fu) : Sim_inList fu Inv := by
  intro n c mo p1 hI
  have hI0 := hI
  obtain ⟨B, hB, hG, hZ, hH, hT, hC⟩ := hI
  obtain ⟨yc', yp', yg', sv', sm', s1, s2, s3⟩ := g_save (fu := fu) hG hH hfu
  obtain ⟨m, es, fl, sk, h⟩ := hG
  have hm := h.2.2.2.1.2
  have e0 : mo.sa 0 = nI m := h.2.2.2.1.1
  have hL : LC c.li mo.sa fl := h.1.2.2.1
  have e6 : mo.sa 6 = nI fl.length := h.2.2.2.2.2.1.1.1
  have hle := hL.le
  cases h1 : inB p1 0 (nI fl.length - 1) with
  | false =>
    refine ⟨.inl "java/lang/IndexOutOfBoundsException", (0, 1), ?_, ?_, ?_, ?_, ?_, inv_stay hI0 _ _ _ _ _ _ _⟩
    · simp only [fX5_inList, c_within, m_in, fX6_fails, Option.bind_some, Sum.elim_inl, Sum.elim_inr, bIf, bIt, if_true, if_false, bft, btt, fX1_listLength, hL.cnt, h1]
    · intro E hE; cases hE; exact rfl
    · simp only [fX6_inList, c_within, m_in, fX6_fails, Option.bind_some, Sum.elim_inl, Sum.elim_inr, bIf, bIt, if_true, if_false, bft, btt, q6, g6, e6, h1]
    · rw [Sum.elim_inl, if_pos rfl]
    · intro u hu; cases hu
  | true =>
    obtain ⟨a, ha, rfl⟩ := inB_ix h1 (by omega)
    obtain ⟨f, f1, f2, f3⟩ := g_aboutL h ha
    have hcl : (nI (72 + a)).toNatClampNeg = 72 + a := nI_clamp (by omega)
    have hg : (¬ (nI (72 + a) < 0 ∨ 378 ≤ 72 + a)) = True := gT (by omega) (by decide)
    refine ⟨.inr (nI f), (nI f, 0), ?_, ?_, ?_, rfl, ?_, ?_⟩
    · simp only [fX5_inList, c_within, m_in, fX6_fails, Option.bind_some, Sum.elim_inl, Sum.elim_inr, bIf, bIt, if_true, if_false, bft, btt, fX1_listLength, hL.cnt, h1, f2]
    · intro E hE; cases hE
    · simp only [fX6_inList, c_within, m_in, fX6_fails, Option.bind_some, Sum.elim_inl, Sum.elim_inr, bIf, bIt, if_true, if_false, bft, btt, q6, g6, e6, h1, ofL, hcl, hg, f3]
    · intro u hu; cases hu; rfl
    · exact inv_stay hI0 _ _ _ _ _ _ _
theorem sim_next {fu : Nat} (hfu : 2000 < fu) : Sim_next fu Inv := by
  intro n c mo hI
  have hI0 := hI
  obtain ⟨B, hB, hG, hZ, hH, hT, hC⟩ := hI
  obtain ⟨yc', yp', yg', sv', sm', s1, s2, s3⟩ := g_save (fu := fu) hG hH hfu
  obtain ⟨m, es, fl, sk, h⟩ := hG
  have hm := h.2.2.2.1.2
  have e0 : mo.sa 0 = nI m := h.2.2.2.1.1
  obtain ⟨b1, i1, i2, i3⟩ := g_may1 h
  by_cases z : mo.sa 4 = -1
  · rw [if_pos z] at i2
    subst i2
    obtain ⟨ht, hsk⟩ := i3 rfl
    subst hsk
    obtain ⟨r, es', fl', ft', er', li', rd', tu', la', dl', tb', sa', a1, a2, hG', -⟩ := g_begin h ht hfu (by omega)
    refine ⟨.inr (r, ft', er', li', rd', tu', la', dl', tb', yc', yp', yg'), (r, 0, sa', sv', sm'), ?_, ?_, ?_, rfl, ?_, ?_⟩
    · simp only [fX5_next, c_within, m_in, fX6_fails, Option.bind_some, Sum.elim_inl, Sum.elim_inr, bIf, bIt, if_true, if_false, bft, btt, i1, reqP, s1, a1]
    · intro E hE; cases hE
    · simp only [fX6_next, c_within, m_in, fX6_fails, Option.bind_some, Sum.elim_inl, Sum.elim_inr, bIf, bIt, if_true, if_false, bft, btt, q4, g4, z, s2, a2]
    · intro u hu; cases hu; rfl
    · exact ⟨B + 1, by omega, ⟨_, _, _, _, hG'⟩, hZ, s3.mono (Nat.le_succ B), hT, hC⟩
  · rw [if_neg z] at i2
    subst i2
    refine ⟨.inl "java/lang/IllegalStateException", (0, 1, mo.sa, mo.sv, mo.sm), ?_, ?_, ?_, ?_, ?_, inv_stay hI0 _ _ _ _ _ _ _⟩
    · simp only [fX5_next, c_within, m_in, fX6_fails, Option.bind_some, Sum.elim_inl, Sum.elim_inr, bIf, bIt, if_true, if_false, bft, btt, i1, reqP]
    · intro E hE; cases hE; exact rfl
    · simp only [fX6_next, c_within, m_in, fX6_fails, Option.bind_some, Sum.elim_inl, Sum.elim_inr, bIf, bIt, if_true, if_false, bft, btt, q4, g4, z]
    · rw [Sum.elim_inl, if_pos rfl]
    · intro u hu; cases hu
theorem sim_end {fu : Nat} (hfu : 2000 < fu) : Sim_end fu Inv := by
  intro n c mo hI
  have hI0 := hI
  obtain ⟨B, hB, hG, hZ, hH, hT, hC⟩ := hI
  obtain ⟨yc', yp', yg', sv', sm', s1, s2, s3⟩ := g_save (fu := fu) hG hH hfu
  obtain ⟨m, es, fl, sk, h⟩ := hG
  have hm := h.2.2.2.1.2
  have e0 : mo.sa 0 = nI m := h.2.2.2.1.1
  obtain ⟨b1, i1, i2, i3⟩ := g_mayE h
  cases b1 with
  | false =>
    refine ⟨.inl "java/lang/IllegalStateException", (0, 1, mo.sa, mo.sv, mo.sm), ?_, ?_, ?_, ?_, ?_, inv_stay hI0 _ _ _ _ _ _ _⟩
    · simp only [fX5_end, c_within, m_in, fX6_fails, Option.bind_some, Sum.elim_inl, Sum.elim_inr, bIf, bIt, if_true, if_false, bft, btt, i1, reqP]
    · intro E hE; cases hE; exact rfl
    · simp only [fX6_end, c_within, m_in, fX6_fails, Option.bind_some, Sum.elim_inl, Sum.elim_inr, bIf, bIt, if_true, if_false, bft, btt, i2]
    · rw [Sum.elim_inl, if_pos rfl]
    · intro u hu; cases hu
  | true =>
    have hsk := i3 rfl
    subst hsk
    obtain ⟨er', sa', k, a1, a2, a3, hG', -⟩ := g_end h hfu
    refine ⟨.inr (nI k, er', -1, yc', yp', yg'), (nI k, 0, sa', sv', sm'), ?_, ?_, ?_, rfl, ?_, ?_⟩
    · simp only [fX5_end, c_within, m_in, fX6_fails, Option.bind_some, Sum.elim_inl, Sum.elim_inr, bIf, bIt, if_true, if_false, bft, btt, i1, reqP, s1, a1]
    · intro E hE; cases hE
    · simp only [fX6_end, c_within, m_in, fX6_fails, Option.bind_some, Sum.elim_inl, Sum.elim_inr, bIf, bIt, if_true, if_false, bft, btt, i2, s2, a2]
    · intro u hu; cases hu; rfl
    · exact ⟨B, by omega, ⟨_, _, _, _, hG'⟩, hZ, s3, hT, hC⟩
theorem sim_delay {fu : Nat} (hfu : 2000 < fu) : Sim_delay fu Inv := by
  intro n c mo hI
  have hI0 := hI
  obtain ⟨B, hB, hG, hZ, hH, hT, hC⟩ := hI
  obtain ⟨yc', yp', yg', sv', sm', s1, s2, s3⟩ := g_save (fu := fu) hG hH hfu
  obtain ⟨m, es, fl, sk, h⟩ := hG
  have hm := h.2.2.2.1.2
  have e0 : mo.sa 0 = nI m := h.2.2.2.1.1
  obtain ⟨b1, i1, i2, i3⟩ := g_mayD h
  cases b1 with
  | false =>
    refine ⟨.inl "java/lang/IllegalStateException", (0, 1, mo.sa, mo.sv, mo.sm), ?_, ?_, ?_, ?_, ?_, inv_stay hI0 _ _ _ _ _ _ _⟩
    · simp only [fX5_delay, c_within, m_in, fX6_fails, Option.bind_some, Sum.elim_inl, Sum.elim_inr, bIf, bIt, if_true, if_false, bft, btt, i1, reqP]
    · intro E hE; cases hE; exact rfl
    · simp only [fX6_delay, c_within, m_in, fX6_fails, Option.bind_some, Sum.elim_inl, Sum.elim_inr, bIf, bIt, if_true, if_false, bft, btt, i2]
    · rw [Sum.elim_inl, if_pos rfl]
    · intro u hu; cases hu
  | true =>
    obtain ⟨hsk, f, f1, f2⟩ := i3 rfl
    subst hsk
    obtain ⟨li', sa', a1, a2, hG'⟩ := g_delay h f1 f2 hfu
    refine ⟨.inr (c.tu, li', -1, yc', yp', yg'), (c.tu, 0, sa', sv', sm'), ?_, ?_, ?_, rfl, ?_, ?_⟩
    · simp only [fX5_delay, c_within, m_in, fX6_fails, Option.bind_some, Sum.elim_inl, Sum.elim_inr, bIf, bIt, if_true, if_false, bft, btt, i1, reqP, s1, a1]
    · intro E hE; cases hE
    · simp only [fX6_delay, c_within, m_in, fX6_fails, Option.bind_some, Sum.elim_inl, Sum.elim_inr, bIf, bIt, if_true, if_false, bft, btt, i2, s2, a2]
    · intro u hu; cases hu; rfl
    · exact ⟨B, by omega, ⟨_, _, _, _, hG'⟩, hZ, s3, hT, hC⟩
theorem sim_comeIn {fu : Nat} (hfu : 2000 < fu) : Sim_comeIn fu Inv := by
  intro n c mo p1 hI
  have hI0 := hI
  obtain ⟨B, hB, hG, hZ, hH, hT, hC⟩ := hI
  obtain ⟨yc', yp', yg', sv', sm', s1, s2, s3⟩ := g_save (fu := fu) hG hH hfu
  obtain ⟨m, es, fl, sk, h⟩ := hG
  have hm := h.2.2.2.1.2
  have e0 : mo.sa 0 = nI m := h.2.2.2.1.1
  obtain ⟨b1, i1, i2, i3⟩ := g_isF h p1
  cases b1 with
  | false =>
    refine ⟨.inl "java/lang/IndexOutOfBoundsException", (0, 1, mo.sa, mo.sv, mo.sm), ?_, ?_, ?_, ?_, ?_, inv_stay hI0 _ _ _ _ _ _ _⟩
    · simp only [fX5_comeIn, c_within, m_in, fX6_fails, Option.bind_some, Sum.elim_inl, Sum.elim_inr, bIf, bIt, if_true, if_false, bft, btt, reqF i1]
    · intro E hE; cases hE; exact Or.inl rfl
    · simp only [fX6_comeIn, c_within, m_in, fX6_fails, Option.bind_some, Sum.elim_inl, Sum.elim_inr, bIf, bIt, if_true, if_false, bft, btt, i2]
    · rw [Sum.elim_inl, if_pos rfl]
    · intro u hu; cases hu
  | true =>
    obtain ⟨a, ha, rfl⟩ := i3 rfl
    obtain ⟨b2, j1, j2, j3⟩ := g_mayC h ha hfu
    cases b2 with
    | false =>
      refine ⟨.inl "java/lang/IllegalStateException", (0, 2, mo.sa, mo.sv, mo.sm), ?_, ?_, ?_, ?_, ?_, inv_stay hI0 _ _ _ _ _ _ _⟩
      · simp only [fX5_comeIn, c_within, m_in, fX6_fails, Option.bind_some, Sum.elim_inl, Sum.elim_inr, bIf, bIt, if_true, if_false, bft, btt, reqF i1, j1, reqP]
      · intro E hE; cases hE; exact Or.inr (rfl)
      · simp only [fX6_comeIn, c_within, m_in, fX6_fails, Option.bind_some, Sum.elim_inl, Sum.elim_inr, bIf, bIt, if_true, if_false, bft, btt, i2, j2]
      · rw [Sum.elim_inl, if_neg (by decide), if_pos rfl]
      · intro u hu; cases hu
    | true =>
      obtain ⟨ht, hsk, h4⟩ := j3 rfl
      subst hsk
      obtain ⟨r, li', fl', sa', a1, a2, hG'⟩ := g_comeIn h ha h4 hfu
      refine ⟨.inr (r, li', nI a, nI a, false, yc', yp', yg'), (r, 0, sa', sv', sm'), ?_, ?_, ?_, rfl, ?_, ?_⟩
      · simp only [fX5_comeIn, c_within, m_in, fX6_fails, Option.bind_some, Sum.elim_inl, Sum.elim_inr, bIf, bIt, if_true, if_false, bft, btt, reqF i1, j1, reqP, s1, a1]
      · intro E hE; cases hE
      · simp only [fX6_comeIn, c_within, m_in, fX6_fails, Option.bind_some, Sum.elim_inl, Sum.elim_inr, bIf, bIt, if_true, if_false, bft, btt, i2, j2, s2, a2]
      · intro u hu; cases hu; rfl
      · exact ⟨B, by omega, ⟨_, _, _, _, hG'⟩, hZ, s3, hT, hC⟩
theorem sim_settle {fu : Nat} (hfu : 2000 < fu) : Sim_settle fu Inv := by
  intro n c mo hI
  have hI0 := hI
  obtain ⟨B, hB, hG, hZ, hH, hT, hC⟩ := hI
  obtain ⟨yc', yp', yg', sv', sm', s1, s2, s3⟩ := g_save (fu := fu) hG hH hfu
  obtain ⟨m, es, fl, sk, h⟩ := hG
  have hm := h.2.2.2.1.2
  have e0 : mo.sa 0 = nI m := h.2.2.2.1.1
  obtain ⟨b1, i1, -, i2⟩ := g_mayS h
  by_cases z : mo.sa 8 = 0
  · rw [if_pos z] at i2
    subst i2
    refine ⟨.inl "java/lang/IllegalStateException", (0, 1, mo.sa, mo.sv, mo.sm), ?_, ?_, ?_, ?_, ?_, inv_stay hI0 _ _ _ _ _ _ _⟩
    · simp only [fX5_settle, c_within, m_in, fX6_fails, Option.bind_some, Sum.elim_inl, Sum.elim_inr, bIf, bIt, if_true, if_false, bft, btt, i1, reqP]
    · intro E hE; cases hE; exact rfl
    · simp only [fX6_settle, c_within, m_in, fX6_fails, Option.bind_some, Sum.elim_inl, Sum.elim_inr, bIf, bIt, if_true, if_false, bft, btt, q8, g8, z]
    · rw [Sum.elim_inl, if_pos rfl]
    · intro u hu; cases hu
  · rw [if_neg z] at i2
    subst i2
    obtain ⟨k, es', ft', er', eb', st', tu', sa', a1, a2, a3, hG'⟩ := g_settle h hfu (by omega)
    refine ⟨.inr (nI k, ft', er', eb', st', tu', yc', yp', yg'), (nI k, 0, sa', sv', sm'), ?_, ?_, ?_, rfl, ?_, ?_⟩
    · simp only [fX5_settle, c_within, m_in, fX6_fails, Option.bind_some, Sum.elim_inl, Sum.elim_inr, bIf, bIt, if_true, if_false, bft, btt, i1, reqP, s1, a1]
    · intro E hE; cases hE
    · simp only [fX6_settle, c_within, m_in, fX6_fails, Option.bind_some, Sum.elim_inl, Sum.elim_inr, bIf, bIt, if_true, if_false, bft, btt, q8, g8, z, s2, a2]
    · intro u hu; cases hu; rfl
    · exact ⟨B + 8, by omega, ⟨_, _, _, _, hG'⟩, hZ, s3.mono (by omega), hT, hC⟩
theorem sim_stacked {fu : Nat} (hfu : 2000 < fu) : Sim_stacked fu Inv := by
  intro n c mo p1 p2 hI
  have hI0 := hI
  obtain ⟨B, hB, hG, hZ, hH, hT, hC⟩ := hI
  obtain ⟨yc', yp', yg', sv', sm', s1, s2, s3⟩ := g_save (fu := fu) hG hH hfu
  obtain ⟨m, es, fl, sk, h⟩ := hG
  have hm := h.2.2.2.1.2
  have e0 : mo.sa 0 = nI m := h.2.2.2.1.1
  have hSt := t_count h.1.2.2.2
  have e8 : mo.sa 8 = nI sk.length := h.2.2.2.2.2.2.2.1.1.1
  have hle : sk.length ≤ 8 := h.2.2.2.2.2.2.2.1.1.2.1
  cases h1 : inB p1 0 (nI sk.length - 1) with
  | false =>
    refine ⟨.inl "java/lang/IndexOutOfBoundsException", (0, 1), ?_, ?_, ?_, ?_, ?_, inv_stay hI0 _ _ _ _ _ _ _⟩
    · simp only [fX5_stacked, c_within, m_in, fX6_fails, Option.bind_some, Sum.elim_inl, Sum.elim_inr, bIf, bIt, if_true, if_false, bft, btt, fX1_stackSize, hSt, h1]
    · intro E hE; cases hE; exact Or.inl rfl
    · simp only [fX6_stacked, c_within, m_in, fX6_fails, Option.bind_some, Sum.elim_inl, Sum.elim_inr, bIf, bIt, if_true, if_false, bft, btt, q8, g8, e8, h1]
    · rw [Sum.elim_inl, if_pos rfl]
    · intro u hu; cases hu
  | true =>
    obtain ⟨a, ha, rfl⟩ := inB_ix h1 (by omega)
    cases h2 : inB p2 0 3 with
    | false =>
      refine ⟨.inl "java/lang/IllegalArgumentException", (0, 2), ?_, ?_, ?_, ?_, ?_, inv_stay hI0 _ _ _ _ _ _ _⟩
      · simp only [fX5_stacked, c_within, m_in, fX6_fails, Option.bind_some, Sum.elim_inl, Sum.elim_inr, bIf, bIt, if_true, if_false, bft, btt, fX1_stackSize, hSt, h1, reqW, h2]
      · intro E hE; cases hE; exact Or.inr (rfl)
      · simp only [fX6_stacked, c_within, m_in, fX6_fails, Option.bind_some, Sum.elim_inl, Sum.elim_inr, bIf, bIt, if_true, if_false, bft, btt, q8, g8, e8, h1, h2]
      · rw [Sum.elim_inl, if_neg (by decide), if_pos rfl]
      · intro u hu; cases hu
    | true =>
      obtain ⟨w, -, w2, rfl⟩ := inB_r (a := 0) (b := 3) h2 (by decide) (by decide)
      obtain ⟨v, v1, v2⟩ := g_aboutK h ha (show w < 7 by omega)
      have he : nI sk.length - 1 - nI a = nI (sk.length - 1 - a) := by rw [show nI sk.length - 1 = nI (sk.length - 1) from pk_sub (b := 1) (by omega), nI_sub (by omega)]
      refine ⟨.inr v, (v, 0), ?_, ?_, ?_, rfl, ?_, ?_⟩
      · simp only [fX5_stacked, c_within, m_in, fX6_fails, Option.bind_some, Sum.elim_inl, Sum.elim_inr, bIf, bIt, if_true, if_false, bft, btt, fX1_stackSize, hSt, h1, reqW, h2, v1]
      · intro E hE; cases hE
      · simp only [fX6_stacked, c_within, m_in, fX6_fails, Option.bind_some, Sum.elim_inl, Sum.elim_inr, bIf, bIt, if_true, if_false, bft, btt, q8, g8, e8, h1, h2, he, v2]
      · intro u hu; cases hu; rfl
      · exact inv_stay hI0 _ _ _ _ _ _ _
