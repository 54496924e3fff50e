/-! acts, undo -/
theorem bk_act {n a t x pw : Nat} (ha : a < n) (ht : t < n) (hx : x ≠ 2) (hx3 : x ≤ 3) (h1 : 1 ≤ pw) (h2 : pw ≤ 60) : sOk n [nI x, nI a, nI t, nI pw, 0, 0, 0] :=
  ⟨⟨a, ha, rfl⟩, ⟨t, ht, rfl⟩, ⟨pw, h1, h2, rfl, fun q => absurd ((nI_inj (b := 2) (by omega) (by decide)).mp q) hx⟩, fun q => absurd ((nI_inj (b := 2) (by omega) (by decide)).mp q) hx⟩
theorem bk_cast {n a t pw q : Nat} (k h : Int32) (ha : a < n) (ht : t < n) (h1 : 1 ≤ pw) (h2 : pw ≤ 20) (h3 : 1 ≤ q) (h4 : q ≤ 20) : sOk n [2, nI a, nI t, nI pw, k, nI q, h] :=
  ⟨⟨a, ha, rfl⟩, ⟨t, ht, rfl⟩, ⟨pw, h1, by omega, rfl, fun _ => h2⟩, fun _ => ⟨q, h3, h4, rfl⟩⟩
theorem sim_act {fu : Nat} (hfu : 2000 < fu) : Sim_act fu Inv := by
  intro n c mo p1 p2 p3 p4 hI
  have hI0 := hI
  obtain ⟨B, hB, hG, hZ, hH, hT, hC⟩ := hI
  obtain ⟨yc', yp', yg', sv', sm', s1, s2, s3⟩ := g_save (fu := fu) hG hH hfu
  obtain ⟨m, es, fl, sk, h⟩ := hG
  have hm := h.2.2.2.1.2
  have e0 : mo.sa 0 = nI m := h.2.2.2.1.1
  obtain ⟨b1, i1, i2, i3⟩ := g_isF h p1
  cases b1 with
  | false =>
    refine ⟨.inl "java/lang/IndexOutOfBoundsException", (0, 1, mo.sa, mo.sv, mo.sm), ?_, ?_, ?_, ?_, ?_, inv_stay hI0 _ _ _ _ _ _ _⟩
    · simp only [fX5_act, c_within, m_in, fX6_fails, Option.bind_some, Sum.elim_inl, Sum.elim_inr, bIf, bIt, if_true, if_false, bft, btt, reqF i1]
    · intro E hE; cases hE; exact Or.inl rfl
    · simp only [fX6_act, c_within, m_in, fX6_fails, Option.bind_some, Sum.elim_inl, Sum.elim_inr, bIf, bIt, if_true, if_false, bft, btt, i2]
    · rw [Sum.elim_inl, if_pos rfl]
    · intro u hu; cases hu
  | true =>
    obtain ⟨a, ha, rfl⟩ := i3 rfl
    obtain ⟨b2, j1, j2, j3⟩ := g_isF h p3
    cases b2 with
    | false =>
      refine ⟨.inl "java/lang/IndexOutOfBoundsException", (0, 1, mo.sa, mo.sv, mo.sm), ?_, ?_, ?_, ?_, ?_, inv_stay hI0 _ _ _ _ _ _ _⟩
      · simp only [fX5_act, c_within, m_in, fX6_fails, Option.bind_some, Sum.elim_inl, Sum.elim_inr, bIf, bIt, if_true, if_false, bft, btt, reqF i1, reqF j1]
      · intro E hE; cases hE; exact Or.inl rfl
      · simp only [fX6_act, c_within, m_in, fX6_fails, Option.bind_some, Sum.elim_inl, Sum.elim_inr, bIf, bIt, if_true, if_false, bft, btt, i2, j2]
      · rw [Sum.elim_inl, if_pos rfl]
      · intro u hu; cases hu
    | true =>
      obtain ⟨t, ht, rfl⟩ := j3 rfl
      by_cases hk : p2 = 0 ∨ p2 = 1 ∨ p2 = 3
      · obtain ⟨x, x1, x2, rfl⟩ : ∃ x, x ≠ 2 ∧ x ≤ 3 ∧ p2 = nI x := by
          rcases hk with e | e | e
          · exact ⟨0, by decide, by decide, e⟩
          · exact ⟨1, by decide, by decide, e⟩
          · exact ⟨3, by decide, by decide, e⟩
        have k1 : inB (nI x) 0 3 = true := inB_of (a := 0) (b := 3) (Nat.zero_le _) x2 (by decide)
        have k2 : ¬ nI x = 2 := fun q => x1 ((nI_inj (b := 2) (by omega) (by decide)).mp q)
        have kC : ∀ X Y : Option (String ⊕ (Int32 × Tab × Tab × Bool × Int32 × (Nat → Nat) × (Nat → GV))), (if nI x = 0 then X else if nI x = 1 then X else if nI x = 3 then X else Y) = X := fun X Y => by
          rcases hk with e | e | e
          · rw [if_pos e]
          · rw [e]; rfl
          · rw [e]; rfl
        cases h2 : inB p4 1 60 with
        | false =>
          refine ⟨.inl "java/lang/IllegalArgumentException", (0, 2, mo.sa, mo.sv, mo.sm), ?_, ?_, ?_, ?_, ?_, inv_stay hI0 _ _ _ _ _ _ _⟩
          · simp only [fX5_act, c_within, m_in, fX6_fails, Option.bind_some, Sum.elim_inl, Sum.elim_inr, bIf, bIt, if_true, if_false, bft, btt, reqF i1, reqF j1, kC, fX5_act_J34, reqW, h2]
          · intro E hE; cases hE; exact Or.inr (Or.inl rfl)
          · simp only [fX6_act, c_within, m_in, fX6_fails, Option.bind_some, Sum.elim_inl, Sum.elim_inr, bIf, bIt, if_true, if_false, bft, btt, i2, j2, k1, k2, h2]
          · rw [Sum.elim_inl, if_neg (by decide), if_pos rfl]
          · intro u hu; cases hu
        | true =>
          obtain ⟨pw, w1, w2, rfl⟩ := inB_r (a := 1) (b := 60) h2 (by decide) (by decide)
          obtain ⟨b3, l1, l2, l3⟩ := g_mayA h ha (nI x)
          cases b3 with
          | false =>
            refine ⟨.inl "java/lang/IllegalStateException", (0, 3, mo.sa, mo.sv, mo.sm), ?_, ?_, ?_, ?_, ?_, inv_stay hI0 _ _ _ _ _ _ _⟩
            · simp only [fX5_act, c_within, m_in, fX6_fails, Option.bind_some, Sum.elim_inl, Sum.elim_inr, bIf, bIt, if_true, if_false, bft, btt, reqF i1, reqF j1, kC, fX5_act_J34, reqW, h2, l1, reqP]
            · intro E hE; cases hE; exact Or.inr (Or.inr (rfl))
            · simp only [fX6_act, c_within, m_in, fX6_fails, Option.bind_some, Sum.elim_inl, Sum.elim_inr, bIf, bIt, if_true, if_false, bft, btt, i2, j2, k1, k2, h2, l2]
            · rw [Sum.elim_inl, if_neg (by decide), if_neg (by decide), if_pos rfl]
            · intro u hu; cases hu
          | true =>
            obtain ⟨y1, y2⟩ := l3 rfl
            obtain ⟨ft', st', sa', a1, a2, hG'⟩ := g_push (fu := fu) (nI x) (nI t) (nI pw) 0 0 0 h y1 ha (bk_act ha ht x1 x2 w1 w2) y2 hfu
            refine ⟨.inr (nI (sk.length + 1), ft', st', false, yc', yp', yg'), (nI (sk.length + 1), 0, sa', sv', sm'), ?_, ?_, ?_, rfl, ?_, ?_⟩
            · simp only [fX5_act, c_within, m_in, fX6_fails, Option.bind_some, Sum.elim_inl, Sum.elim_inr, bIf, bIt, if_true, if_false, bft, btt, reqF i1, reqF j1, kC, fX5_act_J34, reqW, h2, l1, reqP, s1, a1]
            · intro E hE; cases hE
            · simp only [fX6_act, c_within, m_in, fX6_fails, Option.bind_some, Sum.elim_inl, Sum.elim_inr, bIf, bIt, if_true, if_false, bft, btt, i2, j2, k1, k2, h2, l2, s2, a2]
            · intro u hu; cases hu; rfl
            · exact ⟨B, by omega, ⟨_, _, _, _, hG'⟩, hZ, s3, hT, hC⟩
      · have k0 : ¬ p2 = 0 := fun q => hk (Or.inl q)
        have k1 : ¬ p2 = 1 := fun q => hk (Or.inr (Or.inl q))
        have k3 : ¬ p2 = 3 := fun q => hk (Or.inr (Or.inr q))
        cases h1 : inB p2 0 3 with
        | false =>
          refine ⟨.inl "java/lang/IllegalArgumentException", (0, 2, mo.sa, mo.sv, mo.sm), ?_, ?_, ?_, ?_, ?_, inv_stay hI0 _ _ _ _ _ _ _⟩
          · simp only [fX5_act, c_within, m_in, fX6_fails, Option.bind_some, Sum.elim_inl, Sum.elim_inr, bIf, bIt, if_true, if_false, bft, btt, reqF i1, reqF j1, k0, k1, k3]
          · intro E hE; cases hE; exact Or.inr (Or.inl rfl)
          · simp only [fX6_act, c_within, m_in, fX6_fails, Option.bind_some, Sum.elim_inl, Sum.elim_inr, bIf, bIt, if_true, if_false, bft, btt, i2, j2, h1]
          · rw [Sum.elim_inl, if_neg (by decide), if_pos rfl]
          · intro u hu; cases hu
        | true =>
          obtain ⟨x, -, x2, rfl⟩ := inB_r (a := 0) (b := 3) h1 (by decide) (by decide)
          have k2 : nI x = 2 := by
            match x, x2 with
            | 0, _ => exact absurd rfl k0
            | 1, _ => exact absurd rfl k1
            | 2, _ => rfl
            | 3, _ => exact absurd rfl k3
          rw [k2] at h1
          refine ⟨.inl "java/lang/IllegalArgumentException", (0, 2, mo.sa, mo.sv, mo.sm), ?_, ?_, ?_, ?_, ?_, inv_stay hI0 _ _ _ _ _ _ _⟩
          · simp only [fX5_act, c_within, m_in, fX6_fails, Option.bind_some, Sum.elim_inl, Sum.elim_inr, bIf, bIt, if_true, if_false, bft, btt, reqF i1, reqF j1, k0, k1, k3]
          · intro E hE; cases hE; exact Or.inr (Or.inl rfl)
          · simp only [fX6_act, c_within, m_in, fX6_fails, Option.bind_some, Sum.elim_inl, Sum.elim_inr, bIf, bIt, if_true, if_false, bft, btt, i2, j2, h1, k2]
          · rw [Sum.elim_inl, if_neg (by decide), if_pos rfl]
          · intro u hu; cases hu
theorem sim_cast {fu : Nat} (hfu : 2000 < fu) : Sim_cast fu Inv := by
  intro n c mo p1 p2 p3 p4 p5 p6 hI
  have hI0 := hI
  obtain ⟨B, hB, hG, hZ, hH, hT, hC⟩ := hI
  obtain ⟨yc', yp', yg', sv', sm', s1, s2, s3⟩ := g_save (fu := fu) hG hH hfu
  obtain ⟨m, es, fl, sk, h⟩ := hG
  have hm := h.2.2.2.1.2
  have e0 : mo.sa 0 = nI m := h.2.2.2.1.1
  obtain ⟨b1, i1, i2, i3⟩ := g_isF h p1
  cases b1 with
  | false =>
    refine ⟨.inl "java/lang/IndexOutOfBoundsException", (0, 1, mo.sa, mo.sv, mo.sm), ?_, ?_, ?_, ?_, ?_, inv_stay hI0 _ _ _ _ _ _ _⟩
    · simp only [fX5_cast, c_within, m_in, fX6_fails, Option.bind_some, Sum.elim_inl, Sum.elim_inr, bIf, bIt, if_true, if_false, bft, btt, reqF i1]
    · intro E hE; cases hE; exact Or.inl rfl
    · simp only [fX6_cast, c_within, m_in, fX6_fails, Option.bind_some, Sum.elim_inl, Sum.elim_inr, bIf, bIt, if_true, if_false, bft, btt, i2]
    · rw [Sum.elim_inl, if_pos rfl]
    · intro u hu; cases hu
  | true =>
    obtain ⟨a, ha, rfl⟩ := i3 rfl
    obtain ⟨b2, j1, j2, j3⟩ := g_isF h p2
    cases b2 with
    | false =>
      refine ⟨.inl "java/lang/IndexOutOfBoundsException", (0, 1, mo.sa, mo.sv, mo.sm), ?_, ?_, ?_, ?_, ?_, inv_stay hI0 _ _ _ _ _ _ _⟩
      · simp only [fX5_cast, c_within, m_in, fX6_fails, Option.bind_some, Sum.elim_inl, Sum.elim_inr, bIf, bIt, if_true, if_false, bft, btt, reqF i1, reqF j1]
      · intro E hE; cases hE; exact Or.inl rfl
      · simp only [fX6_cast, c_within, m_in, fX6_fails, Option.bind_some, Sum.elim_inl, Sum.elim_inr, bIf, bIt, if_true, if_false, bft, btt, i2, j2]
      · rw [Sum.elim_inl, if_pos rfl]
      · intro u hu; cases hu
    | true =>
      obtain ⟨t, ht, rfl⟩ := j3 rfl
      cases h3 : inB p3 0 4 with
      | false =>
        refine ⟨.inl "java/lang/IllegalArgumentException", (0, 2, mo.sa, mo.sv, mo.sm), ?_, ?_, ?_, ?_, ?_, inv_stay hI0 _ _ _ _ _ _ _⟩
        · simp only [fX5_cast, c_within, m_in, fX6_fails, Option.bind_some, Sum.elim_inl, Sum.elim_inr, bIf, bIt, if_true, if_false, bft, btt, reqF i1, reqF j1, reqW, h3]
        · intro E hE; cases hE; exact Or.inr (Or.inl rfl)
        · simp only [fX6_cast, c_within, m_in, fX6_fails, Option.bind_some, Sum.elim_inl, Sum.elim_inr, bIf, bIt, if_true, if_false, bft, btt, i2, j2, h3]
        · rw [Sum.elim_inl, if_neg (by decide), if_pos rfl]
        · intro u hu; cases hu
      | true =>
        cases h4 : inB p4 1 20 with
        | false =>
          refine ⟨.inl "java/lang/IllegalArgumentException", (0, 2, mo.sa, mo.sv, mo.sm), ?_, ?_, ?_, ?_, ?_, inv_stay hI0 _ _ _ _ _ _ _⟩
          · simp only [fX5_cast, c_within, m_in, fX6_fails, Option.bind_some, Sum.elim_inl, Sum.elim_inr, bIf, bIt, if_true, if_false, bft, btt, reqF i1, reqF j1, reqW, h3, h4]
          · intro E hE; cases hE; exact Or.inr (Or.inl rfl)
          · simp only [fX6_cast, c_within, m_in, fX6_fails, Option.bind_some, Sum.elim_inl, Sum.elim_inr, bIf, bIt, if_true, if_false, bft, btt, i2, j2, h3, h4]
          · rw [Sum.elim_inl, if_neg (by decide), if_pos rfl]
          · intro u hu; cases hu
        | true =>
          cases h5 : inB p5 1 20 with
          | false =>
            refine ⟨.inl "java/lang/IllegalArgumentException", (0, 2, mo.sa, mo.sv, mo.sm), ?_, ?_, ?_, ?_, ?_, inv_stay hI0 _ _ _ _ _ _ _⟩
            · simp only [fX5_cast, c_within, m_in, fX6_fails, Option.bind_some, Sum.elim_inl, Sum.elim_inr, bIf, bIt, if_true, if_false, bft, btt, reqF i1, reqF j1, reqW, h3, h4, h5]
            · intro E hE; cases hE; exact Or.inr (Or.inl rfl)
            · simp only [fX6_cast, c_within, m_in, fX6_fails, Option.bind_some, Sum.elim_inl, Sum.elim_inr, bIf, bIt, if_true, if_false, bft, btt, i2, j2, h3, h4, h5]
            · rw [Sum.elim_inl, if_neg (by decide), if_pos rfl]
            · intro u hu; cases hu
          | true =>
            cases h6 : inB p6 0 3 with
            | false =>
              refine ⟨.inl "java/lang/IllegalArgumentException", (0, 2, mo.sa, mo.sv, mo.sm), ?_, ?_, ?_, ?_, ?_, inv_stay hI0 _ _ _ _ _ _ _⟩
              · simp only [fX5_cast, c_within, m_in, fX6_fails, Option.bind_some, Sum.elim_inl, Sum.elim_inr, bIf, bIt, if_true, if_false, bft, btt, reqF i1, reqF j1, reqW, h3, h4, h5, h6]
              · intro E hE; cases hE; exact Or.inr (Or.inl rfl)
              · simp only [fX6_cast, c_within, m_in, fX6_fails, Option.bind_some, Sum.elim_inl, Sum.elim_inr, bIf, bIt, if_true, if_false, bft, btt, i2, j2, h3, h4, h5, h6]
              · rw [Sum.elim_inl, if_neg (by decide), if_pos rfl]
              · intro u hu; cases hu
            | true =>
              obtain ⟨pw, w1, w2, rfl⟩ := inB_r (a := 1) (b := 20) h4 (by decide) (by decide)
              obtain ⟨q, v1, v2, rfl⟩ := inB_r (a := 1) (b := 20) h5 (by decide) (by decide)
              obtain ⟨b3, l1, l2, l3⟩ := g_mayA h ha 2
              cases b3 with
              | false =>
                refine ⟨.inl "java/lang/IllegalStateException", (0, 3, mo.sa, mo.sv, mo.sm), ?_, ?_, ?_, ?_, ?_, inv_stay hI0 _ _ _ _ _ _ _⟩
                · simp only [fX5_cast, c_within, m_in, fX6_fails, Option.bind_some, Sum.elim_inl, Sum.elim_inr, bIf, bIt, if_true, if_false, bft, btt, reqF i1, reqF j1, reqW, h3, h4, h5, h6, l1, reqP]
                · intro E hE; cases hE; exact Or.inr (Or.inr (rfl))
                · simp only [fX6_cast, c_within, m_in, fX6_fails, Option.bind_some, Sum.elim_inl, Sum.elim_inr, bIf, bIt, if_true, if_false, bft, btt, i2, j2, h3, h4, h5, h6, l2]
                · rw [Sum.elim_inl, if_neg (by decide), if_neg (by decide), if_pos rfl]
                · intro u hu; cases hu
              | true =>
                obtain ⟨y1, y2⟩ := l3 rfl
                obtain ⟨ft', st', sa', a1, a2, hG'⟩ := g_push (fu := fu) 2 (nI t) (nI pw) p3 (nI q) p6 h y1 ha (bk_cast p3 p6 ha ht w1 w2 v1 v2) y2 hfu
                refine ⟨.inr (nI (sk.length + 1), ft', st', false, yc', yp', yg'), (nI (sk.length + 1), 0, sa', sv', sm'), ?_, ?_, ?_, rfl, ?_, ?_⟩
                · simp only [fX5_cast, c_within, m_in, fX6_fails, Option.bind_some, Sum.elim_inl, Sum.elim_inr, bIf, bIt, if_true, if_false, bft, btt, reqF i1, reqF j1, reqW, h3, h4, h5, h6, l1, reqP, s1, a1]
                · intro E hE; cases hE
                · simp only [fX6_cast, c_within, m_in, fX6_fails, Option.bind_some, Sum.elim_inl, Sum.elim_inr, bIf, bIt, if_true, if_false, bft, btt, i2, j2, h3, h4, h5, h6, l2, s2, a2]
                · intro u hu; cases hu; rfl
                · exact ⟨B, by omega, ⟨_, _, _, _, hG'⟩, hZ, s3, hT, hC⟩
theorem sim_mayAnswer {fu : Nat} (hfu : 2000 < fu) : Sim_mayAnswer fu Inv := by
  intro n c mo p1 hI
  have hI0 := hI
  obtain ⟨B, hB, hG, hZ, hH, hT, hC⟩ := hI
  obtain ⟨yc', yp', yg', sv', sm', s1, s2, s3⟩ := g_save (fu := fu) hG hH hfu
  obtain ⟨m, es, fl, sk, h⟩ := hG
  have hm := h.2.2.2.1.2
  have e0 : mo.sa 0 = nI m := h.2.2.2.1.1
  obtain ⟨b1, i1, i2, i3⟩ := g_isF h p1
  cases b1 with
  | false =>
    refine ⟨.inl "java/lang/IndexOutOfBoundsException", (false, 1), ?_, ?_, ?_, ?_, ?_, inv_stay hI0 _ _ _ _ _ _ _⟩
    · simp only [fX5_mayAnswer, c_within, m_in, fX6_fails, Option.bind_some, Sum.elim_inl, Sum.elim_inr, bIf, bIt, if_true, if_false, bft, btt, reqF i1]
    · intro E hE; cases hE; exact rfl
    · simp only [fX6_mayAnswer, c_within, m_in, fX6_fails, Option.bind_some, Sum.elim_inl, Sum.elim_inr, bIf, bIt, if_true, if_false, bft, btt, i2]
    · rw [Sum.elim_inl, if_pos rfl]
    · intro u hu; cases hu
  | true =>
    obtain ⟨a, ha, rfl⟩ := i3 rfl
    obtain ⟨v, v1, v2, -⟩ := g_ans h ha
    refine ⟨.inr v, (v, 0), ?_, ?_, ?_, rfl, ?_, ?_⟩
    · simp only [fX5_mayAnswer, c_within, m_in, fX6_fails, Option.bind_some, Sum.elim_inl, Sum.elim_inr, bIf, bIt, if_true, if_false, bft, btt, reqF i1, v1]
    · intro E hE; cases hE
    · simp only [fX6_mayAnswer, c_within, m_in, fX6_fails, Option.bind_some, Sum.elim_inl, Sum.elim_inr, bIf, bIt, if_true, if_false, bft, btt, i2, v2]
    · intro u hu; cases hu; rfl
    · exact inv_stay hI0 _ _ _ _ _ _ _
theorem sim_undo {fu : Nat} (hfu : 2000 < fu) : Sim_undo fu Inv := by
  intro n c mo hI
  have hI0 := hI
  obtain ⟨B, hB, hG, hZ, hH, hT, hC⟩ := hI
  obtain ⟨yc', yp', yg', sv', sm', s1, s2, s3⟩ := g_save (fu := fu) hG hH hfu
  obtain ⟨m, es, fl, sk, h⟩ := hG
  have hm := h.2.2.2.1.2
  have e0 : mo.sa 0 = nI m := h.2.2.2.1.1
  have hH0 := hH
  obtain ⟨k, k1, k2, k3, -⟩ := hH
  rcases Nat.eq_zero_or_pos k with z | z
  · have y1 : c.yc = 0 := by rw [k2, z]; rfl
    have y2 : mo.sm = 0 := by rw [k3, z]; rfl
    have y3 : ((0 : Int32) ≤ 0) = True := eq_true (by decide)
    refine ⟨.inl "java/lang/IllegalStateException", (0, 1, mo.sa, mo.sm), ?_, ?_, ?_, ?_, ?_, inv_stay hI0 _ _ _ _ _ _ _⟩
    · simp only [fX5_undo, c_within, m_in, fX6_fails, Option.bind_some, Sum.elim_inl, Sum.elim_inr, bIf, bIt, if_true, if_false, bft, btt, fX2_size, y1, y3, fX5_undo_J15, reqP]
    · intro E hE; cases hE; exact rfl
    · simp only [fX6_undo, c_within, m_in, fX6_fails, Option.bind_some, Sum.elim_inl, Sum.elim_inr, bIf, bIt, if_true, if_false, bft, btt, y2]
    · rw [Sum.elim_inl, if_pos rfl]
    · intro u hu; cases hu
  · obtain ⟨q, rfl⟩ : ∃ q, k = q + 1 := ⟨k - 1, by omega⟩
    have y1 : ¬ nI (q + 1) ≤ 0 := nI_nle (by omega) (by omega)
    have y2 : ¬ nI (q + 1) = 0 := nI_ne0 (by omega) (by omega)
    rw [k2, k3] at hH0
    obtain ⟨ft, er, eb, li, st, rd, tu, la, dl, sh, tb, sa', a1, a2, a3, a4⟩ := g_undo (fu := fu) (sa := mo.sa) c.eb c.rd c.tu c.la c.dl c.sh c.tb 0 h.z hH0 (by omega) hfu
    refine ⟨.inr (nI q, ft, er, eb, li, st, rd, tu, la, dl, sh, tb, nI q), (nI q, 0, sa', nI q), ?_, ?_, ?_, rfl, ?_, ?_⟩
    · simp only [fX5_undo, c_within, m_in, fX6_fails, Option.bind_some, Sum.elim_inl, Sum.elim_inr, bIf, bIt, if_true, if_false, bft, btt, fX2_size, k2, y1, fX5_undo_J15, reqP, a1]
    · intro E hE; cases hE
    · simp only [fX6_undo, c_within, m_in, fX6_fails, Option.bind_some, Sum.elim_inl, Sum.elim_inr, bIf, bIt, if_true, if_false, bft, btt, k3, y2, nI_pred, a2]
    · intro u hu; cases hu; rfl
    · exact ⟨B, by omega, a3, hZ, a4, hT, hC⟩
