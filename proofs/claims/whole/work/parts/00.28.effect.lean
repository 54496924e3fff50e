/-! an effect begins -/
theorem m_begE {fu : Nat} {sa : Nat → Int32} {E S : Nat} (v2 v3 : Int32) (h1 : sa 1 = nI E) (hE : E ≤ 30) (hS : S < 8) :
    (E = 30 → fX6_beginEffect_J27 fu (nI S) sa v2 v3 = some sa) ∧ (E < 30 → ∃ s', fX6_beginEffect_J27 fu (nI S) sa v2 v3 = some s' ∧ s' 1 = nI (E + 1) ∧ s' 11 = sa 11 + 1 ∧ (∀ j, j < 8 → s' (82 + 8 * E + j) = gD [sa (322 + 7 * S + 4), sa (322 + 7 * S + 3), v2, sa (322 + 7 * S + 2), sa (322 + 7 * S + 5), v3 / (2 : Int32), v3 - v3 / (2 : Int32) * (2 : Int32), sa 11] j) ∧ ∀ q, q ≠ 1 → q ≠ 11 → (q < 82 + 8 * E ∨ 82 + 8 * E + 8 ≤ q) → s' q = sa q) := by
  constructor
  · intro e
    rw [fX6_beginEffect_J27]
    simp only [q1, g1, if_true]
    rw [if_pos (by rw [h1, e]; rfl)]
  · intro e
    have C : ∀ j, j < 8 → (nI (82 + 8 * E + j)).toNatClampNeg = 82 + 8 * E + j := fun j hj => nI_clamp (by omega)
    have T : ∀ j, j < 8 → (¬ (nI (82 + 8 * E + j) < 0 ∨ 378 ≤ 82 + 8 * E + j)) = True := fun j hj => gT (by omega) (by decide)
    have C0 : (nI (82 + 8 * E)).toNatClampNeg = 82 + 8 * E := C 0 (by decide)
    have T0 : (¬ (nI (82 + 8 * E) < 0 ∨ 378 ≤ 82 + 8 * E)) = True := T 0 (by decide)
    have U1 : ∀ (f : Nat → Int32) j v, upd f (82 + 8 * E + j) v 1 = f 1 := fun f j v => pk_un (by omega)
    have U10 : ∀ (f : Nat → Int32) v, upd f (82 + 8 * E) v 1 = f 1 := fun f v => pk_un (by omega)
    have U2 : ∀ (f : Nat → Int32) j v, upd f (82 + 8 * E + j) v 11 = f 11 := fun f j v => pk_un (by omega)
    have U20 : ∀ (f : Nat → Int32) v, upd f (82 + 8 * E) v 11 = f 11 := fun f v => pk_un (by omega)
    have U3 : ∀ (f : Nat → Int32) v, upd f 11 v 1 = f 1 := fun f v => pk_un (by decide)
    have W : ∀ (f : Nat → Int32) j v i, j < 8 → upd f (82 + 8 * E + j) v (322 + 7 * S + i) = f (322 + 7 * S + i) := fun f j v i hj => pk_un (by omega)
    have W0 : ∀ (f : Nat → Int32) v i, upd f (82 + 8 * E) v (322 + 7 * S + i) = f (322 + 7 * S + i) := fun f v i => pk_un (by omega)
    have K4 : ∀ f : Nat → Int32, fX6_ofAct f (nI S) 4 = some (f (322 + 7 * S + 4)) := fun f => m_ofK f hS (by decide)
    have K3 : ∀ f : Nat → Int32, fX6_ofAct f (nI S) 3 = some (f (322 + 7 * S + 3)) := fun f => m_ofK f hS (by decide)
    have K2 : ∀ f : Nat → Int32, fX6_ofAct f (nI S) 2 = some (f (322 + 7 * S + 2)) := fun f => m_ofK f hS (by decide)
    have K5 : ∀ f : Nat → Int32, fX6_ofAct f (nI S) 5 = some (f (322 + 7 * S + 5)) := fun f => m_ofK f hS (by decide)
    refine ⟨upd (upd (upd (upd (upd (upd (upd (upd (upd (upd sa (82 + 8 * E) (sa (322 + 7 * S + 4))) (82 + 8 * E + 1) (sa (322 + 7 * S + 3))) (82 + 8 * E + 2) v2) (82 + 8 * E + 3) (sa (322 + 7 * S + 2))) (82 + 8 * E + 4) (sa (322 + 7 * S + 5))) (82 + 8 * E + 5) (v3 / (2 : Int32))) (82 + 8 * E + 6) (v3 - v3 / (2 : Int32) * (2 : Int32))) (82 + 8 * E + 7) (sa 11)) 11 (sa 11 + 1)) 1 (nI (E + 1)), ?_, pk_us, ?_, fun j hj => ?_, fun q a b c => ?_⟩
    · rw [fX6_beginEffect_J27]
      simp only [q1, g1, if_true]
      rw [if_neg (by rw [h1]; exact fun q => by have := (nI_inj (b := 30) (by omega) (by decide)).mp q; omega)]
      simp only [q11, g11, if_true, h1, ofE0, nA0, nA1, nA2, nA3, nA4, nA5, nA6, nA7, C0, T0, C 1 (by decide), C 2 (by decide), C 3 (by decide), C 4 (by decide), C 5 (by decide), C 6 (by decide), C 7 (by decide), T 1 (by decide), T 2 (by decide), T 3 (by decide), T 4 (by decide), T 5 (by decide), T 6 (by decide), T 7 (by decide), K4, K3, K2, K5, Option.bind_some, W0, W _ 1 _ _ (by decide), W _ 2 _ _ (by decide), W _ 3 _ _ (by decide), U1, U10, U2, U20, U3]
    · rw [pk_un (by decide), pk_us]
    · rw [pk_un (by omega), pk_un (by omega)]
      match j, hj with
      | 0, _ => rw [pk_un (by omega), pk_un (by omega), pk_un (by omega), pk_un (by omega), pk_un (by omega), pk_un (by omega), pk_un (by omega)]; exact pk_us
      | 1, _ => rw [pk_un (by omega), pk_un (by omega), pk_un (by omega), pk_un (by omega), pk_un (by omega), pk_un (by omega), pk_us]; rfl
      | 2, _ => rw [pk_un (by omega), pk_un (by omega), pk_un (by omega), pk_un (by omega), pk_un (by omega), pk_us]; rfl
      | 3, _ => rw [pk_un (by omega), pk_un (by omega), pk_un (by omega), pk_un (by omega), pk_us]; rfl
      | 4, _ => rw [pk_un (by omega), pk_un (by omega), pk_un (by omega), pk_us]; rfl
      | 5, _ => rw [pk_un (by omega), pk_un (by omega), pk_us]; rfl
      | 6, _ => rw [pk_un (by omega), pk_us]; rfl
      | 7, _ => rw [pk_us]; rfl
    · rw [pk_un a, pk_un b, pk_un (by omega), pk_un (by omega), pk_un (by omega), pk_un (by omega), pk_un (by omega), pk_un (by omega), pk_un (by omega), pk_un (by omega)]
theorem g_begE {n : Nat} {es : List Row} {fl : List Nat} {sk : List Row} {ft er : Tab} {eb : Int32} {li st : Tab} {rd tu la : Int32} {dl : Bool} {sh tb : Int32} {sa : Nat → Int32} {B fu S : Nat} (v2 v3 : Int32) (h : GI n es fl sk ft er eb li st rd tu la dl sh tb sa B) (hS : S < 8) (hB : B < 2 ^ 30) (hw : ∃ w, w ≤ 20 ∧ sa (322 + 7 * S + 3) = nI w) (hq : ∃ q, 1 ≤ q ∧ q ≤ 20 ∧ sa (322 + 7 * S + 5) = nI q) (hfu : 2000 < fu) :
    ∃ es' er' eb' sa', fX0_begin_J17 fu (sa (322 + 7 * S + 4)) (sa (322 + 7 * S + 3)) v2 (sa (322 + 7 * S + 2)) (sa (322 + 7 * S + 5)) v3 er eb (v3 - v3 / (2 : Int32) * (2 : Int32)) = some (er', eb') ∧ fX6_beginEffect_J27 fu (nI S) sa v2 v3 = some sa' ∧ GI n es' fl sk ft er' eb' li st rd tu la dl sh tb sa' (B + 1) ∧ ∀ q, 322 ≤ q → sa' q = sa q := by
  have h0 := h
  obtain ⟨⟨hF, hE, hL, hSt⟩, ⟨e11, e3, e4, e7, e2, e9⟩, hV, hN, hKE, hKL, hKD, hKS, hKR, hKF, hKT⟩ := h
  have hn := hN.2
  have hfl := hKL.2.1.2
  have hle := hKE.1.2.1
  obtain ⟨c1, c2⟩ := c_begE (fu := fu) (eb := eb) (sa (322 + 7 * S + 4)) (sa (322 + 7 * S + 3)) v2 (sa (322 + 7 * S + 2)) (sa (322 + 7 * S + 5)) v3 (v3 - v3 / (2 : Int32) * (2 : Int32)) hE hfu
  obtain ⟨m1, m2⟩ := m_begE (fu := fu) (S := S) v2 v3 hKE.1.1 hle hS
  by_cases z : es.length = 30
  · exact ⟨es, er, eb, sa, c1 z, m1 z, h0.mono (Nat.le_succ B), fun _ _ => rfl⟩
  · obtain ⟨er', c3, c4⟩ := c2 (by omega)
    obtain ⟨s', m3, m4, m5, m6, k⟩ := m2 (by omega)
    have kc : ∀ q, q ≠ 1 → q ≠ 11 → (q < 82 ∨ 322 ≤ q) → s' q = sa q := fun q a b c => k q a b (by omega)
    rw [e11] at c3 c4
    refine ⟨_, er', sa 11 + 1, s', by rw [e11]; exact c3, m3, ⟨⟨hF.cong (fun i hi j hj => kc _ (by omega) (by omega) (by omega)), c4, hL.cong (fun f hf => kc _ (by omega) (by omega) (by have := hfl f hf; omega)), hSt⟩, ⟨m5.symm, by rw [kc 3 (by decide) (by decide) (by decide)]; exact e3, by rw [kc 4 (by decide) (by decide) (by decide)]; exact e4, by rw [kc 7 (by decide) (by decide) (by decide)]; exact e7, by rw [kc 2 (by decide) (by decide) (by decide)]; exact e2, by rw [kc 9 (by decide) (by decide) (by decide)]; exact e9⟩, ?_, ?_, ?_, ?_, ?_, ?_, ?_, ?_, ?_⟩, fun q hq => kc q (by omega) (by omega) (Or.inr hq)⟩
    · exact hV.cong (kc 4 (by decide) (by decide) (by decide)) (kc 5 (by decide) (by decide) (by decide)) (fun f hf => kc _ (by omega) (by omega) (by omega))
    · exact hN.cong (kc 0 (by decide) (by decide) (by decide))
    · obtain ⟨hM, ⟨hb, hp, hl⟩, hs, N, hN1, hN2, hN3⟩ := hKE
      generalize hrow : [sa (322 + 7 * S + 4), sa (322 + 7 * S + 3), v2, sa (322 + 7 * S + 2), sa (322 + 7 * S + 5), v3 / (2 : Int32), v3 - v3 / (2 : Int32) * (2 : Int32), sa 11] = row at m6
      have r7 : gD row 7 = sa 11 := by rw [← hrow]; rfl
      have r1 : gD row 1 = sa (322 + 7 * S + 3) := by rw [← hrow]; rfl
      have r4 : gD row 4 = sa (322 + 7 * S + 5) := by rw [← hrow]; rfl
      have rl : row.length = 8 := by rw [← hrow]; rfl
      refine ⟨⟨by rw [m4]; simp, by simp; omega, fun i r hr => ?_⟩, ⟨?_, ?_, ?_⟩, ?_, N + 1, by omega, by rw [m5, hN2, nS], fun r hr => ?_⟩
      · rcases Nat.lt_or_ge i es.length with q | q
        · rw [List.getElem?_append_left q] at hr
          refine ⟨(hM.2.2 i r hr).1, fun j hj => ?_⟩
          rw [k _ (by omega) (by omega) (by omega)]
          exact (hM.2.2 i r hr).2 j hj
        · have hil := tl_lt hr
          rw [List.length_append] at hil
          have hie : i = es.length := by simp at hil; omega
          subst hie
          rw [List.getElem?_append_right (Nat.le_refl _), Nat.sub_self] at hr
          cases hr
          exact ⟨rl, m6⟩
      · refine List.pairwise_append.mpr ⟨hb, List.pairwise_singleton _ _, fun a ha b hb' => ?_⟩
        rw [List.mem_singleton.mp hb', r7, hN2]
        obtain ⟨b0, b1, b2⟩ := hN3 a ha
        rw [b2]
        exact nI_lt b1 (by omega)
      · intro r hr
        rcases List.mem_append.mp hr with q | q
        · exact hp r q
        · rw [List.mem_singleton.mp q, r1]; exact hw
      · intro r hr
        rcases List.mem_append.mp hr with q | q
        · exact hl r q
        · rw [List.mem_singleton.mp q, r4]; exact hq
      · rw [m5, ← hs]
        unfold endSum
        rw [kc 10 (by decide) (by decide) (by decide), List.length_append, List.length_singleton, Int32.add_assoc, nS]
      · rcases List.mem_append.mp hr with q | q
        · obtain ⟨b0, b1, b2⟩ := hN3 r q
          exact ⟨b0, by omega, b2⟩
        · exact ⟨N, Nat.lt_succ_self N, by rw [List.mem_singleton.mp q, r7, hN2]⟩
    · exact hKL.cong (kc 6 (by decide) (by decide) (by decide)) (fun q _ _ => kc q (by omega) (by omega) (by omega)) (fun f hf => kc _ (by omega) (by omega) (by omega))
    · exact hKD.cong (fun f hf => ⟨kc _ (by omega) (by omega) (by omega), kc _ (by omega) (by omega) (by omega)⟩)
    · exact hKS.cong (kc 8 (by decide) (by decide) (by decide)) (fun q _ _ => kc q (by omega) (by omega) (by omega))
    · exact (hKR.cong (kc 3 (by decide) (by decide) (by decide))).mono (Nat.le_succ B)
    · exact hKF.cong (fun x hx => ⟨kc _ (by omega) (by omega) (by omega), kc _ (by omega) (by omega) (by omega)⟩)
    · exact hKT.cong (kc 4 (by decide) (by decide) (by decide)) (kc 5 (by decide) (by decide) (by decide)) (kc 7 (by decide) (by decide) (by decide))
