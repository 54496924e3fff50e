/-! the next turn -/
theorem rnF_mem {sa : Nat → Int32} {es : List Row} {f : Nat} (hs : stF sa f = true) : ∀ i, f < i → f ∈ rnF sa es i
  | i + 1, h => by
    rw [rnF]
    by_cases e : f = i
    · subst e
      rw [if_pos hs]
      exact (ins_mem (insP_le _)).mpr (Or.inl rfl)
    · have ih := rnF_mem (es := es) hs i (by omega)
      split
      · exact (ins_mem (insP_le _)).mpr (Or.inr ih)
      · exact ih
theorem fwF_none {sa : Nat → Int32} : ∀ {fl : List Nat}, (∀ f, f ∈ fl → f < 1000) → fwF sa fl = -1 → ∀ f, f ∈ fl → sa (12 + 6 * f + 4) = 0 → stF sa f = false
  | x :: t, hb, h, f, hf, h4 => by
    rw [fwF] at h
    by_cases hc : sa (12 + 6 * x + 4) = 0 ∧ stF sa x = true
    · rw [if_pos hc] at h
      exact absurd h (nI_m1 (by have := hb x List.mem_cons_self; omega))
    · rw [if_neg hc] at h
      rcases List.mem_cons.mp hf with e | hf
      · subst e
        cases hs : stF sa f with
        | false => rfl
        | true => exact absurd ⟨h4, hs⟩ hc
      · exact fwF_none (fun f hf => hb f (List.mem_cons_of_mem _ hf)) h f hf h4
theorem g_begin {n : Nat} {es : List Row} {fl : List Nat} {ft er : Tab} {eb : Int32} {li st : Tab} {rd tu la : Int32} {dl : Bool} {sh tb : Int32} {sa : Nat → Int32} {B fu : Nat} (h : GI n es fl [] ft er eb li st rd tu la dl sh tb sa B) (ht : tu = -1) (hfu : 2000 < fu) (hB : B < 2 ^ 30) :
    ∃ r es' fl' ft' er' li' rd' tu' la' dl' tb' sa', fX1_beginTurn fu ft er li rd tu la dl sh tb = some (r, ft', er', li', rd', tu', la', dl', tb') ∧ fX6_begins fu sa = some (r, sa') ∧ GI n es' fl' [] ft' er' eb li' st rd' tu' la' dl' sh tb' sa' (B + 1) ∧ ((r = -1 ∧ NS n sa' ∧ tu' = -1 ∧ es' = es) ∨ ∃ f, r = nI f ∧ f < n ∧ ¬ NS n sa) := by
  have hG := h
  obtain ⟨⟨hF, hE, hL, hSt⟩, ⟨e11, e3, e4, e7, e2, e9⟩, hV, hN, hKE, hKL, hKD, hKS, hKR, hKF, hKT⟩ := h
  have hn := hN.2
  have hfl := hKL.2.1.2
  have c0 := c_fw (fu := fu) hF hL hKL.2.1 (by omega)
  have m0 : fX6_begins fu sa = fX6_begins_J17 fu sa (fwF sa fl) := by
    rw [fX6_begins]
    simp only [q3, g3, if_true]
    by_cases z : sa 3 = 0
    · rw [if_pos z]
      obtain ⟨R, r1, r2, r3⟩ := hKR
      have : R = 0 := by
        rcases Nat.eq_zero_or_pos R with q | q
        · exact q
        · rw [r2] at z; exact absurd z (nI_ne0 q (by omega))
      rw [r3 this]; rfl
    · rw [if_neg z, m_fw hKL.1 hKL.2.1 (by omega)]; rfl
  rw [m0, fX1_beginTurn, c0, fX6_begins_J17]
  simp only [Option.bind_some]
  rcases fwF_cases sa fl with e | ⟨f, f1, f2, f3, f4⟩
  · rw [if_pos e, if_pos e]
    obtain ⟨li1, s1, a1, a2, hG1, a4, a5⟩ := g_round hG ht hfu
    have hb : ∀ f, f ∈ rnF sa es n → f < n := fun f hf => (rnF_lt n f hf).1
    have c1 := c_fw (fu := fu) hG1.1.1 hG1.1.2.2.1 hG1.2.2.2.2.2.1.2.1 (by omega)
    have m1 := m_fw (fu := fu) hG1.2.2.2.2.2.1.1 hG1.2.2.2.2.2.1.2.1 (by omega)
    rw [a1, a2]
    simp only [Option.bind_some, c1, m1]
    rcases fwF_cases s1 (rnF sa es n) with e1 | ⟨f, f1, f2, f3, f4⟩
    · rw [e1, fX1_beginTurn_J19, fX6_begins_J32, if_pos rfl, if_pos rfl]
      refine ⟨-1, es, _, ft, er, li1, _, tu, la, dl, tb, s1, rfl, rfl, hG1, Or.inl ⟨rfl, fun f hf => ?_, ht, rfl⟩⟩
      cases hs : stF s1 f with
      | false => rfl
      | true =>
        have hm := rnF_mem (es := es) ((a5 f hf).symm.trans hs) n hf
        have := fwF_none (fun f hf => by have := hb f hf; omega) e1 f hm (a4 f hm)
        rw [hs] at this; cases this
    · rw [f2]
      have hfn := hb f f1
      obtain ⟨es', ft', er', li', tu', sa', x1, x2, x3⟩ := g_beginJ hG1 f1 f3 f4 hfu
      refine ⟨_, es', _, ft', er', li', _, tu', _, _, _, sa', x1, x2, x3, Or.inr ⟨f, rfl, hfn, fun hns => ?_⟩⟩
      have := hns f hfn
      rw [← a5 f hfn, f4] at this; cases this
  · have hfn := hfl f f1
    have hne := nI_m1 (show f < 2 ^ 31 by omega)
    rw [f2, if_neg hne, if_neg hne]
    obtain ⟨es', ft', er', li', tu', sa', x1, x2, x3⟩ := g_beginJ hG f1 f3 f4 hfu
    refine ⟨_, es', _, ft', er', li', _, tu', _, _, _, sa', x1, x2, x3.mono (Nat.le_succ B), Or.inr ⟨f, rfl, hfn, fun hns => ?_⟩⟩
    have := hns f hfn
    rw [f4] at this; cases this
/-- a whole turn, on the copy -/
theorem g_pass {n : Nat} {es : List Row} {fl : List Nat} {ft er : Tab} {eb : Int32} {li st : Tab} {rd tu la : Int32} {dl : Bool} {sh tb : Int32} {sa : Nat → Int32} {B fu : Nat} (h : GI n es fl [] ft er eb li st rd tu la dl sh tb sa B) (ht : tu = -1) (hfu : 2000 < fu) (hB : B < 2 ^ 30) :
    ∃ r es' fl' ft' er' li' rd' la' dl' tb' sa', fX1_passTurn fu ft er li rd tu la dl sh tb = some (r, ft', er', li', rd', -1, la', dl', tb') ∧ fX6_passesTurn fu sa = some (r, sa') ∧ GI n es' fl' [] ft' er' eb li' st rd' (-1) la' dl' sh tb' sa' (B + 1) ∧ ((r = -1 ∧ NS n sa' ∧ es' = es) ∨ ∃ f, r = nI f ∧ f < n ∧ ¬ NS n sa) := by
  obtain ⟨r, es', fl', ft', er', li', rd', tu', la', dl', tb', sa', c, m, hG, hr⟩ := g_begin h ht hfu hB
  have e4 := hG.2.1.2.2.1
  rw [fX1_passTurn, fX6_passesTurn, c, m]
  simp only [Option.bind_some, q4, g4, if_true, ← e4]
  by_cases z : tu' = -1
  · rw [if_pos z, if_pos z, z]
    rw [z] at hG
    refine ⟨r, es', fl', ft', er', li', rd', la', dl', tb', sa', rfl, rfl, hG, ?_⟩
    rcases hr with ⟨a, b, -, d⟩ | q
    · exact Or.inl ⟨a, b, d⟩
    · exact Or.inr q
  · rw [if_neg z, if_neg z]
    obtain ⟨er3, s3, mm, d1, d2, d3, d4, d5⟩ := g_end hG hfu
    rw [d1, d2]
    simp only [Option.bind_some, if_pos (nI_pos' (show mm < 2 ^ 31 by omega)), upd_id d5]
    refine ⟨r, _, fl', ft', er3, li', rd', la', dl', tb', s3, rfl, rfl, d4, ?_⟩
    rcases hr with ⟨-, -, c, -⟩ | q
    · exact absurd c z
    · exact Or.inr q
/-- the stack is cleared -/
theorem g_unstack {n : Nat} {es : List Row} {fl : List Nat} {sk : List Row} {ft er : Tab} {eb : Int32} {li st : Tab} {rd tu la : Int32} {dl : Bool} {sh tb : Int32} {sa : Nat → Int32} {B : Nat} (h : GI n es fl sk ft er eb li st rd tu la dl sh tb sa B) :
    ∃ st', fX4_clear st = some st' ∧ GI n es fl [] ft er eb li st' rd tu la dl sh tb (upd sa 8 0) B := by
  obtain ⟨⟨hF, hE, hL, hSt⟩, ⟨e11, e3, e4, e7, e2, e9⟩, hV, hN, hKE, hKL, hKD, hKS, hKR, hKF, hKT⟩ := h
  obtain ⟨st', s1, s2⟩ := t_clear hSt
  have k : ∀ q, q ≠ 8 → upd sa 8 0 q = sa q := fun q c => pk_un c
  refine ⟨st', s1, ⟨⟨hF.cong (fun i hi j hj => k _ (by omega)), hE, hL.cong (fun f hf => k _ (by omega)), s2⟩, ⟨by rw [k 11 (by decide)]; exact e11, by rw [k 3 (by decide)]; exact e3, by rw [k 4 (by decide)]; exact e4, by rw [k 7 (by decide)]; exact e7, by rw [k 2 (by decide)]; exact e2, by rw [k 9 (by decide)]; exact e9⟩, ?_, ?_, ?_, ?_, ?_, ?_, ?_, ?_, ?_⟩⟩
  · exact hV.cong (k 4 (by decide)) (k 5 (by decide)) (fun f hf => k _ (by omega))
  · exact hN.cong (k 0 (by decide))
  · exact hKE.cong (k 1 (by decide)) (k 10 (by decide)) (k 11 (by decide)) (fun q _ _ => k q (by omega))
  · exact hKL.cong (k 6 (by decide)) (fun q _ _ => k q (by omega)) (fun f hf => k _ (by omega))
  · exact hKD.cong (fun f hf => ⟨k _ (by omega), k _ (by omega)⟩)
  · exact ⟨⟨pk_us, Nat.zero_le _, fun i r hr => by simp at hr⟩, fun r hr => by cases hr⟩
  · exact hKR.cong (k 3 (by decide))
  · exact hKF.cong (fun f hf => ⟨k _ (by omega), k _ (by omega)⟩)
  · refine ⟨?_, fun e => absurd rfl e, by rw [k 7 (by decide)]; exact hKT.2.2⟩
    rw [k 4 (by decide)]
    rcases hKT.1 with ⟨a, -⟩ | b
    · exact Or.inl ⟨a, rfl⟩
    · exact Or.inr b
/-- the copy: the stack cleared, the turn ended -/
theorem g_abandon {n : Nat} {es : List Row} {fl : List Nat} {sk : List Row} {ft er : Tab} {eb : Int32} {li st : Tab} {rd tu la : Int32} {dl : Bool} {sh tb : Int32} {sa : Nat → Int32} {B fu : Nat} (h : GI n es fl sk ft er eb li st rd tu la dl sh tb sa B) (hfu : 2000 < fu) :
    ∃ er' st' sa' es', fX1_abandonTurn fu er st tu = some (er', st', -1) ∧ fX6_clearTurn fu sa = some sa' ∧ GI n es' fl [] ft er' eb li st' rd (-1) la dl sh tb sa' B := by
  obtain ⟨st', s1, hG⟩ := g_unstack h
  have e4 := hG.2.1.2.2.1
  rw [fX1_abandonTurn, s1, fX6_clearTurn]
  simp only [Option.bind_some, q8, g8, q4, g4, if_true, ← e4]
  by_cases z : tu = -1
  · rw [if_pos z, if_pos z]
    rw [z] at hG ⊢
    exact ⟨er, st', _, es, rfl, rfl, hG⟩
  · rw [if_neg z, if_neg z]
    obtain ⟨er3, s3, mm, d1, d2, d3, d4, d5⟩ := g_end hG hfu
    rw [d1, show (0 : Int32) = 0 from rfl, d2]
    simp only [Option.bind_some, if_pos (nI_pos' (show mm < 2 ^ 31 by omega)), upd_id d5]
    exact ⟨er3, st', s3, _, rfl, rfl, d4⟩
