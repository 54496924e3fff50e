/-! the values that are told -/
section V
variable {n : Nat} {es : List Row} {fl : List Nat} {sk : List Row} {ft er : Tab} {eb : Int32} {li st : Tab} {rd tu la : Int32} {dl : Bool} {sh tb : Int32} {sa : Nat → Int32} {B fu : Nat}
theorem g_number (h : GI n es fl sk ft er eb li st rd tu la dl sh tb sa B) (hfu : 2000 < fu) : ∀ w, w ≤ 8 → ∃ v, fX1_number fu ft er eb st rd tu sh tb (nI w) = some v ∧ fX6_valueOf fu sa (nI w) = some v := by
  have hn := h.2.2.2.1.2
  have h0 := h.2.2.2.1.1
  have h1 := h.2.2.2.2.1.1.1
  have h8 := h.2.2.2.2.2.2.2.1.1.1
  have hs := h.2.2.2.2.1.2.2.1
  have hc := t_count h.1.2.2.2
  have hE : EC er es := h.1.2.1
  obtain ⟨e11, e3, e4, e7, e2, e9⟩ := h.2.1
  obtain ⟨s, s1, s2⟩ := g_stdL (fu := fu) h n 0 fu fu 0 (by omega) (by omega) (by omega)
  have s1 : fX1_standing fu ft = some s := s1
  have s2 : fX6_standing fu sa = some s := s2
  intro w hw
  match w, hw with
  | 0, _ =>
    rw [fX1_number, if_pos (by decide), fX6_valueOf, if_pos (by decide)]
    simp only [h.1.1.cnt, q0, g0, h0, if_true, Option.bind_some]
    exact ⟨_, rfl, rfl⟩
  | 1, _ =>
    rw [fX1_number, if_neg (by decide), if_pos (by decide), fX6_valueOf, if_neg (by decide), if_pos (by decide)]
    simp only [s1, s2, if_true, Option.bind_some]
    exact ⟨_, rfl, rfl⟩
  | 2, _ =>
    rw [fX1_number, if_neg (by decide), if_neg (by decide), if_pos (by decide), fX6_valueOf, if_neg (by decide), if_neg (by decide), if_pos (by decide)]
    simp only [fX0_count, hE.cnt, q1, g1, h1, if_true, Option.bind_some]
    exact ⟨_, rfl, rfl⟩
  | 3, _ =>
    rw [fX1_number, if_neg (by decide), if_neg (by decide), if_neg (by decide), if_pos (by decide), fX6_valueOf, if_neg (by decide), if_neg (by decide), if_neg (by decide), if_pos (by decide)]
    simp only [e3, q3, g3, if_true, Option.bind_some]
    exact ⟨_, rfl, rfl⟩
  | 4, _ =>
    rw [fX1_number, if_neg (by decide), if_neg (by decide), if_neg (by decide), if_neg (by decide), if_pos (by decide), fX6_valueOf, if_neg (by decide), if_neg (by decide), if_neg (by decide), if_neg (by decide), if_pos (by decide)]
    simp only [e4, q4, g4, if_true, Option.bind_some]
    exact ⟨_, rfl, rfl⟩
  | 5, _ =>
    rw [fX1_number, if_neg (by decide), if_neg (by decide), if_neg (by decide), if_neg (by decide), if_neg (by decide), if_pos (by decide), fX6_valueOf, if_neg (by decide), if_neg (by decide), if_neg (by decide), if_neg (by decide), if_neg (by decide), if_pos (by decide)]
    simp only [hc, q8, g8, h8, if_true, Option.bind_some]
    exact ⟨_, rfl, rfl⟩
  | 6, _ =>
    rw [fX1_number, if_neg (by decide), if_neg (by decide), if_neg (by decide), if_neg (by decide), if_neg (by decide), if_neg (by decide), if_pos (by decide), fX6_valueOf, if_neg (by decide), if_neg (by decide), if_neg (by decide), if_neg (by decide), if_neg (by decide), if_neg (by decide), if_pos (by decide)]
    simp only [e2, q2, g2, if_true, Option.bind_some]
    exact ⟨_, rfl, rfl⟩
  | 7, _ =>
    rw [fX1_number, if_neg (by decide), if_neg (by decide), if_neg (by decide), if_neg (by decide), if_neg (by decide), if_neg (by decide), if_neg (by decide), if_pos (by decide), fX6_valueOf, if_neg (by decide), if_neg (by decide), if_neg (by decide), if_neg (by decide), if_neg (by decide), if_neg (by decide), if_neg (by decide), if_pos (by decide)]
    simp only [e9, q9, g9, if_true, Option.bind_some]
    exact ⟨_, rfl, rfl⟩
  | 8, _ =>
    rw [fX1_number, if_neg (by decide), if_neg (by decide), if_neg (by decide), if_neg (by decide), if_neg (by decide), if_neg (by decide), if_neg (by decide), if_neg (by decide), fX6_valueOf, if_neg (by decide), if_neg (by decide), if_neg (by decide), if_neg (by decide), if_neg (by decide), if_neg (by decide), if_neg (by decide), if_neg (by decide)]
    simp only [fX0_ended, hE.cnt, q10, g10, if_true, Option.bind_some]
    refine ⟨_, rfl, ?_⟩
    rw [e11, ← hs]
    unfold endSum
    rw [Int32.add_sub_cancel]
theorem g_about (h : GI n es fl sk ft er eb li st rd tu la dl sh tb sa B) {i : Nat} (hi : i < n) (hfu : 2000 < fu) : ∀ w, w ≤ 8 → ∃ v, fX1_aboutFighter fu ft er li (nI i) (nI w) = some v ∧ fX6_valueOfFighter fu sa (nI i) (nI w) = some v := by
  have hn := h.2.2.2.1.2
  have hE : EC er es := h.1.2.1
  have hM := h.2.2.2.2.1.1
  have hLN := h.2.2.2.2.2.1.2.1
  have c0 : fX4_at ft (nI i) 0 = some (sa (12 + 6 * i + 0)) := h.1.1.at hi (show 0 < 4 by decide)
  have c1 : fX4_at ft (nI i) 1 = some (sa (12 + 6 * i + 1)) := h.1.1.at hi (show 1 < 4 by decide)
  have c2 : fX4_at ft (nI i) 2 = some (sa (12 + 6 * i + 2)) := h.1.1.at hi (show 2 < 4 by decide)
  have c3 : fX4_at ft (nI i) 3 = some (sa (12 + 6 * i + 3)) := h.1.1.at hi (show 3 < 4 by decide)
  have m0 : fX6_of sa (nI i) (nI 0) = some (sa (12 + 6 * i + 0)) := m_of sa (show i < 10 by omega) (show 0 < 6 by decide)
  have m1 : fX6_of sa (nI i) (nI 1) = some (sa (12 + 6 * i + 1)) := m_of sa (show i < 10 by omega) (show 1 < 6 by decide)
  have m2 : fX6_of sa (nI i) (nI 2) = some (sa (12 + 6 * i + 2)) := m_of sa (show i < 10 by omega) (show 2 < 6 by decide)
  have m3 : fX6_of sa (nI i) 3 = some (sa (12 + 6 * i + 3)) := m_of sa (show i < 10 by omega) (show 3 < 6 by decide)
  have m4 : fX6_of sa (nI i) 4 = some (sa (12 + 6 * i + 4)) := m_of sa (show i < 10 by omega) (show 4 < 6 by decide)
  intro w hw
  match w, hw with
  | 0, _ =>
    rw [fX1_aboutFighter, if_pos (by decide), fX6_valueOfFighter, if_neg (by decide), if_neg (by decide), if_neg (by decide), if_neg (by decide), if_neg (by decide), if_neg (by decide), c0, m0]
    exact ⟨_, rfl, rfl⟩
  | 1, _ =>
    rw [fX1_aboutFighter, if_neg (by decide), if_pos (by decide), fX6_valueOfFighter, if_neg (by decide), if_neg (by decide), if_neg (by decide), if_neg (by decide), if_neg (by decide), if_neg (by decide), c1, m1]
    exact ⟨_, rfl, rfl⟩
  | 2, _ =>
    rw [fX1_aboutFighter, if_neg (by decide), if_neg (by decide), if_pos (by decide), fX6_valueOfFighter, if_neg (by decide), if_neg (by decide), if_neg (by decide), if_neg (by decide), if_neg (by decide), if_neg (by decide), c2, m2]
    exact ⟨_, rfl, rfl⟩
  | 3, _ =>
    rw [fX1_aboutFighter, if_neg (by decide), if_neg (by decide), if_neg (by decide), if_pos (by decide), fX6_valueOfFighter, if_pos (by decide), c_speed h.1.1 hE hi (show 30 < fu by omega), m_speed hM (show i < 10 by omega) (show 30 < fu by omega)]
    exact ⟨_, rfl, rfl⟩
  | 4, _ =>
    rw [fX1_aboutFighter, if_neg (by decide), if_neg (by decide), if_neg (by decide), if_neg (by decide), if_pos (by decide), fX6_valueOfFighter, if_neg (by decide), if_pos (by decide), c3, m3]
    exact ⟨_, rfl, rfl⟩
  | 5, _ =>
    rw [fX1_aboutFighter, if_neg (by decide), if_neg (by decide), if_neg (by decide), if_neg (by decide), if_neg (by decide), if_pos (by decide), fX6_valueOfFighter, if_neg (by decide), if_neg (by decide), if_pos (by decide), c_state h hi hfu, m4]
    exact ⟨_, rfl, rfl⟩
  | 6, _ =>
    rw [fX1_aboutFighter, if_neg (by decide), if_neg (by decide), if_neg (by decide), if_neg (by decide), if_neg (by decide), if_neg (by decide), if_pos (by decide), fX6_valueOfFighter, if_neg (by decide), if_neg (by decide), if_neg (by decide), if_pos (by decide), c_place h.1.2.2.1 hLN (show i < 1000 by omega) (show 30 < fu by omega), m_place h.2.2.2.2.2.1.1 hLN (show i < 1000 by omega) (show 30 < fu by omega)]
    exact ⟨_, rfl, rfl⟩
  | 7, _ =>
    rw [fX1_aboutFighter, if_neg (by decide), if_neg (by decide), if_neg (by decide), if_neg (by decide), if_neg (by decide), if_neg (by decide), if_neg (by decide), if_pos (by decide), fX6_valueOfFighter, if_neg (by decide), if_neg (by decide), if_neg (by decide), if_neg (by decide), if_pos (by decide), c_held (nI i) hE (show 30 < fu by omega), m_held (nI i) hM (show 30 < fu by omega)]
    exact ⟨_, rfl, rfl⟩
  | 8, _ =>
    rw [fX1_aboutFighter, if_neg (by decide), if_neg (by decide), if_neg (by decide), if_neg (by decide), if_neg (by decide), if_neg (by decide), if_neg (by decide), if_neg (by decide), fX6_valueOfFighter, if_neg (by decide), if_neg (by decide), if_neg (by decide), if_neg (by decide), if_neg (by decide), if_pos (by decide), c_con (nI i) hE (show 30 < fu by omega), m_con (nI i) hM (show 30 < fu by omega)]
    exact ⟨_, rfl, rfl⟩
theorem g_aboutE (h : GI n es fl sk ft er eb li st rd tu la dl sh tb sa B) {i : Nat} (hi : i < es.length) {w : Nat} (hw : w < 8) : ∃ v, fX1_aboutEffect er (nI i) (nI w) = some v ∧ fX6_ofEffect sa (nI i) (nI w) = some v := by
  have hE : EC er es := h.1.2.1
  have hM := h.2.2.2.2.1.1
  have hr := List.getElem?_eq_getElem hi
  rw [fX1_aboutEffect, fX0_about, hE.at hr hw, hM.at hr hw]
  exact ⟨_, rfl, rfl⟩
theorem g_aboutL (h : GI n es fl sk ft er eb li st rd tu la dl sh tb sa B) {i : Nat} (hi : i < fl.length) : ∃ f, f < n ∧ fX1_listed li (nI i) = some (nI f) ∧ sa (72 + i) = nI f := by
  have hr := List.getElem?_eq_getElem hi
  have hL : LC li sa fl := h.1.2.2.1
  have hKL := h.2.2.2.2.2.1
  refine ⟨fl[i], hKL.2.1.2 _ (List.mem_of_getElem? hr), ?_, hKL.1.2.2 i _ hr⟩
  rw [fX1_listed, hL.at0 hr]
  rfl
/-- an act, by its place from below -/
theorem g_aboutK (h : GI n es fl sk ft er eb li st rd tu la dl sh tb sa B) {i : Nat} (hi : i < sk.length) {w : Nat} (hw : w < 7) : ∃ v, fX1_aboutAct st (nI i) (nI w) = some v ∧ fX6_ofAct sa (nI (sk.length - 1 - i)) (nI w) = some v := by
  have hSt := h.1.2.2.2
  have hKS := h.2.2.2.2.2.2.2.1
  have hl := hKS.1.2.1
  have hr := List.getElem?_eq_getElem (show sk.length - 1 - i < sk.length by omega)
  have e : nI sk.length - 1 - nI i = nI (sk.length - 1 - i) := by
    rw [show nI sk.length - 1 = nI (sk.length - 1) from pk_sub (b := 1) (by omega), nI_sub (by omega)]
  rw [fX1_aboutAct, t_count hSt]
  simp only [Option.bind_some]
  rw [e, t_at hSt d7 hr hw, m_ofK sa (by omega) hw, (hKS.1.2.2 _ _ hr).2 w hw]
  exact ⟨_, rfl, rfl⟩
theorem m_thrL {b : Int32} (h : EM sa es) : ∀ (t : List Row) (k i : Nat) (v : Bool), es.drop i = t → i ≤ es.length → t.length < k → fX6_isThere_L4 fu sa b k v (nI i) = some (v || thrF b t)
  | [], k + 1, i, v, hd, hi, hk => by
    rw [fX6_isThere_L4]
    simp only [q1, g1, if_true, h.1, if_pos (nle (dr_nil hd) (by have := h.2.1; omega)), thrF, Bool.or_false]
  | r :: t, k + 1, i, v, hd, hi, hk => by
    obtain ⟨h1, h2, h3⟩ := dr_cons hd
    have a7 : fX6_ofEffect sa (nI i) 7 = some (gD r 7) := h.at h1 (by decide)
    have ih := fun v => m_thrL (b := b) h t k (i + 1) v h2 h3 (by simpa using hk)
    rw [fX6_isThere_L4]
    simp only [q1, g1, if_true, h.1, Option.bind_some, if_neg (nge h3 (by have := h.2.1; omega)), thrF, a7, nS, ih]
    cases v with
    | true => rw [if_neg bI_t]; simp
    | false =>
      rw [if_pos bI_ff]
      by_cases e : gD r 7 = b <;> simp [e]
theorem m_thr (b : Int32) (h : EM sa es) (hfu : 2000 < fu) : fX6_isThere fu sa b = some (thrF b es) := by
  have := m_thrL (fu := fu) (b := b) h es fu 0 false rfl (Nat.zero_le _) (by have := h.2.1; omega)
  rwa [Bool.false_or] at this
end V
