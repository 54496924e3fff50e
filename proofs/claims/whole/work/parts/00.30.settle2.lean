theorem g_settleE {n : Nat} {es : List Row} {fl : List Nat} {ft er : Tab} {eb : Int32} {li st : Tab} {rd tu la : Int32} {dl : Bool} {sh tb : Int32} {sa : Nat → Int32} {B fu c i k k' : Nat} (h : GI n es fl [] ft er eb li st rd tu la dl sh tb sa B) (hi : i ≤ 8) (hk : 0 < k) (hk' : 0 < k') :
    ∃ tu' sa', fX1_settleStack_L4 fu sh k ft er eb st tu (nI c) (nI i) = some (nI c, ft, er, eb, st, tu') ∧ fX6_settles_L2 fu k' sa (nI c) = some (nI c, sa') ∧ GI n es fl [] ft er eb li st rd tu' la dl sh tb sa' B := by
  obtain ⟨k, rfl⟩ : ∃ x, k = x + 1 := ⟨k - 1, by omega⟩
  obtain ⟨k', rfl⟩ : ∃ x, k' = x + 1 := ⟨k' - 1, by omega⟩
  have hn := h.2.2.2.1.2
  have hF := h.1.1
  have hfl := h.2.2.2.2.2.1.2.1.2
  have e4 := h.2.1.2.2.1
  have hc := t_count h.1.2.2.2
  have h8 : sa 8 = 0 := h.2.2.2.2.2.2.2.1.1.1
  have hC : fX1_settleStack_L4 fu sh (k + 1) ft er eb st tu (nI c) (nI i) = fX1_settleStack_J36 fu sh ft er eb st tu (nI c) := by
    rw [fX1_settleStack_L4, hc]
    simp only [Option.bind_some]
    rw [if_pos (show nI ([] : List Row).length ≤ 0 by decide)]
    split <;> rfl
  rw [hC, fX1_settleStack_J36, fX6_settles_L2]
  simp only [q8, g8, q4, g4, if_true, h8, ← e4]
  rw [if_pos (show (0 : Int32) ≤ 0 by decide)]
  rcases h.2.2.2.2.2.2.2.2.2.2.1 with ⟨a, -⟩ | ⟨f, f1, f2⟩
  · have z : tu = -1 := e4.trans a
    rw [if_pos z, if_pos z]
    exact ⟨tu, sa, rfl, rfl, h⟩
  · have z : tu = nI f := e4.trans f2
    have hfn := hfl f f1
    have hne : ¬ tu = -1 := by rw [z]; exact nI_m1 (by omega)
    have ct : fX1_stands ft tu = some (stF sa f) := by rw [z]; exact c_stands hF hfn
    have mt : fX6_stands sa tu = some (stF sa f) := by rw [z]; exact m_stands' sa (by omega)
    rw [if_neg hne, if_neg hne, ct, mt]
    simp only [Option.bind_some]
    by_cases y : bI (stF sa f) = 0
    · rw [if_pos y, if_pos y]
      exact ⟨-1, _, rfl, rfl, g_off h⟩
    · rw [if_neg y, if_neg y]
      exact ⟨tu, sa, rfl, rfl, h⟩
theorem g_settleL {n : Nat} {fl : List Nat} {li : Tab} {rd tu la : Int32} {dl : Bool} {sh tb : Int32} {fu : Nat} (hfu : 2000 < fu) : ∀ (m : Nat) (es sk : List Row) (ft er : Tab) (eb : Int32) (st : Tab) (sa : Nat → Int32) (B c i k k' : Nat), GI n es fl sk ft er eb li st rd tu la dl sh tb sa B → sk.length ≤ m → i + sk.length ≤ 8 → m < k → m < k' → B + m < 2 ^ 30 →
    ∃ c' es' ft' er' eb' st' tu' sa', fX1_settleStack_L4 fu sh k ft er eb st tu (nI c) (nI i) = some (nI c', ft', er', eb', st', tu') ∧ fX6_settles_L2 fu k' sa (nI c) = some (nI c', sa') ∧ c' ≤ c + m ∧ GI n es' fl [] ft' er' eb' li st' rd tu' la dl sh tb sa' (B + m) := by
  intro m
  induction m with
  | zero =>
    intro es sk ft er eb st sa B c i k k' h hm hi hk hk' hB
    have e : sk = [] := List.length_eq_zero_iff.mp (by omega)
    subst e
    obtain ⟨tu', sa', a, b, g⟩ := g_settleE (fu := fu) (c := c) h (show i ≤ 8 by omega) hk hk'
    exact ⟨c, es, ft, er, eb, st, tu', sa', a, b, by omega, g⟩
  | succ m ih =>
    intro es sk ft er eb st sa B c i k k' h hm hi hk hk' hB
    rcases List.eq_nil_or_concat sk with e | ⟨sk0, r, e⟩
    · subst e
      obtain ⟨tu', sa', a, b, g⟩ := g_settleE (fu := fu) (c := c) h (show i ≤ 8 by omega) (show 0 < k by omega) (show 0 < k' by omega)
      exact ⟨c, es, ft, er, eb, st, tu', sa', a, b, by omega, g.mono (by omega)⟩
    · rw [List.concat_eq_append] at e
      subst e
      simp at hm hi
      obtain ⟨k, rfl⟩ : ∃ x, k = x + 1 := ⟨k - 1, by omega⟩
      obtain ⟨k', rfl⟩ : ∃ x, k' = x + 1 := ⟨k' - 1, by omega⟩
      have hc : fX4_count st = some (nI (sk0.length + 1)) := by rw [t_count h.1.2.2.2]; simp
      obtain ⟨b, es', sk', ft', er', eb', st', sa', x1, x2, x3, x4⟩ := g_step h hfu (by omega)
      obtain ⟨c2, es2, ft2, er2, eb2, st2, tu2, sa2, y1, y2, y3, y4⟩ := ih es' sk' ft' er' eb' st' sa' (B + 1) (if b = true then c + 1 else c) (i + 1) k k' x3 (by omega) (by omega) (by omega) (by omega) (by omega)
      refine ⟨c2, es2, ft2, er2, eb2, st2, tu2, sa2, ?_, ?_, by split at y3 <;> omega, ?_⟩
      · rw [fX1_settleStack_L4, if_neg (show ¬ (8 : Int32) ≤ nI i from nI_ge (b := 8) (by omega) (by decide)), hc]
        simp only [Option.bind_some]
        rw [if_neg (nI_nle (by omega) (by omega)), x1]
        simp only [Option.bind_some, nS]
        cases b with
        | true => rw [if_neg bI_t]; simpa using y1
        | false => rw [if_pos bI_ff]; simpa using y1
      · rw [x2]
        cases b with
        | true => rw [if_pos rfl, nS]; simpa using y2
        | false => simpa using y2
      · rw [show B + (m + 1) = B + 1 + m by omega]; exact y4
theorem g_settle {n : Nat} {es : List Row} {fl : List Nat} {sk : List Row} {ft er : Tab} {eb : Int32} {li st : Tab} {rd tu la : Int32} {dl : Bool} {sh tb : Int32} {sa : Nat → Int32} {B fu : Nat} (h : GI n es fl sk ft er eb li st rd tu la dl sh tb sa B) (hfu : 2000 < fu) (hB : B + 8 < 2 ^ 30) :
    ∃ c' es' ft' er' eb' st' tu' sa', fX1_settleStack fu ft er eb st tu sh = some (nI c', ft', er', eb', st', tu') ∧ fX6_settles fu sa = some (nI c', sa') ∧ c' ≤ 8 ∧ GI n es' fl [] ft' er' eb' li st' rd tu' la dl sh tb sa' (B + 8) := by
  have hlen := h.2.2.2.2.2.2.2.1.1.2.1
  obtain ⟨c', es', ft', er', eb', st', tu', sa', a, b, c, d⟩ := g_settleL hfu 8 es sk ft er eb st sa B 0 0 fu fu h hlen (by omega) (by omega) (by omega) hB
  exact ⟨c', es', ft', er', eb', st', tu', sa', a, b, by omega, d⟩
