/-! what is asked -/
def inB (p a b : Int32) : Bool := if p < a then false else if b < p then false else true
theorem c_within (p a b : Int32) : fX5_within p a b = some (inB p a b) := by
  rw [fX5_within, inB]; split
  · rfl
  · split <;> rfl
theorem m_in (p a b : Int32) : fX6_in p a b = some (inB p a b) := by
  rw [fX6_in, inB]; split
  · rfl
  · split <;> rfl
theorem inB_t {p a b : Int32} (h : inB p a b = true) : ¬ p < a ∧ ¬ b < p := by
  unfold inB at h
  split at h
  · cases h
  · split at h
    · cases h
    · rename_i x y; exact ⟨x, y⟩
theorem inB_r {p : Int32} {a b : Nat} (h : inB p (nI a) (nI b) = true) (hb : b < 2 ^ 31) (ha : a < 2 ^ 31) : ∃ j, a ≤ j ∧ j ≤ b ∧ p = nI j := by
  obtain ⟨h1, h2⟩ := inB_t h
  have h0 : ¬ p < 0 := fun q => h1 (by
    rw [Int32.lt_iff_toInt_lt] at q ⊢
    rw [nI_toInt ha]
    rw [show (0 : Int32).toInt = 0 from rfl] at q
    omega)
  obtain ⟨j, j1, j2⟩ := nI_of h0
  subst j2
  refine ⟨j, ?_, ?_, rfl⟩
  · rcases Nat.lt_or_ge j a with q | q
    · exact absurd (nI_lt q ha) h1
    · exact q
  · rcases Nat.lt_or_ge b j with q | q
    · exact absurd (nI_lt q j1) h2
    · exact q
theorem inB_ix {p : Int32} {k : Nat} (h : inB p 0 (nI k - 1) = true) (hk : k < 2 ^ 31) : ∃ j, j < k ∧ p = nI j := by
  rcases Nat.eq_zero_or_pos k with z | z
  · subst z
    obtain ⟨h1, h2⟩ := inB_t h
    exfalso
    rw [Int32.lt_iff_toInt_lt] at h1 h2
    rw [show (nI 0 - 1 : Int32).toInt = -1 from rfl] at h2
    rw [show (0 : Int32).toInt = 0 from rfl] at h1
    omega
  · obtain ⟨m, rfl⟩ : ∃ m, k = m + 1 := ⟨k - 1, by omega⟩
    rw [nI_pred] at h
    obtain ⟨j, -, j2, j3⟩ := inB_r (a := 0) h (by omega) (by decide)
    exact ⟨j, by omega, j3⟩
theorem inB_of {a b j : Nat} (h1 : a ≤ j) (h2 : j ≤ b) (hb : b < 2 ^ 31) : inB (nI j) (nI a) (nI b) = true := by
  unfold inB
  rw [if_neg (nI_nlt h1 (by omega)), if_neg (nI_nlt h2 hb)]
theorem inB_oix {j k : Nat} (h : j < k) (hk : k < 2 ^ 31) : inB (nI j) 0 (nI k - 1) = true := by
  obtain ⟨m, rfl⟩ : ∃ m, k = m + 1 := ⟨k - 1, by omega⟩
  rw [nI_pred]
  exact inB_of (a := 0) (Nat.zero_le _) (by omega) (by omega)
section Q
variable {n : Nat} {es : List Row} {fl : List Nat} {sk : List Row} {ft er : Tab} {eb : Int32} {li st : Tab} {rd tu la : Int32} {dl : Bool} {sh tb : Int32} {sa : Nat → Int32} {B fu : Nat}
theorem g_isF (h : GI n es fl sk ft er eb li st rd tu la dl sh tb sa B) (p : Int32) : ∃ b : Bool, fX1_isFighter ft p = some b ∧ fX6_isFighter sa p = some b ∧ (b = true → ∃ j, j < n ∧ p = nI j) := by
  have hF := h.1.1
  have hn := h.2.2.2.1.2
  have h0 := h.2.2.2.1.1
  have hm : fX6_isFighter sa p = some (inB p 0 (nI n - 1)) := by
    rw [fX6_isFighter]
    simp only [q0, g0, if_true, h0, m_in, Option.bind_some]
  refine ⟨inB p 0 (nI n - 1), ?_, hm, fun hb => inB_ix hb (by omega)⟩
  rw [fX1_isFighter]
  rcases pk_ix p (show n < 2 ^ 31 by omega) with a | a | ⟨j, a, rfl⟩
  · rw [if_pos a, inB, if_pos a]
  · by_cases z : p < 0
    · rw [if_pos z, inB, if_pos z]
    · rw [if_neg z, hF.cnt]
      simp only [Option.bind_some]
      rw [if_pos a, inB, if_neg z, if_pos]
      rw [Int32.le_iff_toInt_le, nI_toInt (by omega)] at a
      rw [Int32.lt_iff_toInt_lt]
      rw [show (nI n - 1).toInt = (n : Int) - 1 from pk_sub_toInt (b := 1) (by omega) (by decide)]
      omega
  · rw [if_neg (nI_pos (by omega)), hF.cnt]
    simp only [Option.bind_some]
    rw [if_neg (nI_ge a (by omega)), inB_oix a (by omega)]
theorem c_state (h : GI n es fl sk ft er eb li st rd tu la dl sh tb sa B) {a : Nat} (ha : a < n) (hfu : 2000 < fu) : fX1_stateOf fu li (nI a) = some (sa (12 + 6 * a + 4)) := by
  have hL := h.1.2.2.1
  have hKL := h.2.2.2.2.2.1
  have hn := h.2.2.2.1.2
  rw [fX1_stateOf, c_place hL hKL.2.1 (by omega) (by omega)]
  simp only [Option.bind_some]
  by_cases hm : a ∈ fl
  · obtain ⟨k, k1, k2⟩ := plF_yes (i := 0) hm
    rw [k1, Nat.zero_add, hL.at1 k2]
    rfl
  · rw [plF_no hm, t_at_neg (show (-1 : Int32) < 0 by decide), hKL.2.2.2 a ha hm]
    rfl
theorem g_may1 (h : GI n es fl sk ft er eb li st rd tu la dl sh tb sa B) : ∃ b : Bool, fX1_mayBeginTurn tu = some b ∧ (b = if sa 4 = -1 then true else false) ∧ (b = true → tu = -1 ∧ sk = []) := by
  have e4 := h.2.1.2.2.1
  have hKT := h.2.2.2.2.2.2.2.2.2.2
  have hn := h.2.2.2.1.2
  rw [fX1_mayBeginTurn, e4]
  by_cases z : sa 4 = -1
  · rw [if_pos z, if_pos z]
    refine ⟨true, rfl, rfl, fun _ => ⟨z, ?_⟩⟩
    rcases hKT.1 with ⟨-, a⟩ | ⟨f, f1, f2⟩
    · exact a
    · have := h.2.2.2.2.2.1.2.1.2 f f1
      exact absurd (f2.symm.trans z) (nI_m1 (by omega))
  · rw [if_neg z, if_neg z]
    exact ⟨false, rfl, rfl, fun q => by cases q⟩
theorem g_mayE (h : GI n es fl sk ft er eb li st rd tu la dl sh tb sa B) : ∃ b : Bool, fX1_mayEndTurn st tu = some b ∧ fX6_canEnd sa = some b ∧ (b = true → sk = []) := by
  have e4 := h.2.1.2.2.1
  have hc := t_count h.1.2.2.2
  have h8 := h.2.2.2.2.2.2.2.1.1.1
  have hl := h.2.2.2.2.2.2.2.1.1.2.1
  rw [fX1_mayEndTurn, fX6_canEnd, e4]
  simp only [q4, g4, q8, g8, if_true, hc, Option.bind_some, h8]
  by_cases z : sa 4 = -1
  · rw [if_pos z]
    exact ⟨false, rfl, rfl, fun q => by cases q⟩
  · rw [if_neg z]
    by_cases y : nI sk.length = 0
    · rw [if_pos y]
      refine ⟨true, rfl, rfl, fun _ => List.length_eq_zero_iff.mp ?_⟩
      rcases Nat.eq_zero_or_pos sk.length with q | q
      · exact q
      · exact absurd y (nI_ne0 q (by omega))
    · rw [if_neg y]
      exact ⟨false, rfl, rfl, fun q => by cases q⟩
theorem g_mayD (h : GI n es fl sk ft er eb li st rd tu la dl sh tb sa B) : ∃ b : Bool, fX1_mayDelayTurn tu dl = some b ∧ fX6_canDelay sa = some b ∧ (b = true → sk = [] ∧ ∃ f, f ∈ fl ∧ tu = nI f) := by
  have e4 := h.2.1.2.2.1
  have hV := h.2.2.1
  have hKT := h.2.2.2.2.2.2.2.2.2.2
  have hn := h.2.2.2.1.2
  have hfl := h.2.2.2.2.2.1.2.1.2
  rw [fX1_mayDelayTurn, fX6_canDelay]
  simp only [q4, g4, q5, g5, if_true, ← e4]
  rcases hKT.1 with ⟨a, -⟩ | ⟨f, f1, f2⟩
  · rw [if_pos (e4.trans a), if_pos (e4.trans a)]
    exact ⟨false, rfl, rfl, fun q => by cases q⟩
  · have hfn := hfl f f1
    have z : tu = nI f := e4.trans f2
    have hne : ¬ tu = -1 := by rw [z]; exact nI_m1 (by omega)
    rw [if_neg hne, if_neg hne, z, show fX6_of sa (nI f) (5 : Int32) = _ from m_of sa (by omega) (show 5 < 6 by decide)]
    have hd := hV f hfn f2
    simp only [Option.bind_some]
    by_cases x : sa 5 = 0
    · rw [if_pos x]
      have hsk : sk = [] := Classical.byContradiction (fun q => by rw [hKT.2.1 q] at x; exact absurd x (by decide))
      by_cases y : sa (12 + 6 * f + 5) = 0
      · rw [if_pos y, hd, decide_eq_true ⟨x, y⟩, if_neg bI_t]
        exact ⟨true, rfl, rfl, fun _ => ⟨hsk, f, f1, rfl⟩⟩
      · rw [if_neg y, hd, decide_eq_false (fun q => y q.2), if_pos bI_ff]
        exact ⟨false, rfl, rfl, fun q => by cases q⟩
    · rw [if_neg x, hd, decide_eq_false (fun q => x q.1), if_pos bI_ff]
      exact ⟨false, rfl, rfl, fun q => by cases q⟩
theorem g_mayC (h : GI n es fl sk ft er eb li st rd tu la dl sh tb sa B) {a : Nat} (ha : a < n) (hfu : 2000 < fu) : ∃ b : Bool, fX1_mayResumeTurn fu ft li tu (nI a) = some b ∧ fX6_canComeIn sa (nI a) = some b ∧ (b = true → tu = -1 ∧ sk = [] ∧ sa (12 + 6 * a + 4) = 2) := by
  have e4 := h.2.1.2.2.1
  have hn := h.2.2.2.1.2
  obtain ⟨b1, -, -, hb⟩ := g_may1 h
  rw [fX1_mayResumeTurn, fX6_canComeIn]
  simp only [q4, g4, if_true, ← e4, c_state h ha hfu, c_stands h.1.1 ha, m_stands' sa (show a < 10 by omega), show fX6_of sa (nI a) (4 : Int32) = _ from m_of sa (show a < 10 by omega) (show 4 < 6 by decide), Option.bind_some]
  by_cases z : tu = -1
  · rw [if_pos z]
    have hsk : sk = [] := by
      rcases h.2.2.2.2.2.2.2.2.2.2.1 with ⟨-, a⟩ | ⟨f, f1, f2⟩
      · exact a
      · have := h.2.2.2.2.2.1.2.1.2 f f1
        exact absurd (f2.symm.trans (e4.symm.trans z)) (nI_m1 (by omega))
    by_cases y : sa (12 + 6 * a + 4) = 2
    · rw [if_pos y]
      by_cases x : bI (stF sa a) = 0
      · rw [if_pos x]; exact ⟨false, rfl, rfl, fun q => by cases q⟩
      · rw [if_neg x]; exact ⟨true, rfl, rfl, fun _ => ⟨z, hsk, y⟩⟩
    · rw [if_neg y]; exact ⟨false, rfl, rfl, fun q => by cases q⟩
  · rw [if_neg z]; exact ⟨false, rfl, rfl, fun q => by cases q⟩
theorem g_ans (h : GI n es fl sk ft er eb li st rd tu la dl sh tb sa B) {a : Nat} (ha : a < n) : ∃ b : Bool, fX1_canAnswer ft st (nI a) = some b ∧ fX6_canAnswer sa (nI a) = some b ∧ (b = true → 0 < sk.length ∧ sk.length < 8) := by
  have hn := h.2.2.2.1.2
  have hSt := h.1.2.2.2
  have hc := t_count hSt
  have h8 := h.2.2.2.2.2.2.2.1.1.1
  have hl := h.2.2.2.2.2.2.2.1.1.2.1
  have ca : fX4_at ft (nI a) 3 = some (sa (12 + 6 * a + 3)) := h.1.1.at ha (show 3 < 4 by decide)
  have ma : fX6_of sa (nI a) 3 = some (sa (12 + 6 * a + 3)) := m_of sa (show a < 10 by omega) (show 3 < 6 by decide)
  have cs := c_stands h.1.1 ha
  have ms := m_stands' sa (show a < 10 by omega)
  have hM : fX6_canAnswer sa (nI a) = (if bI (inB (nI sk.length) 1 7) = 0 then some false else if bI (stF sa a) = 0 then some false else if sa (12 + 6 * a + 3) = 1 then (fX6_ofAct sa (nI sk.length - 1) 1).bind fun x4 => if x4 = nI a then some false else some true else some false) := by
    rw [fX6_canAnswer]
    simp only [q8, g8, if_true, h8, m_in, ms, ma, Option.bind_some]
  have hno : ∀ b, fX1_canAnswer_J52 ft st (nI a) false b = some false := fun b => by rw [fX1_canAnswer_J52, if_pos bI_ff]
  have hn1 : fX1_canAnswer_J24 ft st (nI a) = some false := by
    rw [fX1_canAnswer_J24, fX1_canAnswer_J25, cs]
    simp only [Option.bind_some]
    split
    · rw [fX1_canAnswer_J51]; exact hno _
    · rw [ca]
      simp only [Option.bind_some]
      split
      · exact hno _
      · rw [fX1_canAnswer_J51]; exact hno _
  rw [hM, fX1_canAnswer, hc]
  simp only [Option.bind_some]
  rcases Nat.eq_zero_or_pos sk.length with z | z
  · rw [z, if_pos (show nI 0 ≤ 0 by decide), if_pos (show bI (inB (nI 0) 1 7) = 0 by decide)]
    exact ⟨false, hn1, rfl, fun q => by cases q⟩
  · rw [if_neg (nI_nle z (by omega)), t_full hSt d7]
    simp only [Option.bind_some]
    by_cases y : sk.length = 8
    · have e : inB (nI sk.length) 1 7 = false := by rw [y]; decide
      rw [e, if_pos bI_ff, if_neg (fun q => (bI0.mp q) y)]
      exact ⟨false, hn1, rfl, fun q => by cases q⟩
    · have e : inB (nI sk.length) 1 7 = true := inB_of (a := 1) (b := 7) z (by omega) (by decide)
      rw [e, if_neg bI_t, if_pos (bI0.mpr y), fX1_canAnswer_J25, cs, ca]
      simp only [Option.bind_some]
      obtain ⟨sk0, r, e2⟩ : ∃ sk0 r, sk = sk0 ++ [r] := by
        rcases List.eq_nil_or_concat sk with q | ⟨x, r, q⟩
        · rw [q] at z; exact absurd z (by decide)
        · exact ⟨x, r, by rw [q, List.concat_eq_append]⟩
      subst e2
      have ct : fX1_aboutAct st 0 1 = some (gD r 1) := c_topAct hSt (show 1 < 7 by decide)
      have hlen : (sk0 ++ [r]).length = sk0.length + 1 := by simp
      have mt : fX6_ofAct sa (nI (sk0 ++ [r]).length - 1) 1 = some (gD r 1) := by
        rw [hlen, nI_pred, show fX6_ofAct sa (nI sk0.length) (1 : Int32) = _ from m_ofK sa (show sk0.length < 8 by omega) (show 1 < 7 by decide)]
        rw [(h.2.2.2.2.2.2.2.1.1.2.2 sk0.length r (by simp)).2 1 (by decide)]
      rw [mt]
      simp only [Option.bind_some]
      by_cases w : bI (stF sa a) = 0
      · rw [if_pos w, if_pos w, fX1_canAnswer_J51, fX1_canAnswer_J52, if_neg bI_t, if_pos bI_ff]
        exact ⟨false, rfl, rfl, fun q => by cases q⟩
      · rw [if_neg w, if_neg w]
        by_cases v : sa (12 + 6 * a + 3) = 1
        · rw [if_pos v, if_pos v, fX1_canAnswer_J52, if_neg bI_t, if_neg bI_t, ct]
          simp only [Option.bind_some]
          by_cases u : gD r 1 = nI a
          · rw [if_pos u]; exact ⟨false, rfl, rfl, fun q => by cases q⟩
          · rw [if_neg u]; exact ⟨true, rfl, rfl, fun _ => ⟨z, by omega⟩⟩
        · rw [if_neg v, if_neg v, fX1_canAnswer_J51, fX1_canAnswer_J52, if_neg bI_t, if_pos bI_ff]
          exact ⟨false, rfl, rfl, fun q => by cases q⟩
theorem g_mayA (h : GI n es fl sk ft er eb li st rd tu la dl sh tb sa B) {a : Nat} (ha : a < n) (k : Int32) : ∃ b : Bool, fX1_mayAct ft st tu (nI a) k = some b ∧ fX6_canAct sa (nI a) k = some b ∧ (b = true → sk.length < 8 ∧ tu ≠ -1) := by
  have e4 := h.2.1.2.2.1
  have hn := h.2.2.2.1.2
  have hc := t_count h.1.2.2.2
  have h8 := h.2.2.2.2.2.2.2.1.1.1
  have hl := h.2.2.2.2.2.2.2.1.1.2.1
  have hKT := h.2.2.2.2.2.2.2.2.2.2
  have hfl := h.2.2.2.2.2.1.2.1.2
  obtain ⟨b, b1, b2, b3⟩ := g_ans h ha
  rw [fX1_mayAct, fX6_canAct, hc, b1]
  simp only [q8, g8, q4, g4, if_true, h8, ← e4, b2, Option.bind_some]
  rcases Nat.eq_zero_or_pos sk.length with z | z
  · rw [z, if_pos (show nI 0 ≤ 0 by decide), if_pos (show nI 0 = 0 from rfl)]
    by_cases y : tu = -1
    · rw [if_pos y, if_neg (show ¬ tu = nI a from fun q => nI_m1 (show a < 2 ^ 31 by omega) (q.symm.trans y))]
      exact ⟨false, rfl, rfl, fun q => by cases q⟩
    · rw [if_neg y]
      by_cases x : tu = nI a
      · rw [if_pos x.symm, if_pos x]
        by_cases w : k = 3
        · rw [if_pos w]; exact ⟨false, rfl, rfl, fun q => by cases q⟩
        · rw [if_neg w]; exact ⟨true, rfl, rfl, fun _ => ⟨by decide, y⟩⟩
      · rw [if_neg (fun q => x q.symm), if_neg x]; exact ⟨false, rfl, rfl, fun q => by cases q⟩
  · rw [if_neg (nI_nle z (by omega)), if_neg (nI_ne0 z (by omega))]
    refine ⟨b, rfl, rfl, fun q => ⟨(b3 q).2, fun y => ?_⟩⟩
    rcases hKT.1 with ⟨-, w⟩ | ⟨f, f1, f2⟩
    · rw [w] at z; exact absurd z (by decide)
    · have := hfl f f1
      exact nI_m1 (show f < 2 ^ 31 by omega) (f2.symm.trans (e4.symm.trans y))
theorem g_mayS (h : GI n es fl sk ft er eb li st rd tu la dl sh tb sa B) : ∃ b : Bool, fX1_maySettle st = some b ∧ (b = if sa 8 ≤ 0 then false else true) ∧ (b = if sa 8 = 0 then false else true) := by
  have hc := t_count h.1.2.2.2
  have h8 := h.2.2.2.2.2.2.2.1.1.1
  have hl := h.2.2.2.2.2.2.2.1.1.2.1
  rw [fX1_maySettle, hc, h8]
  simp only [Option.bind_some]
  rcases Nat.eq_zero_or_pos sk.length with z | z
  · rw [z, if_pos (show nI 0 ≤ 0 by decide), if_pos (show nI 0 ≤ 0 by decide), if_pos (show nI 0 = 0 from rfl)]
    exact ⟨false, rfl, rfl, rfl⟩
  · rw [if_neg (nI_nle z (by omega)), if_neg (nI_nle z (by omega)), if_neg (nI_ne0 z (by omega))]
    exact ⟨true, rfl, rfl, rfl⟩
theorem g_stdL (h : GI n es fl sk ft er eb li st rd tu la dl sh tb sa B) : ∀ (d i k k' : Nat) (v : Int32), i + d = n → d < k → d < k' → ∃ r, fX1_standing_L4 fu ft k v (nI i) = some r ∧ fX6_standing_L4 fu sa k' v (nI i) = some r
  | 0, i, k + 1, k' + 1, v, hd, hk, hk' => by
    have hn := h.2.2.2.1.2
    have hi : i = n := by omega
    subst hi
    rw [fX1_standing_L4, fX6_standing_L4]
    simp only [h.1.1.cnt, q0, g0, if_true, h.2.2.2.1.1, Option.bind_some, if_pos (nle (Nat.le_refl i) (by omega))]
    exact ⟨v, rfl, rfl⟩
  | d + 1, i, k + 1, k' + 1, v, hd, hk, hk' => by
    have hn := h.2.2.2.1.2
    have hi : i < n := by omega
    rw [fX1_standing_L4, fX6_standing_L4]
    simp only [h.1.1.cnt, q0, g0, if_true, h.2.2.2.1.1, Option.bind_some, if_neg (nge hi (by omega)), c_stands h.1.1 hi, m_stands' sa (show i < 10 by omega), nS, Int32.add_zero]
    split
    · exact g_stdL h d (i + 1) k k' v (by omega) (by omega) (by omega)
    · exact g_stdL h d (i + 1) k k' (v + 1) (by omega) (by omega) (by omega)
theorem g_livL (h : GI n es fl sk ft er eb li st rd tu la dl sh tb sa B) {p : Nat} (hp : p = 1 ∨ p = 2) : ∀ (d i k k' s : Nat), i + d = n → d < k → d < k' → ∃ s', fX1_total_L4 fu ft (nI p) k (nI s) (nI i) = some (nI s') ∧ fX6_lives_L4 fu sa (nI p) k' (nI s) (nI i) = some (nI s') ∧ s' ≤ s + 200 * d ∧ (p = 1 → s + d ≤ s')
  | 0, i, k + 1, k' + 1, s, hd, hk, hk' => by
    have hn := h.2.2.2.1.2
    have hi : i = n := by omega
    subst hi
    rw [fX1_total_L4, fX6_lives_L4]
    simp only [h.1.1.cnt, q0, g0, if_true, h.2.2.2.1.1, Option.bind_some, if_pos (nle (Nat.le_refl i) (by omega))]
    exact ⟨s, rfl, rfl, by omega, fun _ => by omega⟩
  | d + 1, i, k + 1, k' + 1, s, hd, hk, hk' => by
    have hn := h.2.2.2.1.2
    have hi : i < n := by omega
    obtain ⟨lf, fi, a1, a2, a3, a4, a5⟩ := h.2.2.2.2.2.2.2.2.2.1 i hi
    obtain ⟨v, v1, v2, v3⟩ : ∃ v, sa (12 + 6 * i + p) = nI v ∧ v ≤ 200 ∧ (p = 1 → 1 ≤ v) := by
      rcases hp with e | e
      · exact ⟨fi, by rw [e]; exact a5, a3, fun _ => a2⟩
      · exact ⟨lf, by rw [e]; exact a4, by omega, fun q => by omega⟩
    have ca : fX4_at ft (nI i) (nI p) = some (nI v) := by rw [← v1]; exact h.1.1.at hi (by omega)
    have ma : fX6_of sa (nI i) (nI p) = some (nI v) := by rw [← v1]; exact m_of sa (by omega) (by omega)
    obtain ⟨s', i1, i2, i3, i4⟩ := g_livL h hp d (i + 1) k k' (s + v) (by omega) (by omega) (by omega)
    rw [fX1_total_L4, fX6_lives_L4]
    simp only [h.1.1.cnt, q0, g0, if_true, h.2.2.2.1.1, Option.bind_some, if_neg (nge hi (by omega)), ca, ma, nS, nI_add]
    exact ⟨s', i1, i2, by omega, fun q => by have := i4 q; have := v3 q; omega⟩
theorem g_liv (h : GI n es fl sk ft er eb li st rd tu la dl sh tb sa B) {p : Nat} (hp : p = 1 ∨ p = 2) (hfu : 2000 < fu) : ∃ s', fX1_total fu ft (nI p) = some (nI s') ∧ fX6_lives fu sa (nI p) = some (nI s') ∧ s' ≤ 200 * n ∧ (p = 1 → n ≤ s') := by
  have hn := h.2.2.2.1.2
  obtain ⟨s', a, b, c, d⟩ := g_livL (fu := fu) h hp n 0 fu fu 0 (by omega) (by omega) (by omega)
  exact ⟨s', a, b, by omega, fun q => by have := d q; omega⟩
end Q
