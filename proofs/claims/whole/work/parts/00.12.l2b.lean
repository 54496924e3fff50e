/-! effects: ends -/
def stopF (f : Int32) : List Row → List Row
  | [] => []
  | r :: t => if gD r 6 = 1 ∧ gD r 2 = f then t else r :: stopF f t
theorem heldF_cases (f : Int32) : ∀ (t : List Row) (i : Nat), (heldF f t i = -1 ∧ stopF f t = t) ∨ ∃ j, j < t.length ∧ heldF f t i = nI (i + j) ∧ stopF f t = t.eraseIdx j
  | [], i => Or.inl ⟨rfl, rfl⟩
  | r :: t, i => by
    rw [heldF, stopF]
    by_cases h : gD r 6 = 1 ∧ gD r 2 = f
    · rw [if_pos h, if_pos h]
      exact Or.inr ⟨0, by simp, rfl, rfl⟩
    · rw [if_neg h, if_neg h]
      rcases heldF_cases f t (i + 1) with ⟨h1, h2⟩ | ⟨j, h1, h2, h3⟩
      · exact Or.inl ⟨h1, by rw [h2]⟩
      · exact Or.inr ⟨j + 1, by simpa using h1, by rw [h2]; congr 1; omega, by rw [h3]; rfl⟩
theorem c_stop {fu : Nat} {er : Tab} {es : List Row} (f : Int32) (h : EC er es) (hf : 30 < fu) : ∃ er', fX0_endHeldBy fu er f = some er' ∧ EC er' (stopF f es) := by
  rw [fX0_endHeldBy, c_held f h hf]
  rcases heldF_cases f es 0 with ⟨h1, h2⟩ | ⟨j, h1, h2, h3⟩
  · refine ⟨er, ?_, by rw [h2]; exact h⟩
    rw [h1]
    simp only [Option.bind_some, t_remove_neg (show (-1 : Int32) < 0 by decide)]
  · obtain ⟨T', g1, g2⟩ := t_remove h d8 h1
    rw [Nat.zero_add] at h2
    refine ⟨T', ?_, by rw [h3]; exact g2⟩
    rw [h2]
    simp only [Option.bind_some, g1]
/-- which effects stay when f falls -/
def keepF (f : Int32) (r : Row) : Bool := !(decide (gD r 3 = f) || (decide (gD r 2 = f) && (decide (gD r 6 = 1) || decide (gD r 5 = 0))))
theorem app_at {α : Type} (a b : List α) (r : α) : (a ++ [r] ++ b)[a.length]? = some r := by simp
theorem app_er {α : Type} (a b : List α) (r : α) : (a ++ [r] ++ b).eraseIdx a.length = a ++ b := by
  rw [List.append_assoc, List.eraseIdx_append_of_length_le (Nat.le_refl _)]
  simp
theorem app_set {α : Type} (a b : List α) (r r' : α) : (a ++ [r] ++ b).set a.length r' = a ++ [r'] ++ b := by
  rw [List.append_assoc, List.set_append_right _ _ (Nat.le_refl _)]
  simp
theorem nM (x : Int32) : x - 1 = x + (-1) := Int32.sub_eq_add_neg ..
theorem nP (n : Nat) : nI (n + 1) + (-1) = nI n := pk_m1 n
theorem c_fallL {fu : Nat} {f : Int32} : ∀ (n : Nat) (a b : List Row) (k : Nat) (er : Tab), a.length = n → EC er (a ++ b) → n < k → ∃ er', fX0_endOfFallen_L10 fu f k er (nI n + (-1)) = some er' ∧ EC er' (a.filter (keepF f) ++ b)
  | 0, a, b, k + 1, er, ha, h, hk => by
    have e : a = [] := List.length_eq_zero_iff.mp ha
    subst e
    refine ⟨er, ?_, h⟩
    rw [fX0_endOfFallen_L10, if_pos (show nI 0 + (-1) < 0 by decide)]
  | n + 1, a, b, k + 1, er, ha, h, hk => by
    obtain ⟨a', r, rfl⟩ : ∃ a' r, a = a' ++ [r] := by
      rcases List.eq_nil_or_concat a with e | ⟨a', r, e⟩
      · rw [e] at ha; simp at ha
      · exact ⟨a', r, by rw [e, List.concat_eq_append]⟩
    have hn : a'.length = n := by simpa using ha
    have hat : (a' ++ [r] ++ b)[n]? = some r := by rw [← hn]; exact app_at a' b r
    have hle := h.le
    have hlen : n < 30 := by simp at hle; omega
    have e6 : fX4_at er (nI n) 6 = some (gD r 6) := h.at hat (by decide)
    have e3 : fX4_at er (nI n) 3 = some (gD r 3) := h.at hat (by decide)
    have e2 : fX4_at er (nI n) 2 = some (gD r 2) := h.at hat (by decide)
    have e5 : fX4_at er (nI n) 5 = some (gD r 5) := h.at hat (by decide)
    obtain ⟨T', g1, g2⟩ := t_remove h d8 (i := n) (by simp; omega)
    rw [show (a' ++ [r] ++ b).eraseIdx n = a' ++ b by rw [← hn]; exact app_er a' b r] at g2
    rw [fX0_endOfFallen_L10, nP, if_neg (nI_pos (by omega))]
    simp only [e6, e3, e2, e5, g1, Option.bind_some]
    rw [List.filter_append]
    by_cases hkp : keepF f r = true
    · obtain ⟨er', i1, i2⟩ := c_fallL (fu := fu) (f := f) n a' (r :: b) k er hn (by simpa using h) (by omega)
      refine ⟨er', ?_, by simpa [hkp] using i2⟩
      simp only [keepF, Bool.not_eq_true', Bool.or_eq_false_iff, Bool.and_eq_false_iff, decide_eq_false_iff_not] at hkp
      obtain ⟨k3, k2⟩ := hkp
      by_cases u6 : gD r 6 = 1 <;> by_cases u5 : gD r 5 = 0 <;> by_cases u2 : gD r 2 = f <;> simp_all
    · obtain ⟨er', i1, i2⟩ := c_fallL (fu := fu) (f := f) n a' b k T' hn g2 (by omega)
      refine ⟨er', ?_, by simpa [hkp] using i2⟩
      simp only [keepF, Bool.not_eq_true', Bool.or_eq_false_iff, Bool.and_eq_false_iff, decide_eq_false_iff_not] at hkp
      by_cases u3 : gD r 3 = f <;> by_cases u6 : gD r 6 = 1 <;> by_cases u5 : gD r 5 = 0 <;> by_cases u2 : gD r 2 = f <;> simp_all
theorem c_fall {fu : Nat} {er : Tab} {es : List Row} (f : Int32) (h : EC er es) (hf : 30 < fu) : ∃ er', fX0_endOfFallen fu er f = some er' ∧ EC er' (es.filter (keepF f)) := by
  obtain ⟨er', h1, h2⟩ := c_fallL (fu := fu) (f := f) es.length es [] fu er rfl (by simpa using h) (by have := h.le; omega)
  refine ⟨er', ?_, by simpa using h2⟩
  rw [fX0_endOfFallen, h.cnt, Option.bind_some, nM]
  exact h1
/-- what a turn's end makes of an effect -/
def cdF (f : Int32) (r : Row) : Option Row := if (if gD r 5 = 0 then gD r 2 else gD r 3) = f then (if 0 < gD r 4 - 1 then some (r.set 4 (gD r 4 - 1)) else none) else some r
theorem c_cdL {fu : Nat} {f s : Int32} : ∀ (n : Nat) (a b : List Row) (k : Nat) (er : Tab), a.length = n → EC er (a ++ b) → n < k → ∃ er', fX0_countDown_L12 fu f k er s (nI n + (-1)) = some (s - nI (a.filterMap (cdF f) ++ b).length, er') ∧ EC er' (a.filterMap (cdF f) ++ b)
  | 0, a, b, k + 1, er, ha, h, hk => by
    have e : a = [] := List.length_eq_zero_iff.mp ha
    subst e
    refine ⟨er, ?_, h⟩
    rw [fX0_countDown_L12, if_pos (show nI 0 + (-1) < 0 by decide), h.cnt]
    rfl
  | n + 1, a, b, k + 1, er, ha, h, hk => by
    obtain ⟨a', r, rfl⟩ : ∃ a' r, a = a' ++ [r] := by
      rcases List.eq_nil_or_concat a with e | ⟨a', r, e⟩
      · rw [e] at ha; simp at ha
      · exact ⟨a', r, by rw [e, List.concat_eq_append]⟩
    have hn : a'.length = n := by simpa using ha
    have hat : (a' ++ [r] ++ b)[n]? = some r := by rw [← hn]; exact app_at a' b r
    have hle := h.le
    have hlen : n < 30 := by simp at hle; omega
    have e5 : fX4_at er (nI n) 5 = some (gD r 5) := h.at hat (by decide)
    have e3 : fX4_at er (nI n) 3 = some (gD r 3) := h.at hat (by decide)
    have e2 : fX4_at er (nI n) 2 = some (gD r 2) := h.at hat (by decide)
    have e4 : fX4_at er (nI n) 4 = some (gD r 4) := h.at hat (by decide)
    obtain ⟨T1, p1, p2⟩ := t_put (v := gD r 4 - 1) h d8 hat (show 4 < 8 by decide)
    have p1 : fX4_put er (nI n) 4 (gD r 4 - 1) = some T1 := p1
    rw [show (a' ++ [r] ++ b).set n (r.set 4 (gD r 4 - 1)) = a' ++ [r.set 4 (gD r 4 - 1)] ++ b by rw [← hn]; exact app_set a' b r _] at p2
    obtain ⟨T', g1, g2⟩ := t_remove p2 d8 (i := n) (by simp; omega)
    rw [show (a' ++ [r.set 4 (gD r 4 - 1)] ++ b).eraseIdx n = a' ++ b by rw [← hn]; exact app_er a' b _] at g2
    rw [fX0_countDown_L12, nP, if_neg (nI_pos (by omega))]
    simp only [e5, e3, e2, e4, p1, g1, Option.bind_some]
    rw [List.filterMap_append]
    have iA := c_cdL (fu := fu) (f := f) (s := s) n a' (r :: b) k er hn (by simpa using h) (by omega)
    have iB := c_cdL (fu := fu) (f := f) (s := s) n a' (r.set 4 (gD r 4 - 1) :: b) k T1 hn (by simpa using p2) (by omega)
    have iC := c_cdL (fu := fu) (f := f) (s := s) n a' b k T' hn g2 (by omega)
    have split : ∀ x : Option Row, cdF f r = x → [r].filterMap (cdF f) = x.toList := by
      intro x hx; cases x <;> simp [hx]
    by_cases u5 : gD r 5 = 0
    · by_cases u2 : gD r 2 = f
      · by_cases u4 : 0 < gD r 4 - 1
        · have hc : cdF f r = some (r.set 4 (gD r 4 - 1)) := by rw [cdF, if_pos u5, if_pos u2, if_pos u4]
          rw [split _ hc, if_pos u5, if_pos u2, if_pos u4]; simpa using iB
        · have hc : cdF f r = none := by rw [cdF, if_pos u5, if_pos u2, if_neg u4]
          rw [split _ hc, if_pos u5, if_pos u2, if_neg u4]; simpa using iC
      · have hc : cdF f r = some r := by rw [cdF, if_pos u5, if_neg u2]
        rw [split _ hc, if_pos u5, if_neg u2]; simpa using iA
    · by_cases u3 : gD r 3 = f
      · by_cases u4 : 0 < gD r 4 - 1
        · have hc : cdF f r = some (r.set 4 (gD r 4 - 1)) := by rw [cdF, if_neg u5, if_pos u3, if_pos u4]
          rw [split _ hc, if_neg u5, if_pos u3, if_pos u4]; simpa using iB
        · have hc : cdF f r = none := by rw [cdF, if_neg u5, if_pos u3, if_neg u4]
          rw [split _ hc, if_neg u5, if_pos u3, if_neg u4]; simpa using iC
      · have hc : cdF f r = some r := by rw [cdF, if_neg u5, if_neg u3]
        rw [split _ hc, if_neg u5, if_neg u3]; simpa using iA
theorem c_cd {fu : Nat} {er : Tab} {es : List Row} (f : Int32) (h : EC er es) (hf : 30 < fu) : ∃ er', fX0_countDown fu er f = some (nI es.length - nI (es.filterMap (cdF f)).length, er') ∧ EC er' (es.filterMap (cdF f)) := by
  obtain ⟨er', h1, h2⟩ := c_cdL (fu := fu) (f := f) (s := nI es.length) es.length es [] fu er rfl (by simpa using h) (by have := h.le; omega)
  refine ⟨er', ?_, by simpa using h2⟩
  rw [fX0_countDown, h.cnt, Option.bind_some, nM, h1, List.append_nil]
/-! the reference's effects end -/
theorem m_endL (fu : Nat) : ∀ (d k : Nat) (sa : Nat → Int32) (m j : Nat), sa 1 = nI m → m ≤ 29 → 82 ≤ j → j + d = 82 + 8 * m → d < k → ∃ sa', fX6_endEffect_L18 fu k sa (nI j) = some sa' ∧ ∀ q, sa' q = if q = 10 then sa 10 + 1 else if j ≤ q ∧ q < 82 + 8 * m then sa (q + 8) else sa q
  | 0, k + 1, sa, m, j, h1, hm, hj, hd, hk => by
    refine ⟨upd sa 10 (sa 10 + 1), ?_, fun q => ?_⟩
    · rw [fX6_endEffect_L18]
      simp only [q1, g1, q10, g10, if_true, h1, ofE0]
      rw [if_pos (nle (by omega) (by omega))]
    · by_cases hq : q = 10
      · rw [hq, pk_us]; simp
      · rw [pk_un hq, if_neg hq, if_neg (by omega)]
  | d + 1, k + 1, sa, m, j, h1, hm, hj, hd, hk => by
    obtain ⟨sa', i1, i2⟩ := m_endL fu d k (upd sa j (sa (j + 8))) m (j + 1) (by rw [pk_un (by omega)]; exact h1) hm (by omega) (by omega) (by omega)
    refine ⟨sa', ?_, fun q => ?_⟩
    · rw [fX6_endEffect_L18]
      simp only [q1, g1, if_true, h1, ofE0]
      rw [if_neg (nge (by omega) (by omega)), show nI j + 8 = nI (j + 8) from nI_add j 8, gd (j + 8) rfl (by omega) (by decide), gd j rfl (by omega) (by decide), nI_clamp (by omega), nI_clamp (by omega), nS]
      exact i1
    · rw [i2 q]
      by_cases hq : q = 10
      · subst hq; rw [if_pos rfl, if_pos rfl, pk_un (by omega)]
      · rw [if_neg hq, if_neg hq]
        by_cases hr : j + 1 ≤ q ∧ q < 82 + 8 * m
        · rw [if_pos hr, if_pos (by omega), pk_un (by omega)]
        · rw [if_neg hr]
          by_cases hqj : q = j
          · rw [hqj, pk_us, if_pos (by omega)]
          · rw [pk_un hqj, if_neg (by omega)]
/-- outside the effects, their number and the ended ones nothing changes -/
def effKeep (sa sa' : Nat → Int32) : Prop := ∀ q, q ≠ 1 → q ≠ 10 → (q < 82 ∨ 322 ≤ q) → sa' q = sa q
theorem effKeep.refl (sa : Nat → Int32) : effKeep sa sa := fun _ _ _ _ => rfl
theorem effKeep.trans {a b c : Nat → Int32} (h : effKeep a b) (g : effKeep b c) : effKeep a c := fun q h1 h2 h3 => (g q h1 h2 h3).trans (h q h1 h2 h3)
theorem m_end {fu : Nat} {sa : Nat → Int32} {es : List Row} {i : Nat} (h : EM sa es) (hi : i < es.length) (hf : 300 < fu) : ∃ sa', fX6_endEffect fu sa (nI i) = some sa' ∧ EM sa' (es.eraseIdx i) ∧ sa' 10 = sa 10 + 1 ∧ effKeep sa sa' := by
  obtain ⟨h1, h2, h3⟩ := h
  have e1 : nI es.length - 1 = nI (es.length - 1) := pk_sub (b := 1) (by omega)
  obtain ⟨sa', g1', g2'⟩ := m_endL fu (8 * (es.length - 1 - i)) fu (upd sa 1 (nI (es.length - 1))) (es.length - 1) (82 + 8 * i) (pk_us) (by omega) (by omega) (by omega) (by omega)
  refine ⟨sa', ?_, ⟨?_, ?_, ?_⟩, ?_, ?_⟩
  · rw [fX6_endEffect]
    simp only [q1, g1, if_true, h1, ofE0, e1]
    exact g1'
  · rw [g2', if_neg (by omega), if_neg (by omega), pk_us, List.length_eraseIdx, if_pos hi]
  · rw [List.length_eraseIdx, if_pos hi]; omega
  · intro i' r hr
    rw [List.getElem?_eraseIdx] at hr
    by_cases hii : i' < i
    · rw [if_pos hii] at hr
      obtain ⟨k1, k2⟩ := h3 i' r hr
      refine ⟨k1, fun j hj => ?_⟩
      rw [g2', if_neg (by omega), if_neg (by omega), pk_un (by omega), k2 j hj]
    · rw [if_neg hii] at hr
      obtain ⟨k1, k2⟩ := h3 (i' + 1) r hr
      have hl := tl_lt hr
      refine ⟨k1, fun j hj => ?_⟩
      rw [g2', if_neg (by omega), if_pos (by omega), pk_un (by omega), show 82 + 8 * i' + j + 8 = 82 + 8 * (i' + 1) + j by omega, k2 j hj]
  · rw [g2', if_pos rfl, pk_un (by decide)]
  · intro q a1 a2 a3
    rw [g2', if_neg a2, if_neg (by omega), pk_un a1]
theorem m_stop {fu : Nat} {sa : Nat → Int32} {es : List Row} (f : Int32) (h : EM sa es) (hf : 300 < fu) : ∃ sa', fX6_stopHolding fu sa f = some sa' ∧ EM sa' (stopF f es) ∧ sa' 10 + nI (stopF f es).length = sa 10 + nI es.length ∧ effKeep sa sa' := by
  rw [fX6_stopHolding, m_held f h (by omega)]
  rcases heldF_cases f es 0 with ⟨h1, h2⟩ | ⟨j, h1, h2, h3⟩
  · refine ⟨sa, ?_, by rw [h2]; exact h, by rw [h2], effKeep.refl sa⟩
    rw [h1]
    simp only [Option.bind_some, if_true]
  · obtain ⟨sa', g1', g2', g3', g4'⟩ := m_end h h1 hf
    rw [Nat.zero_add] at h2
    have hle := h.2.1
    refine ⟨sa', ?_, by rw [h3]; exact g2', ?_, g4'⟩
    · rw [h2]
      simp only [Option.bind_some, if_neg (show ¬ nI j = -1 from fun e => by have := congrArg Int32.toInt e; rw [nI_toInt (by omega)] at this; exact absurd this (by rw [show (-1 : Int32).toInt = -1 from rfl]; omega)), g1']
    · rw [g3', h3, List.length_eraseIdx, if_pos h1, Int32.add_assoc, Int32.add_comm 1, nS, show es.length - 1 + 1 = es.length by omega]
