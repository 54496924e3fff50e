/-! the class's own rows: from whole's layer 2 (wip/p28/extract.py) -/
theorem bI0 {c : Prop} [Decidable c] : bI (decide c) = 0 ↔ ¬ c := by
  by_cases h : c
  · simp [h, bI]
  · simp [h, bI]
theorem bI_t : ¬ bI true = 0 := by decide
theorem bI_ff : bI false = 0 := by decide
theorem dr_cons {α : Type} {l : List α} {i : Nat} {r : α} {t : List α} (h : l.drop i = r :: t) : l[i]? = some r ∧ l.drop (i + 1) = t ∧ i < l.length := by
  have hl : i < l.length := by
    rcases Nat.lt_or_ge i l.length with q | q
    · exact q
    · rw [List.drop_eq_nil_of_le q] at h; cases h
  rw [List.drop_eq_getElem_cons hl] at h
  injection h with h1 h2
  exact ⟨by rw [List.getElem?_eq_getElem hl, h1], h2, hl⟩
theorem dr_nil {α : Type} {l : List α} {i : Nat} (h : l.drop i = []) : l.length ≤ i := List.drop_eq_nil_iff.mp h
def heldF (f : Int32) : List Row → Nat → Int32
  | [], _ => -1
  | r :: t, i => if gD r 6 = 1 ∧ gD r 2 = f then nI i else heldF f t (i + 1)
def psumF (f k : Int32) : List Row → Int32 → Int32
  | [], s => s
  | r :: t, s => psumF f k t (if gD r 3 = f ∧ gD r 0 = k then s + gD r 1 else s)
def conF (f : Int32) : List Row → Int32 → Int32
  | [], s => s
  | r :: t, s => conF f t (if gD r 3 = f then s + 1 else s)
def thrF (b : Int32) : List Row → Bool
  | [] => false
  | r :: t => if gD r 7 = b then true else thrF b t
abbrev EC (er : Tab) (es : List Row) : Prop := TL 8 30 er es
theorem d8 : TD 8 30 := ⟨by decide, by decide, by decide⟩
theorem EC.at {er : Tab} {es : List Row} {i j : Nat} {r : Row} (h : EC er es) (hi : es[i]? = some r) (hj : j < 8) : fX4_at er (nI i) (nI j) = some (gD r j) := t_at h d8 hi hj
theorem EC.cnt {er : Tab} {es : List Row} (h : EC er es) : fX4_count er = some (nI es.length) := t_count h
theorem EC.le {er : Tab} {es : List Row} (h : EC er es) : es.length ≤ 30 := h.2.2.2.1
theorem nle {n i : Nat} (h : n ≤ i) (hi : i ≤ 1000) : nI n ≤ nI i := nI_le h (by omega)
theorem nge {n i : Nat} (h : i < n) (hn : n ≤ 1000) : ¬ nI n ≤ nI i := nI_ge h (by omega)
theorem nS (i : Nat) : nI i + 1 = nI (i + 1) := nI_1 i
theorem c_heldL {fu : Nat} {er : Tab} {es : List Row} {f : Int32} (h : EC er es) : ∀ (t : List Row) (k i : Nat), es.drop i = t → i ≤ es.length → t.length < k → fX0_heldBy_L2 fu er f k (nI i) = some (heldF f t i)
  | [], k + 1, i, hd, hi, hk => by
    rw [fX0_heldBy_L2]
    simp only [h.cnt, Option.bind_some, if_pos (nle (dr_nil hd) (by have := h.le; omega)), heldF]
  | r :: t, k + 1, i, hd, hi, hk => by
    obtain ⟨h1, h2, h3⟩ := dr_cons hd
    have a6 : fX4_at er (nI i) 6 = some (gD r 6) := h.at h1 (by decide)
    have a2 : fX4_at er (nI i) 2 = some (gD r 2) := h.at h1 (by decide)
    have ih := c_heldL (fu := fu) (f := f) h t k (i + 1) h2 h3 (by simpa using hk)
    rw [fX0_heldBy_L2]
    simp only [h.cnt, Option.bind_some, if_neg (nge h3 (by have := h.le; omega)), heldF, a6, a2, nS, ih]
    by_cases e1 : gD r 6 = 1 <;> by_cases e2 : gD r 2 = f <;> simp [e1, e2]
theorem c_held {fu : Nat} {er : Tab} {es : List Row} (f : Int32) (h : EC er es) (hf : 30 < fu) : fX0_heldBy fu er f = some (heldF f es 0) := c_heldL h es fu 0 rfl (Nat.zero_le _) (by have := h.le; omega)
theorem c_psumL {fu : Nat} {er : Tab} {es : List Row} {f q : Int32} (h : EC er es) : ∀ (t : List Row) (k i : Nat) (s : Int32), es.drop i = t → i ≤ es.length → t.length < k → fX0_powerOn_L5 fu er f q k s (nI i) = some (psumF f q t s)
  | [], k + 1, i, s, hd, hi, hk => by
    rw [fX0_powerOn_L5]
    simp only [h.cnt, Option.bind_some, if_pos (nle (dr_nil hd) (by have := h.le; omega)), psumF]
  | r :: t, k + 1, i, s, hd, hi, hk => by
    obtain ⟨h1, h2, h3⟩ := dr_cons hd
    have a3 : fX4_at er (nI i) 3 = some (gD r 3) := h.at h1 (by decide)
    have a0 : fX4_at er (nI i) 0 = some (gD r 0) := h.at h1 (by decide)
    have a1 : fX4_at er (nI i) 1 = some (gD r 1) := h.at h1 (by decide)
    have ih := fun s => c_psumL (fu := fu) (f := f) (q := q) h t k (i + 1) s h2 h3 (by simpa using hk)
    rw [fX0_powerOn_L5]
    simp only [h.cnt, Option.bind_some, if_neg (nge h3 (by have := h.le; omega)), psumF, a3, a0, a1, nS, ih]
    by_cases e1 : gD r 3 = f <;> by_cases e2 : gD r 0 = q <;> simp [e1, e2]
theorem c_psum {fu : Nat} {er : Tab} {es : List Row} (f q : Int32) (h : EC er es) (hf : 30 < fu) : fX0_powerOn fu er f q = some (psumF f q es 0) := c_psumL h es fu 0 0 rfl (Nat.zero_le _) (by have := h.le; omega)
theorem c_conL {fu : Nat} {er : Tab} {es : List Row} {f : Int32} (h : EC er es) : ∀ (t : List Row) (k i : Nat) (s : Int32), es.drop i = t → i ≤ es.length → t.length < k → fX0_countOn_L4 fu er f k s (nI i) = some (conF f t s)
  | [], k + 1, i, s, hd, hi, hk => by
    rw [fX0_countOn_L4]
    simp only [h.cnt, Option.bind_some, if_pos (nle (dr_nil hd) (by have := h.le; omega)), conF]
  | r :: t, k + 1, i, s, hd, hi, hk => by
    obtain ⟨h1, h2, h3⟩ := dr_cons hd
    have a3 : fX4_at er (nI i) 3 = some (gD r 3) := h.at h1 (by decide)
    have ih := fun s => c_conL (fu := fu) (f := f) h t k (i + 1) s h2 h3 (by simpa using hk)
    rw [fX0_countOn_L4]
    simp only [h.cnt, Option.bind_some, if_neg (nge h3 (by have := h.le; omega)), conF, a3, nS, ih]
    by_cases e1 : gD r 3 = f <;> simp [e1]
theorem c_con {fu : Nat} {er : Tab} {es : List Row} (f : Int32) (h : EC er es) (hf : 30 < fu) : fX0_countOn fu er f = some (conF f es 0) := c_conL h es fu 0 0 rfl (Nat.zero_le _) (by have := h.le; omega)
theorem c_thrL {fu : Nat} {er : Tab} {es : List Row} {b : Int32} (h : EC er es) : ∀ (t : List Row) (k i : Nat), es.drop i = t → i ≤ es.length → t.length < k → fX0_isThere_L2 fu er b k (nI i) = some (thrF b t)
  | [], k + 1, i, hd, hi, hk => by
    rw [fX0_isThere_L2]
    simp only [h.cnt, Option.bind_some, if_pos (nle (dr_nil hd) (by have := h.le; omega)), thrF]
  | r :: t, k + 1, i, hd, hi, hk => by
    obtain ⟨h1, h2, h3⟩ := dr_cons hd
    have a7 : fX4_at er (nI i) 7 = some (gD r 7) := h.at h1 (by decide)
    have ih := c_thrL (fu := fu) (b := b) h t k (i + 1) h2 h3 (by simpa using hk)
    rw [fX0_isThere_L2]
    simp only [h.cnt, Option.bind_some, if_neg (nge h3 (by have := h.le; omega)), thrF, a7, nS, ih]
    by_cases e1 : gD r 7 = b <;> simp [e1]
theorem c_thr {fu : Nat} {er : Tab} {es : List Row} (b : Int32) (h : EC er es) (hf : 30 < fu) : fX0_isThere fu er b = some (thrF b es) := c_thrL h es fu 0 rfl (Nat.zero_le _) (by have := h.le; omega)
def stopF (f : Int32) : List Row → List Row
  | [] => []
  | r :: t => if gD r 6 = 1 ∧ gD r 2 = f then t else r :: stopF f t
theorem heldF_cases (f : Int32) : ∀ (t : List Row) (i : Nat), (heldF f t i = -1 ∧ stopF f t = t) ∨ ∃ j, j < t.length ∧ heldF f t i = nI (i + j) ∧ stopF f t = t.eraseIdx j
  | [], i => Or.inl ⟨rfl, rfl⟩
  | r :: t, i => by
    rw [heldF, stopF]
    by_cases h : gD r 6 = 1 ∧ gD r 2 = f
    · rw [if_pos h, if_pos h]
      exact Or.inr ⟨0, by simp, rfl, rfl⟩
    · rw [if_neg h, if_neg h]
      rcases heldF_cases f t (i + 1) with ⟨h1, h2⟩ | ⟨j, h1, h2, h3⟩
      · exact Or.inl ⟨h1, by rw [h2]⟩
      · exact Or.inr ⟨j + 1, by simpa using h1, by rw [h2]; congr 1; omega, by rw [h3]; rfl⟩
theorem c_stop {fu : Nat} {er : Tab} {es : List Row} (f : Int32) (h : EC er es) (hf : 30 < fu) : ∃ er', fX0_endHeldBy fu er f = some er' ∧ EC er' (stopF f es) := by
  rw [fX0_endHeldBy, c_held f h hf]
  rcases heldF_cases f es 0 with ⟨h1, h2⟩ | ⟨j, h1, h2, h3⟩
  · refine ⟨er, ?_, by rw [h2]; exact h⟩
    rw [h1]
    simp only [Option.bind_some, t_remove_neg (show (-1 : Int32) < 0 by decide)]
  · obtain ⟨T', g1, g2⟩ := t_remove h d8 h1
    rw [Nat.zero_add] at h2
    refine ⟨T', ?_, by rw [h3]; exact g2⟩
    rw [h2]
    simp only [Option.bind_some, g1]
/-- which effects stay when f falls -/
def keepF (f : Int32) (r : Row) : Bool := !(decide (gD r 3 = f) || (decide (gD r 2 = f) && (decide (gD r 6 = 1) || decide (gD r 5 = 0))))
theorem app_at {α : Type} (a b : List α) (r : α) : (a ++ [r] ++ b)[a.length]? = some r := by simp
theorem app_er {α : Type} (a b : List α) (r : α) : (a ++ [r] ++ b).eraseIdx a.length = a ++ b := by
  rw [List.append_assoc, List.eraseIdx_append_of_length_le (Nat.le_refl _)]
  simp
theorem app_set {α : Type} (a b : List α) (r r' : α) : (a ++ [r] ++ b).set a.length r' = a ++ [r'] ++ b := by
  rw [List.append_assoc, List.set_append_right _ _ (Nat.le_refl _)]
  simp
theorem nM (x : Int32) : x - 1 = x + (-1) := Int32.sub_eq_add_neg ..
theorem nP (n : Nat) : nI (n + 1) + (-1) = nI n := pk_m1 n
theorem c_fallL {fu : Nat} {f : Int32} : ∀ (n : Nat) (a b : List Row) (k : Nat) (er : Tab), a.length = n → EC er (a ++ b) → n < k → ∃ er', fX0_endOfFallen_L10 fu f k er (nI n + (-1)) = some er' ∧ EC er' (a.filter (keepF f) ++ b)
  | 0, a, b, k + 1, er, ha, h, hk => by
    have e : a = [] := List.length_eq_zero_iff.mp ha
    subst e
    refine ⟨er, ?_, h⟩
    rw [fX0_endOfFallen_L10, if_pos (show nI 0 + (-1) < 0 by decide)]
  | n + 1, a, b, k + 1, er, ha, h, hk => by
    obtain ⟨a', r, rfl⟩ : ∃ a' r, a = a' ++ [r] := by
      rcases List.eq_nil_or_concat a with e | ⟨a', r, e⟩
      · rw [e] at ha; simp at ha
      · exact ⟨a', r, by rw [e, List.concat_eq_append]⟩
    have hn : a'.length = n := by simpa using ha
    have hat : (a' ++ [r] ++ b)[n]? = some r := by rw [← hn]; exact app_at a' b r
    have hle := h.le
    have hlen : n < 30 := by simp at hle; omega
    have e6 : fX4_at er (nI n) 6 = some (gD r 6) := h.at hat (by decide)
    have e3 : fX4_at er (nI n) 3 = some (gD r 3) := h.at hat (by decide)
    have e2 : fX4_at er (nI n) 2 = some (gD r 2) := h.at hat (by decide)
    have e5 : fX4_at er (nI n) 5 = some (gD r 5) := h.at hat (by decide)
    obtain ⟨T', g1, g2⟩ := t_remove h d8 (i := n) (by simp; omega)
    rw [show (a' ++ [r] ++ b).eraseIdx n = a' ++ b by rw [← hn]; exact app_er a' b r] at g2
    rw [fX0_endOfFallen_L10, nP, if_neg (nI_pos (by omega))]
    simp only [fX0_endOfFallen_J40, fX0_endOfFallen_J45, fX0_endOfFallen_J76, e6, e3, e2, e5, g1, Option.bind_some, eq_false bI_t, eq_true bI_ff, if_true, if_false]
    rw [List.filter_append]
    by_cases hkp : keepF f r = true
    · obtain ⟨er', i1, i2⟩ := c_fallL (fu := fu) (f := f) n a' (r :: b) k er hn (by simpa using h) (by omega)
      refine ⟨er', ?_, by simpa [hkp] using i2⟩
      simp only [keepF, Bool.not_eq_true', Bool.or_eq_false_iff, Bool.and_eq_false_iff, decide_eq_false_iff_not] at hkp
      obtain ⟨k3, k2⟩ := hkp
      by_cases u6 : gD r 6 = 1 <;> by_cases u5 : gD r 5 = 0 <;> by_cases u2 : gD r 2 = f <;> simp_all
    · obtain ⟨er', i1, i2⟩ := c_fallL (fu := fu) (f := f) n a' b k T' hn g2 (by omega)
      refine ⟨er', ?_, by simpa [hkp] using i2⟩
      simp only [keepF, Bool.not_eq_true', Bool.or_eq_false_iff, Bool.and_eq_false_iff, decide_eq_false_iff_not] at hkp
      by_cases u3 : gD r 3 = f <;> by_cases u6 : gD r 6 = 1 <;> by_cases u5 : gD r 5 = 0 <;> by_cases u2 : gD r 2 = f <;> simp_all
theorem c_fall {fu : Nat} {er : Tab} {es : List Row} (f : Int32) (h : EC er es) (hf : 30 < fu) : ∃ er', fX0_endOfFallen fu er f = some er' ∧ EC er' (es.filter (keepF f)) := by
  obtain ⟨er', h1, h2⟩ := c_fallL (fu := fu) (f := f) es.length es [] fu er rfl (by simpa using h) (by have := h.le; omega)
  refine ⟨er', ?_, by simpa using h2⟩
  rw [fX0_endOfFallen, h.cnt, Option.bind_some, nM]
  exact h1
/-- what a turn's end makes of an effect -/
def cdF (f : Int32) (r : Row) : Option Row := if (if gD r 5 = 0 then gD r 2 else gD r 3) = f then (if 0 < gD r 4 - 1 then some (r.set 4 (gD r 4 - 1)) else none) else some r
theorem c_cdL {fu : Nat} {f s : Int32} : ∀ (n : Nat) (a b : List Row) (k : Nat) (er : Tab), a.length = n → EC er (a ++ b) → n < k → ∃ er', fX0_countDown_L12 fu f s k er (nI n + (-1)) = some (s - nI (a.filterMap (cdF f) ++ b).length, er') ∧ EC er' (a.filterMap (cdF f) ++ b)
  | 0, a, b, k + 1, er, ha, h, hk => by
    have e : a = [] := List.length_eq_zero_iff.mp ha
    subst e
    refine ⟨er, ?_, h⟩
    rw [fX0_countDown_L12, if_pos (show nI 0 + (-1) < 0 by decide), h.cnt]
    rfl
  | n + 1, a, b, k + 1, er, ha, h, hk => by
    obtain ⟨a', r, rfl⟩ : ∃ a' r, a = a' ++ [r] := by
      rcases List.eq_nil_or_concat a with e | ⟨a', r, e⟩
      · rw [e] at ha; simp at ha
      · exact ⟨a', r, by rw [e, List.concat_eq_append]⟩
    have hn : a'.length = n := by simpa using ha
    have hat : (a' ++ [r] ++ b)[n]? = some r := by rw [← hn]; exact app_at a' b r
    have hle := h.le
    have hlen : n < 30 := by simp at hle; omega
    have e5 : fX4_at er (nI n) 5 = some (gD r 5) := h.at hat (by decide)
    have e3 : fX4_at er (nI n) 3 = some (gD r 3) := h.at hat (by decide)
    have e2 : fX4_at er (nI n) 2 = some (gD r 2) := h.at hat (by decide)
    have e4 : fX4_at er (nI n) 4 = some (gD r 4) := h.at hat (by decide)
    obtain ⟨T1, p1, p2⟩ := t_put (v := gD r 4 - 1) h d8 hat (show 4 < 8 by decide)
    have p1 : fX4_put er (nI n) 4 (gD r 4 - 1) = some T1 := p1
    rw [show (a' ++ [r] ++ b).set n (r.set 4 (gD r 4 - 1)) = a' ++ [r.set 4 (gD r 4 - 1)] ++ b by rw [← hn]; exact app_set a' b r _] at p2
    obtain ⟨T', g1, g2⟩ := t_remove p2 d8 (i := n) (by simp; omega)
    rw [show (a' ++ [r.set 4 (gD r 4 - 1)] ++ b).eraseIdx n = a' ++ b by rw [← hn]; exact app_er a' b _] at g2
    rw [fX0_countDown_L12, nP, if_neg (nI_pos (by omega))]
    simp only [fX0_countDown_J33, e5, e3, e2, e4, p1, g1, Option.bind_some]
    rw [List.filterMap_append]
    have iA := c_cdL (fu := fu) (f := f) (s := s) n a' (r :: b) k er hn (by simpa using h) (by omega)
    have iB := c_cdL (fu := fu) (f := f) (s := s) n a' (r.set 4 (gD r 4 - 1) :: b) k T1 hn (by simpa using p2) (by omega)
    have iC := c_cdL (fu := fu) (f := f) (s := s) n a' b k T' hn g2 (by omega)
    have split : ∀ x : Option Row, cdF f r = x → [r].filterMap (cdF f) = x.toList := by
      intro x hx; cases x <;> simp [hx]
    by_cases u5 : gD r 5 = 0
    · by_cases u2 : gD r 2 = f
      · by_cases u4 : 0 < gD r 4 - 1
        · have hc : cdF f r = some (r.set 4 (gD r 4 - 1)) := by rw [cdF, if_pos u5, if_pos u2, if_pos u4]
          rw [split _ hc, if_pos u5, if_pos u2, if_pos u4]; simpa using iB
        · have hc : cdF f r = none := by rw [cdF, if_pos u5, if_pos u2, if_neg u4]
          rw [split _ hc, if_pos u5, if_pos u2, if_neg u4]; simpa using iC
      · have hc : cdF f r = some r := by rw [cdF, if_pos u5, if_neg u2]
        rw [split _ hc, if_pos u5, if_neg u2]; simpa using iA
    · by_cases u3 : gD r 3 = f
      · by_cases u4 : 0 < gD r 4 - 1
        · have hc : cdF f r = some (r.set 4 (gD r 4 - 1)) := by rw [cdF, if_neg u5, if_pos u3, if_pos u4]
          rw [split _ hc, if_neg u5, if_pos u3, if_pos u4]; simpa using iB
        · have hc : cdF f r = none := by rw [cdF, if_neg u5, if_pos u3, if_neg u4]
          rw [split _ hc, if_neg u5, if_pos u3, if_neg u4]; simpa using iC
      · have hc : cdF f r = some r := by rw [cdF, if_neg u5, if_neg u3]
        rw [split _ hc, if_neg u5, if_neg u3]; simpa using iA
theorem c_cd {fu : Nat} {er : Tab} {es : List Row} (f : Int32) (h : EC er es) (hf : 30 < fu) : ∃ er', fX0_countDown fu er f = some (nI es.length - nI (es.filterMap (cdF f)).length, er') ∧ EC er' (es.filterMap (cdF f)) := by
  obtain ⟨er', h1, h2⟩ := c_cdL (fu := fu) (f := f) (s := nI es.length) es.length es [] fu er rfl (by simpa using h) (by have := h.le; omega)
  refine ⟨er', ?_, by simpa using h2⟩
  rw [fX0_countDown, h.cnt, Option.bind_some, nM, h1, List.append_nil]
def frow (sa : Nat → Int32) (i : Nat) : Row := [sa (12 + 6 * i), sa (12 + 6 * i + 1), sa (12 + 6 * i + 2), sa (12 + 6 * i + 3)]
def frows (sa : Nat → Int32) (n : Nat) : List Row := (List.range n).map (frow sa)
def FC (ft : Tab) (sa : Nat → Int32) (n : Nat) : Prop := TL 4 10 ft (frows sa n) ∧ n ≤ 10
theorem d4 : TD 4 10 := ⟨by decide, by decide, by decide⟩
theorem frows_len (sa : Nat → Int32) (n : Nat) : (frows sa n).length = n := by simp [frows]
theorem frows_at {sa : Nat → Int32} {n i : Nat} (hi : i < n) : (frows sa n)[i]? = some (frow sa i) := by
  simp [frows, hi]
theorem frow_get {sa : Nat → Int32} {i j : Nat} (hj : j < 4) : gD (frow sa i) j = sa (12 + 6 * i + j) := by
  match j, hj with
  | 0, _ => rfl
  | 1, _ => rfl
  | 2, _ => rfl
  | 3, _ => rfl
theorem FC.cnt {ft : Tab} {sa : Nat → Int32} {n : Nat} (h : FC ft sa n) : fX4_count ft = some (nI n) := by
  rw [t_count h.1, frows_len]
theorem FC.at {ft : Tab} {sa : Nat → Int32} {n i j : Nat} (h : FC ft sa n) (hi : i < n) (hj : j < 4) : fX4_at ft (nI i) (nI j) = some (sa (12 + 6 * i + j)) := by
  rw [t_at h.1 d4 (frows_at hi) hj, frow_get hj]
theorem frows_cong {sa sa' : Nat → Int32} {n : Nat} (h : ∀ i, i < n → ∀ j, j < 4 → sa' (12 + 6 * i + j) = sa (12 + 6 * i + j)) : frows sa' n = frows sa n := by
  unfold frows
  apply List.map_congr_left
  intro i hi
  have hi := List.mem_range.mp hi
  unfold frow
  rw [show sa' (12 + 6 * i) = sa (12 + 6 * i) from h i hi 0 (by decide), h i hi 1 (by decide), h i hi 2 (by decide), h i hi 3 (by decide)]
theorem FC.cong {ft : Tab} {sa sa' : Nat → Int32} {n : Nat} (h : FC ft sa n) (hc : ∀ i, i < n → ∀ j, j < 4 → sa' (12 + 6 * i + j) = sa (12 + 6 * i + j)) : FC ft sa' n := ⟨by rw [frows_cong hc]; exact h.1, h.2⟩
theorem FC.put {ft : Tab} {sa : Nat → Int32} {n i j : Nat} {v : Int32} (h : FC ft sa n) (hi : i < n) (hj : j < 4) : ∃ ft', fX4_put ft (nI i) (nI j) v = some ft' ∧ FC ft' (upd sa (12 + 6 * i + j) v) n := by
  obtain ⟨T', g1, g2⟩ := t_put (v := v) h.1 d4 (frows_at hi) hj
  refine ⟨T', g1, ?_, h.2⟩
  have e : frows (upd sa (12 + 6 * i + j) v) n = (frows sa n).set i ((frow sa i).set j v) := by
    apply List.ext_getElem?
    intro k
    rcases Nat.lt_or_ge k n with hk | hk
    · rw [frows_at hk, List.getElem?_set]
      by_cases hik : i = k
      · subst hik
        rw [if_pos rfl, if_pos (by rw [frows_len]; exact hi)]
        congr 1
        unfold frow
        match j, hj with
        | 0, _ => simp [pk_us, pk_un]
        | 1, _ => simp [pk_us, pk_un]
        | 2, _ => simp [pk_us, pk_un]
        | 3, _ => simp [pk_us, pk_un]
      · rw [if_neg hik, frows_at hk]
        congr 1
        unfold frow
        rw [pk_un (by omega), pk_un (by omega), pk_un (by omega), pk_un (by omega)]
    · rw [List.getElem?_eq_none (by rw [frows_len]; exact hk), List.getElem?_eq_none (by rw [List.length_set, frows_len]; exact hk)]
  rw [e]; exact g2
def hurtE (sh : Int32) (es : List Row) (i lf w : Nat) : List Row := if lf ≤ w then es.filter (keepF (nI i)) else if nI w < sh then es else stopF (nI i) es
theorem nI_sub {a b : Nat} (h : b ≤ a) : nI a - nI b = nI (a - b) := pk_sub h
theorem c_harm {fu : Nat} {ft er : Tab} {sa : Nat → Int32} {n i lf w : Nat} {es : List Row} {sh : Int32} (hF : FC ft sa n) (hE : EC er es) (hi : i < n) (hlf : sa (12 + 6 * i + 2) = nI lf) (hl : lf ≤ 200) (hw : w ≤ 1000) (hf : 30 < fu) :
    ∃ ft' er', fX1_harm fu ft er sh (nI i) (nI w) = some (ft', er') ∧ FC ft' (upd sa (12 + 6 * i + 2) (nI (lf - w))) n ∧ EC er' (hurtE sh es i lf w) := by
  have e2 : fX4_at ft (nI i) 2 = some (nI lf) := by rw [← hlf]; exact hF.at hi (by decide)
  have em : (if nI lf < nI w then nI lf else nI w) = nI (if lf < w then lf else w) := by
    by_cases q : lf < w
    · rw [if_pos (nI_lt q (by omega)), if_pos q]
    · rw [if_neg (nI_nlt (by omega) (by omega)), if_neg q]
  have es' : nI lf - nI (if lf < w then lf else w) = nI (lf - w) := by
    rw [nI_sub (by split <;> omega)]; congr 1; split <;> omega
  obtain ⟨ft', p1, p2⟩ := hF.put (v := nI (lf - w)) hi (show 2 < 4 by decide)
  have p1 : fX4_put ft (nI i) 2 (nI (lf - w)) = some ft' := p1
  rw [fX1_harm]
  simp only [e2, em, es', p1, Option.bind_some]
  unfold hurtE
  by_cases q : lf ≤ w
  · obtain ⟨er', f1, f2⟩ := c_fall (nI i) hE hf
    refine ⟨ft', er', ?_, p2, by rw [if_pos q]; exact f2⟩
    rw [if_neg (nI_nlt (by split <;> omega) (by split <;> omega))]
    simp only [f1, Option.bind_some]
  · have e0 : (if lf < w then lf else w) = w := if_neg (by omega)
    rw [e0, if_pos (nI_lt (by omega) (by omega)), if_neg q]
    by_cases s : nI w < sh
    · refine ⟨ft', er, ?_, p2, by rw [if_pos s]; exact hE⟩
      rw [if_pos s]
    · obtain ⟨er', f1, f2⟩ := c_stop (nI i) hE hf
      refine ⟨ft', er', ?_, p2, by rw [if_neg s]; exact f2⟩
      rw [if_neg s]
      simp only [f1, Option.bind_some]
theorem nle0 {x : Nat} (h : x ≤ 1000) : nI x ≤ 0 ↔ x = 0 := by
  constructor
  · intro e
    rcases Nat.eq_zero_or_pos x with z | z
    · exact z
    · exact absurd e (nI_nle z (by omega))
  · intro e; rw [e]; decide
theorem mid_at {α : Type} (a t : List α) (r : α) : (a ++ r :: t)[a.length]? = some r := by simp
theorem mid_er {α : Type} (a t : List α) (r : α) : (a ++ r :: t).eraseIdx a.length = a ++ t := by
  rw [List.eraseIdx_append_of_length_le (Nat.le_refl _)]; simp
theorem mid_set {α : Type} (a t : List α) (r r' : α) : (a ++ r :: t).set a.length r' = a ++ r' :: t := by
  rw [List.set_append_right _ _ (Nat.le_refl _)]; simp
