/-! what if -/
section W
variable {n : Nat} {fu : Nat} {oft oer : Tab} {oeb : Int32} {oli ost : Tab} {ord otu ola : Int32} {odl : Bool} {osh otb : Int32}
/-- nobody stands: the class goes on alone -/
theorem up_C (hfu : 2000 < fu) {i : Nat} (hi : i ≤ 1000) : ∀ (d j k : Nat) (es : List Row) (fl : List Nat) (ft er : Tab) (eb : Int32) (li st : Tab) (rd la : Int32) (dl : Bool) (sh tb : Int32) (s : Nat → Int32) (B : Nat), j + d = i + 1 → d < k → GI n es fl [] ft er eb li st rd (-1) la dl sh tb s B → NS n s → B + d < 2 ^ 30 →
    ∃ ft' er' li' rd' la' dl' tb' , fX5_upcoming_L29 fu oft oer oeb oli ost ord otu ola odl osh otb (nI i) k ft er eb li st rd (-1) la dl sh tb (-1) (nI j) = some (.inr (-1, ft', er', eb, li', st, rd', -1, la', dl', sh, tb')) ∧ GZ ft' er' li' st
  | 0, j, k + 1, es, fl, ft, er, eb, li, st, rd, la, dl, sh, tb, s, B, hj, hk, h, hns, hB => by
    rw [fX5_upcoming_L29, if_pos (nI_lt (by omega) (by omega))]
    exact ⟨ft, er, li, rd, la, dl, tb, rfl, h.z⟩
  | d + 1, j, k + 1, es, fl, ft, er, eb, li, st, rd, la, dl, sh, tb, s, B, hj, hk, h, hns, hB => by
    obtain ⟨r, es', fl', ft', er', li', rd', la', dl', tb', s', a1, a2, hG, hr⟩ := g_pass h rfl hfu (by omega)
    rcases hr with ⟨rfl, h2, -⟩ | ⟨f, -, -, h2⟩
    · obtain ⟨x1, x2, x3, x4, x5, x6, x7, y1, y2⟩ := up_C hfu hi d (j + 1) k es' fl' ft' er' eb li' st rd' la' dl' sh tb' s' (B + 1) (by omega) (by omega) hG h2 (by omega)
      refine ⟨x1, x2, x3, x4, x5, x6, x7, ?_, y2⟩
      rw [fX5_upcoming_L29, if_neg (nI_nlt (by omega) (by omega)), a1]
      simp only [Option.bind_some, nS]
      exact y1
    · exact absurd hns h2
theorem up_L (hfu : 2000 < fu) {i : Nat} (hi : i ≤ 1000) {asd : Nat → Int32} {th : Int32} : ∀ (d j k k' : Nat) (es : List Row) (fl : List Nat) (ft er : Tab) (eb : Int32) (li st : Tab) (rd la : Int32) (dl : Bool) (sh tb : Int32) (s : Nat → Int32) (B : Nat) (r : Int32), j + d = i → d + 1 < k → d < k' → GI n es fl [] ft er eb li st rd (-1) la dl sh tb s B → (r = -1 → NS n s) → B + d < 2 ^ 30 →
    ∃ r' ft' er' li' rd' la' dl' tb' s', fX5_upcoming_L29 fu oft oer oeb oli ost ord otu ola odl osh otb (nI i) k ft er eb li st rd (-1) la dl sh tb r (nI (j + 1)) = some (.inr (r', ft', er', eb, li', st, rd', -1, la', dl', sh, tb')) ∧ fX6_upcoming_L36 fu (nI i) k' th s asd r (nI j) = some (r', th, s', asd) ∧ GZ ft' er' li' st ∧ ∀ q, q < 378 → s' q = asd q
  | 0, j, k + 1, k' + 1, es, fl, ft, er, eb, li, st, rd, la, dl, sh, tb, s, B, r, hj, hk, hk', h, hr, hB => by
    obtain ⟨s', m1, m2⟩ := m_rel (fu := fu) s asd hfu
    rw [fX5_upcoming_L29, if_pos (nI_lt (by omega) (by omega)), fX6_upcoming_L36, if_pos (nI_le (by omega) (by omega)), m1]
    exact ⟨r, ft, er, li, rd, la, dl, tb, s', rfl, rfl, h.z, m2⟩
  | d + 1, j, k + 1, k' + 1, es, fl, ft, er, eb, li, st, rd, la, dl, sh, tb, s, B, r, hj, hk, hk', h, hr, hB => by
    by_cases z : r = -1
    · obtain ⟨s', m1, m2⟩ := m_rel (fu := fu) s asd hfu
      obtain ⟨x1, x2, x3, x4, x5, x6, x7, y1, y2⟩ := up_C (oft := oft) (oer := oer) (oeb := oeb) (oli := oli) (ost := ost) (ord := ord) (otu := otu) (ola := ola) (odl := odl) (osh := osh) (otb := otb) hfu hi (d + 1) (j + 1) (k + 1) es fl ft er eb li st rd la dl sh tb s B (by omega) (by omega) h (hr z) (by omega)
      refine ⟨-1, x1, x2, x3, x4, x5, x6, x7, s', by rw [z]; exact y1, ?_, y2, m2⟩
      rw [fX6_upcoming_L36, if_neg (nI_ge (by omega) (by omega)), if_pos z, m1, z]
      rfl
    · obtain ⟨r2, es', fl', ft', er', li', rd', la', dl', tb', s', a1, a2, hG, hr2⟩ := g_pass h rfl hfu (by omega)
      obtain ⟨x0, x1, x2, x3, x4, x5, x6, x7, x8, y1, y2, y3, y4⟩ := up_L hfu hi d (j + 1) k k' es' fl' ft' er' eb li' st rd' la' dl' sh tb' s' (B + 1) r2 (by omega) (by omega) (by omega) hG (fun q => by
        rcases hr2 with ⟨-, w, -⟩ | ⟨f, w, w2, -⟩
        · exact w
        · exact absurd (w.symm.trans q) (nI_m1 (by have := h.2.2.2.1.2; omega))) (by omega)
      refine ⟨x0, x1, x2, x3, x4, x5, x6, x7, x8, ?_, ?_, y3, y4⟩
      · rw [fX5_upcoming_L29, if_neg (nI_nlt (by omega) (by omega)), a1]
        simp only [Option.bind_some, nS]
        exact y1
      · rw [fX6_upcoming_L36, if_neg (nI_ge (by omega) (by omega)), if_neg z, a2]
        simp only [Option.bind_some, nS]
        exact y2
theorem gone_C (hfu : 2000 < fu) {b : Int32} : ∀ (d j k : Nat) (es : List Row) (fl : List Nat) (ft er : Tab) (eb : Int32) (li st : Tab) (rd la : Int32) (dl : Bool) (sh tb : Int32) (s : Nat → Int32) (B : Nat), j + d = 61 → d < k → GI n es fl [] ft er eb li st rd (-1) la dl sh tb s B → NS n s → thrF b es = true → B + d < 2 ^ 30 →
    ∃ ft' er' li' rd' la' dl' tb' , fX5_goneAfter_L34 fu oft oer oeb oli ost ord otu ola odl osh otb k ft er eb li st rd (-1) la dl sh tb b (nI j) = some (.inr (-1, ft', er', eb, li', st, rd', -1, la', dl', sh, tb')) ∧ GZ ft' er' li' st
  | 0, j, k + 1, es, fl, ft, er, eb, li, st, rd, la, dl, sh, tb, s, B, hj, hk, h, hns, ht, hB => by
    rw [fX5_goneAfter_L34, if_pos (show (60 : Int32) < nI j from nI_lt (a := 60) (by omega) (by omega))]
    exact ⟨ft, er, li, rd, la, dl, tb, rfl, h.z⟩
  | d + 1, j, k + 1, es, fl, ft, er, eb, li, st, rd, la, dl, sh, tb, s, B, hj, hk, h, hns, ht, hB => by
    obtain ⟨r, es', fl', ft', er', li', rd', la', dl', tb', s', a1, a2, hG, hr⟩ := g_pass h rfl hfu (by omega)
    rcases hr with ⟨rfl, h2, h3⟩ | ⟨f, -, -, h2⟩
    · subst h3
      obtain ⟨x1, x2, x3, x4, x5, x6, x7, y1, y2⟩ := gone_C hfu (b := b) d (j + 1) k es' fl' ft' er' eb li' st rd' la' dl' sh tb' s' (B + 1) (by omega) (by omega) hG h2 ht (by omega)
      refine ⟨x1, x2, x3, x4, x5, x6, x7, ?_, y2⟩
      rw [fX5_goneAfter_L34, if_neg (show ¬ (60 : Int32) < nI j from nI_nlt (a := 60) (by omega) (by omega)), fX1_hasEffectBorn, c_thr b h.1.2.1 (by omega)]
      simp only [Option.bind_some, ht, bIt, if_false, a1, nS]
      exact y1
    · exact absurd hns h2
theorem gone_L (hfu : 2000 < fu) {b : Int32} {asd : Nat → Int32} {th : Int32} : ∀ (d j k k' : Nat) (es : List Row) (fl : List Nat) (ft er : Tab) (eb : Int32) (li st : Tab) (rd la : Int32) (dl : Bool) (sh tb : Int32) (s : Nat → Int32) (B : Nat), j + d = 60 → d + 2 < k → d + 2 < k' → GI n es fl [] ft er eb li st rd (-1) la dl sh tb s B → B + d + 2 < 2 ^ 30 →
    ∃ r' ft' er' li' rd' la' dl' tb' s', fX5_goneAfter_L34 fu oft oer oeb oli ost ord otu ola odl osh otb k ft er eb li st rd (-1) la dl sh tb b (nI j) = some (.inr (r', ft', er', eb, li', st, rd', -1, la', dl', sh, tb')) ∧ fX6_goneAfter_L48 fu k' th s asd b (nI j) true = some (r', th, s', asd) ∧ GZ ft' er' li' st ∧ ∀ q, q < 378 → s' q = asd q := by
  intro d
  induction d with
  | zero =>
    intro j k k' es fl ft er eb li st rd la dl sh tb s B hj hk hk' h hB
    obtain ⟨k, rfl⟩ : ∃ x, k = x + 1 := ⟨k - 1, by omega⟩
    obtain ⟨k', rfl⟩ : ∃ x, k' = x + 1 := ⟨k' - 1, by omega⟩
    obtain ⟨s', m1, m2⟩ := m_rel (fu := fu) s asd hfu
    have e60 : j = 60 := by omega
    subst e60
    have ct := c_thr (fu := fu) b h.1.2.1 (by omega)
    have mt := m_thr (fu := fu) b h.2.2.2.2.1.1 hfu
    rw [fX5_goneAfter_L34, if_neg (by decide), fX1_hasEffectBorn, ct, fX6_goneAfter_L48, mt]
    simp only [Option.bind_some, bIt, if_false]
    rw [if_pos (show (60 : Int32) ≤ nI 60 by decide), fX6_goneAfter_J98, mt, m1]
    simp only [Option.bind_some]
    cases ht : thrF b es with
    | false =>
      simp only [bIf, if_true]
      exact ⟨_, ft, er, li, rd, la, dl, tb, s', rfl, rfl, h.z, m2⟩
    | true =>
      simp only [bIt, if_false]
      obtain ⟨r, es', fl', ft', er', li', rd', la', dl', tb', s2, a1, a2, hG, -⟩ := g_pass h rfl hfu (by omega)
      obtain ⟨k, rfl⟩ : ∃ x, k = x + 1 := ⟨k - 1, by omega⟩
      rw [a1]
      simp only [Option.bind_some]
      rw [fX5_goneAfter_L34, if_pos (by decide)]
      exact ⟨_, ft', er', li', rd', la', dl', tb', s', rfl, rfl, hG.z, m2⟩
  | succ d ih =>
    intro j k k' es fl ft er eb li st rd la dl sh tb s B hj hk hk' h hB
    obtain ⟨k, rfl⟩ : ∃ x, k = x + 1 := ⟨k - 1, by omega⟩
    obtain ⟨k', rfl⟩ : ∃ x, k' = x + 1 := ⟨k' - 1, by omega⟩
    have ct := c_thr (fu := fu) b h.1.2.1 (by omega)
    have mt := m_thr (fu := fu) b h.2.2.2.2.1.1 hfu
    rw [fX5_goneAfter_L34, if_neg (show ¬ (60 : Int32) < nI j from nI_nlt (a := 60) (by omega) (by omega)), fX1_hasEffectBorn, ct, fX6_goneAfter_L48, mt]
    simp only [Option.bind_some, bIt, if_false]
    cases ht : thrF b es with
    | false =>
      obtain ⟨s', m1, m2⟩ := m_rel (fu := fu) s asd hfu
      simp only [bIf, if_true]
      rw [fX6_goneAfter_J98, mt, m1]
      simp only [Option.bind_some, ht, bIf, if_true]
      exact ⟨_, ft, er, li, rd, la, dl, tb, s', rfl, rfl, h.z, m2⟩
    | true =>
      simp only [bIt, if_false]
      rw [if_neg (show ¬ (60 : Int32) ≤ nI j from nI_ge (b := 60) (by omega) (by omega))]
      obtain ⟨r, es', fl', ft', er', li', rd', la', dl', tb', s2, a1, a2, hG, hr⟩ := g_pass h rfl hfu (by omega)
      rw [a1, a2]
      simp only [Option.bind_some, nS]
      rcases hr with ⟨rfl, h2, h3⟩ | ⟨f, h2, h3, h4⟩
      · subst h3
        obtain ⟨x1, x2, x3, x4, x5, x6, x7, y1, y2⟩ := gone_C (oft := oft) (oer := oer) (oeb := oeb) (oli := oli) (ost := ost) (ord := ord) (otu := otu) (ola := ola) (odl := odl) (osh := osh) (otb := otb) hfu (b := b) (d + 1) (j + 1) k es' fl' ft' er' eb li' st rd' la' dl' sh tb' s2 (B + 1) (by omega) (by omega) hG h2 ht (by omega)
        obtain ⟨s', m1, m2⟩ := m_rel (fu := fu) s2 asd hfu
        obtain ⟨k', rfl⟩ : ∃ x, k' = x + 1 := ⟨k' - 1, by omega⟩
        refine ⟨-1, x1, x2, x3, x4, x5, x6, x7, s', y1, ?_, y2, m2⟩
        rw [if_pos rfl, fX6_goneAfter_L48, if_pos bI_ff, fX6_goneAfter_J98, m_thr (fu := fu) b hG.2.2.2.2.1.1 hfu, m1]
        simp only [Option.bind_some, ht, bIt, if_false]
      · rw [if_neg (show ¬ r = -1 by rw [h2]; exact nI_m1 (by have := h.2.2.2.1.2; omega))]
        exact ih (j + 1) k k' es' fl' ft' er' eb li' st rd' la' dl' sh tb' s2 (B + 1) (by omega) (by omega) (by omega) hG (by omega)
end W
