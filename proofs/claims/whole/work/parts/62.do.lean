/-! the commands are carried out, on both sides -/
theorem x99_99 : (((99 : Int32)) = 99) = True := eq_self _
theorem x99_100 : (((99 : Int32)) = 100) = False := eq_false (by decide)
theorem x99_101 : (((99 : Int32)) = 101) = False := eq_false (by decide)
theorem x99_110 : (((99 : Int32)) = 110) = False := eq_false (by decide)
theorem x99_114 : (((99 : Int32)) = 114) = False := eq_false (by decide)
theorem x99_115 : (((99 : Int32)) = 115) = False := eq_false (by decide)
theorem x99_104 : (((99 : Int32)) = 104) = False := eq_false (by decide)
theorem x100_99 : (((100 : Int32)) = 99) = False := eq_false (by decide)
theorem x100_100 : (((100 : Int32)) = 100) = True := eq_self _
theorem x100_101 : (((100 : Int32)) = 101) = False := eq_false (by decide)
theorem x100_110 : (((100 : Int32)) = 110) = False := eq_false (by decide)
theorem x100_114 : (((100 : Int32)) = 114) = False := eq_false (by decide)
theorem x100_115 : (((100 : Int32)) = 115) = False := eq_false (by decide)
theorem x100_104 : (((100 : Int32)) = 104) = False := eq_false (by decide)
theorem x101_99 : (((101 : Int32)) = 99) = False := eq_false (by decide)
theorem x101_100 : (((101 : Int32)) = 100) = False := eq_false (by decide)
theorem x101_101 : (((101 : Int32)) = 101) = True := eq_self _
theorem x101_110 : (((101 : Int32)) = 110) = False := eq_false (by decide)
theorem x101_114 : (((101 : Int32)) = 114) = False := eq_false (by decide)
theorem x101_115 : (((101 : Int32)) = 115) = False := eq_false (by decide)
theorem x101_104 : (((101 : Int32)) = 104) = False := eq_false (by decide)
theorem x110_99 : (((110 : Int32)) = 99) = False := eq_false (by decide)
theorem x110_100 : (((110 : Int32)) = 100) = False := eq_false (by decide)
theorem x110_101 : (((110 : Int32)) = 101) = False := eq_false (by decide)
theorem x110_110 : (((110 : Int32)) = 110) = True := eq_self _
theorem x110_114 : (((110 : Int32)) = 114) = False := eq_false (by decide)
theorem x110_115 : (((110 : Int32)) = 115) = False := eq_false (by decide)
theorem x110_104 : (((110 : Int32)) = 104) = False := eq_false (by decide)
theorem x114_99 : (((114 : Int32)) = 99) = False := eq_false (by decide)
theorem x114_100 : (((114 : Int32)) = 100) = False := eq_false (by decide)
theorem x114_101 : (((114 : Int32)) = 101) = False := eq_false (by decide)
theorem x114_110 : (((114 : Int32)) = 110) = False := eq_false (by decide)
theorem x114_114 : (((114 : Int32)) = 114) = True := eq_self _
theorem x114_115 : (((114 : Int32)) = 115) = False := eq_false (by decide)
theorem x114_104 : (((114 : Int32)) = 104) = False := eq_false (by decide)
theorem x115_99 : (((115 : Int32)) = 99) = False := eq_false (by decide)
theorem x115_100 : (((115 : Int32)) = 100) = False := eq_false (by decide)
theorem x115_101 : (((115 : Int32)) = 101) = False := eq_false (by decide)
theorem x115_110 : (((115 : Int32)) = 110) = False := eq_false (by decide)
theorem x115_114 : (((115 : Int32)) = 114) = False := eq_false (by decide)
theorem x115_115 : (((115 : Int32)) = 115) = True := eq_self _
theorem x115_104 : (((115 : Int32)) = 104) = False := eq_false (by decide)
theorem x104_99 : (((104 : Int32)) = 99) = False := eq_false (by decide)
theorem x104_100 : (((104 : Int32)) = 100) = False := eq_false (by decide)
theorem x104_101 : (((104 : Int32)) = 101) = False := eq_false (by decide)
theorem x104_110 : (((104 : Int32)) = 110) = False := eq_false (by decide)
theorem x104_114 : (((104 : Int32)) = 114) = False := eq_false (by decide)
theorem x104_115 : (((104 : Int32)) = 115) = False := eq_false (by decide)
theorem x104_104 : (((104 : Int32)) = 104) = True := eq_self _
theorem m1_le {r : Int32} (h : r = -1 ∨ ∃ j, j < 2 ^ 31 ∧ r = nI j) : (-1 : Int32) ≤ r := by
  rcases h with rfl | ⟨j, j1, rfl⟩
  · decide
  · rw [Int32.le_iff_toInt_le, nI_toInt j1, show (-1 : Int32).toInt = -1 from rfl]; omega
theorem come_r {fu : Nat} {sa s' : Nat → Int32} {p r : Int32} (h : fX6_comesIn fu sa p = some (r, s')) : fX6_placeOf fu s' p = some r := by
  rw [fX6_comesIn] at h
  simp only [q7, g7, if_true] at h
  have J : ∀ x, fX6_comesIn_J16 fu p x = some (r, s') → fX6_placeOf fu s' p = some r := fun x hx => by
    rw [fX6_comesIn_J16] at hx
    simp only [q7, g7, q4, g4, q5, g5, if_true] at hx
    obtain ⟨y, y1, y2⟩ := o_b hx
    obtain ⟨z, z1, z2⟩ := o_b y2
    cases z2; exact z1
  split at h
  · exact J _ h
  · obtain ⟨y, -, y2⟩ := o_b h; exact J _ y2
theorem mayK (ft st : Tab) (tu p : Int32) : fX1_mayAct ft st tu p 1 = fX1_mayAct ft st tu p 0 := by
  rw [fX1_mayAct, fX1_mayAct, if_neg (show ¬ (1 : Int32) = 3 by decide), if_neg (show ¬ (0 : Int32) = 3 by decide)]
section DO
variable {n : Nat} {es : List Row} {fl : List Nat} {sk : List Row} {ft er : Tab} {eb : Int32} {li st : Tab} {rd tu la : Int32} {dl : Bool} {sh tb : Int32} {sa : Nat → Int32} {B fu : Nat} {cm : Tab} {v dg pw x1 x2 x3 : Int32}
/-- a command is carried out on both sides, or on neither -/
def Does (fu : Nat) (ft er : Tab) (eb : Int32) (li st : Tab) (rd tu la : Int32) (dl : Bool) (sh tb : Int32) (sa : Nat → Int32) (B : Nat) (cm : Tab) (v x1 dg pw : Int32) : Prop :=
  (fX3_perform fu cm ft er eb li st rd tu la dl sh tb v = some (false, ft, er, eb, li, st, rd, tu, la, dl, tb) ∧ fX6_canDo sa x1 dg pw = some false) ∨
  ∃ ft' er' eb' li' st' rd' tu' la' dl' tb' s' r, fX3_perform fu cm ft er eb li st rd tu la dl sh tb v = some (true, ft', er', eb', li', st', rd', tu', la', dl', tb') ∧ fX6_canDo sa x1 dg pw = some true ∧ fX6_does fu sa x1 dg pw = some (r, s') ∧ (-1 : Int32) ≤ r ∧ GR ft' er' eb' li' st' rd' tu' la' dl' sh tb' s' (B + 8)
theorem do_110 (h : GI n es fl sk ft er eb li st rd tu la dl sh tb sa B) (a0 : fX4_at cm v 0 = some 110) (a1 : fX4_at cm v 1 = some x2) (a2 : fX4_at cm v 2 = some x3) (hfu : 2000 < fu) (hB : B + 8 < 2 ^ 30) : Does fu ft er eb li st rd tu la dl sh tb sa B cm v 110 dg pw := by
  obtain ⟨b1, i1, i2, i3⟩ := g_may1 h
  by_cases z : sa 4 = -1
  · rw [if_pos z] at i2
    subst i2
    obtain ⟨ht, hsk⟩ := i3 rfl
    subst hsk
    obtain ⟨r, es', fl', ft', er', li', rd', tu', la', dl', tb', s', c1, m1, hG, hr⟩ := g_begin h ht hfu (by omega)
    refine Or.inr ⟨ft', er', eb, li', st, rd', tu', la', dl', tb', s', r, ?_, ?_, ?_, m1_le ?_, ⟨_, _, _, _, hG.mono (by omega)⟩⟩
    · simp only [fX3_perform, fX3_isPossible, a0, a1, a2, x110_99, x110_100, x110_101, x110_110, x110_114, x110_115, x110_104, Option.bind_some, bIf, bIt, if_true, if_false, i1, c1]
    · simp only [fX6_canDo, x110_99, x110_100, x110_101, x110_110, x110_114, x110_115, x110_104, Option.bind_some, bIf, bIt, if_true, if_false, q4, g4, z]
    · simp only [fX6_does, x110_99, x110_100, x110_101, x110_110, x110_114, x110_115, x110_104, Option.bind_some, bIf, bIt, if_true, if_false, m1]
    · rcases hr with ⟨e, -⟩ | ⟨f, e, f1, -⟩
      · exact Or.inl e
      · exact Or.inr ⟨f, by have := h.2.2.2.1.2; omega, e⟩
  · rw [if_neg z] at i2
    subst i2
    refine Or.inl ⟨?_, ?_⟩
    · simp only [fX3_perform, fX3_isPossible, a0, a1, a2, x110_99, x110_100, x110_101, x110_110, x110_114, x110_115, x110_104, Option.bind_some, bIf, bIt, if_true, if_false, i1]
    · simp only [fX6_canDo, x110_99, x110_100, x110_101, x110_110, x110_114, x110_115, x110_104, Option.bind_some, bIf, bIt, if_true, if_false, q4, g4, z]
theorem do_101 (h : GI n es fl sk ft er eb li st rd tu la dl sh tb sa B) (a0 : fX4_at cm v 0 = some 101) (a1 : fX4_at cm v 1 = some x2) (a2 : fX4_at cm v 2 = some x3) (hfu : 2000 < fu) (hB : B + 8 < 2 ^ 30) : Does fu ft er eb li st rd tu la dl sh tb sa B cm v 101 dg pw := by
  obtain ⟨b1, i1, i2, i3⟩ := g_mayE h
  cases b1 with
  | false =>
    refine Or.inl ⟨?_, ?_⟩
    · simp only [fX3_perform, fX3_isPossible, a0, a1, a2, x101_99, x101_100, x101_101, x101_110, x101_114, x101_115, x101_104, Option.bind_some, bIf, bIt, if_true, if_false, i1]
    · simp only [fX6_canDo, x101_99, x101_100, x101_101, x101_110, x101_114, x101_115, x101_104, Option.bind_some, bIf, bIt, if_true, if_false, i2]
  | true =>
    have hsk := i3 rfl
    subst hsk
    obtain ⟨er', s', k, c1, m1, k1, hG, -⟩ := g_end h hfu
    refine Or.inr ⟨ft, er', eb, li, st, rd, -1, la, dl, tb, s', nI k, ?_, ?_, ?_, m1_le (Or.inr ⟨k, by omega, rfl⟩), ⟨_, _, _, _, hG.mono (by omega)⟩⟩
    · simp only [fX3_perform, fX3_isPossible, a0, a1, a2, x101_99, x101_100, x101_101, x101_110, x101_114, x101_115, x101_104, Option.bind_some, bIf, bIt, if_true, if_false, i1, c1]
    · simp only [fX6_canDo, x101_99, x101_100, x101_101, x101_110, x101_114, x101_115, x101_104, Option.bind_some, bIf, bIt, if_true, if_false, i2]
    · simp only [fX6_does, x101_99, x101_100, x101_101, x101_110, x101_114, x101_115, x101_104, Option.bind_some, bIf, bIt, if_true, if_false, m1]
theorem do_100 (h : GI n es fl sk ft er eb li st rd tu la dl sh tb sa B) (a0 : fX4_at cm v 0 = some 100) (a1 : fX4_at cm v 1 = some x2) (a2 : fX4_at cm v 2 = some x3) (hfu : 2000 < fu) (hB : B + 8 < 2 ^ 30) : Does fu ft er eb li st rd tu la dl sh tb sa B cm v 100 dg pw := by
  obtain ⟨b1, i1, i2, i3⟩ := g_mayD h
  cases b1 with
  | false =>
    refine Or.inl ⟨?_, ?_⟩
    · simp only [fX3_perform, fX3_isPossible, a0, a1, a2, x100_99, x100_100, x100_101, x100_110, x100_114, x100_115, x100_104, Option.bind_some, bIf, bIt, if_true, if_false, i1]
    · simp only [fX6_canDo, x100_99, x100_100, x100_101, x100_110, x100_114, x100_115, x100_104, Option.bind_some, bIf, bIt, if_true, if_false, i2]
  | true =>
    obtain ⟨hsk, f, f1, f2⟩ := i3 rfl
    subst hsk
    obtain ⟨li', s', c1, m1, hG⟩ := g_delay h f1 f2 hfu
    refine Or.inr ⟨ft, er, eb, li', st, rd, -1, la, dl, tb, s', tu, ?_, ?_, ?_, m1_le (Or.inr ⟨f, by have := h.2.2.2.1.2; have := h.2.2.2.2.2.1.2.1.2 f f1; omega, f2⟩), ⟨_, _, _, _, hG.mono (by omega)⟩⟩
    · simp only [fX3_perform, fX3_isPossible, a0, a1, a2, x100_99, x100_100, x100_101, x100_110, x100_114, x100_115, x100_104, Option.bind_some, bIf, bIt, if_true, if_false, i1, c1]
    · simp only [fX6_canDo, x100_99, x100_100, x100_101, x100_110, x100_114, x100_115, x100_104, Option.bind_some, bIf, bIt, if_true, if_false, i2]
    · simp only [fX6_does, x100_99, x100_100, x100_101, x100_110, x100_114, x100_115, x100_104, Option.bind_some, bIf, bIt, if_true, if_false, m1]
theorem do_114 (h : GI n es fl sk ft er eb li st rd tu la dl sh tb sa B) (a0 : fX4_at cm v 0 = some 114) (a1 : fX4_at cm v 1 = some x2) (a2 : fX4_at cm v 2 = some x3) (hfu : 2000 < fu) (hB : B + 8 < 2 ^ 30) : Does fu ft er eb li st rd tu la dl sh tb sa B cm v 114 dg pw := by
  obtain ⟨b1, i1, i2, -⟩ := g_mayS h
  by_cases z : sa 8 ≤ 0
  · rw [if_pos z] at i2
    subst i2
    refine Or.inl ⟨?_, ?_⟩
    · simp only [fX3_perform, fX3_isPossible, a0, a1, a2, x114_99, x114_100, x114_101, x114_110, x114_114, x114_115, x114_104, Option.bind_some, bIf, bIt, if_true, if_false, i1]
    · simp only [fX6_canDo, x114_99, x114_100, x114_101, x114_110, x114_114, x114_115, x114_104, Option.bind_some, bIf, bIt, if_true, if_false, q8, g8, z]
  · rw [if_neg z] at i2
    subst i2
    obtain ⟨k, es', ft', er', eb', st', tu', s', c1, m1, k1, hG⟩ := g_settle h hfu hB
    refine Or.inr ⟨ft', er', eb', li, st', rd, tu', la, dl, tb, s', nI k, ?_, ?_, ?_, m1_le (Or.inr ⟨k, by omega, rfl⟩), ⟨_, _, _, _, hG⟩⟩
    · simp only [fX3_perform, fX3_isPossible, a0, a1, a2, x114_99, x114_100, x114_101, x114_110, x114_114, x114_115, x114_104, Option.bind_some, bIf, bIt, if_true, if_false, i1, c1]
    · simp only [fX6_canDo, x114_99, x114_100, x114_101, x114_110, x114_114, x114_115, x114_104, Option.bind_some, bIf, bIt, if_true, if_false, q8, g8, z]
    · simp only [fX6_does, x114_99, x114_100, x114_101, x114_110, x114_114, x114_115, x114_104, Option.bind_some, bIf, bIt, if_true, if_false, m1]
theorem do_99 (h : GI n es fl sk ft er eb li st rd tu la dl sh tb sa B) (a0 : fX4_at cm v 0 = some 99) (a1 : fX4_at cm v 1 = some dg) (a2 : fX4_at cm v 2 = some x3) (hfu : 2000 < fu) (hB : B + 8 < 2 ^ 30) : Does fu ft er eb li st rd tu la dl sh tb sa B cm v 99 dg pw := by
  obtain ⟨b1, i1, i2, i3⟩ := g_isF h dg
  cases b1 with
  | false =>
    refine Or.inl ⟨?_, ?_⟩
    · simp only [fX3_perform, fX3_isPossible, a0, a1, a2, x99_99, x99_100, x99_101, x99_110, x99_114, x99_115, x99_104, Option.bind_some, bIf, bIt, if_true, if_false, i1]
    · simp only [fX6_canDo, x99_99, x99_100, x99_101, x99_110, x99_114, x99_115, x99_104, Option.bind_some, bIf, bIt, if_true, if_false, i2]
  | true =>
    obtain ⟨a, ha, rfl⟩ := i3 rfl
    obtain ⟨b2, j1, j2, j3⟩ := g_mayC h ha hfu
    cases b2 with
    | false =>
      refine Or.inl ⟨?_, ?_⟩
      · simp only [fX3_perform, fX3_isPossible, a0, a1, a2, x99_99, x99_100, x99_101, x99_110, x99_114, x99_115, x99_104, Option.bind_some, bIf, bIt, if_true, if_false, i1, j1]
      · simp only [fX6_canDo, x99_99, x99_100, x99_101, x99_110, x99_114, x99_115, x99_104, Option.bind_some, bIf, bIt, if_true, if_false, i2, j2]
    | true =>
      obtain ⟨ht, hsk, h4⟩ := j3 rfl
      subst hsk
      obtain ⟨r, li', fl', s', c1, m1, hG⟩ := g_comeIn h ha h4 hfu
      have hr := come_r m1
      rw [m_plX (nI a) hG.2.2.2.2.2.1.1 (show 30 < fu by omega)] at hr
      have hr := (Option.some.inj hr).symm
      have hfl10 := hG.2.2.2.2.2.1.1.2.1
      refine Or.inr ⟨ft, er, eb, li', st, rd, nI a, nI a, false, tb, s', r, ?_, ?_, ?_, m1_le ?_, ⟨_, _, _, _, hG.mono (by omega)⟩⟩
      · simp only [fX3_perform, fX3_isPossible, a0, a1, a2, x99_99, x99_100, x99_101, x99_110, x99_114, x99_115, x99_104, Option.bind_some, bIf, bIt, if_true, if_false, i1, j1, c1]
      · simp only [fX6_canDo, x99_99, x99_100, x99_101, x99_110, x99_114, x99_115, x99_104, Option.bind_some, bIf, bIt, if_true, if_false, i2, j2]
      · simp only [fX6_does, x99_99, x99_100, x99_101, x99_110, x99_114, x99_115, x99_104, Option.bind_some, bIf, bIt, if_true, if_false, m1]
      · rcases plX_cases (x := nI a) fl' 0 with q | ⟨j, q1, q2⟩
        · exact Or.inl (hr.trans q)
        · exact Or.inr ⟨0 + j, by omega, hr.trans q2⟩
theorem do_115 (h : GI n es fl sk ft er eb li st rd tu la dl sh tb sa B) (a0 : fX4_at cm v 0 = some 115) (a1 : fX4_at cm v 1 = some dg) (a2 : fX4_at cm v 2 = some pw) (hfu : 2000 < fu) (hB : B + 8 < 2 ^ 30) : Does fu ft er eb li st rd tu la dl sh tb sa B cm v 115 dg pw := by
  have e4 := h.2.1.2.2.1
  have hn := h.2.2.2.1.2
  obtain ⟨b1, i1, i2, i3⟩ := g_isF h dg
  rcases h.2.2.2.2.2.2.2.2.2.2.1 with ⟨z, hsk⟩ | ⟨f, f1, f2⟩
  · -- no turn goes on
    have ht : tu = -1 := e4.trans z
    subst hsk
    have hc := t_count h.1.2.2.2
    have hmay : ∀ k, fX1_mayAct ft st tu tu k = some false := fun k => by
      rw [fX1_mayAct, hc, Option.bind_some, if_pos (show nI ([] : List Row).length ≤ 0 by decide), if_pos ht]
    refine Or.inl ⟨?_, ?_⟩
    · simp only [fX3_perform, fX3_isPossible, a0, a1, a2, x115_99, x115_100, x115_101, x115_110, x115_114, x115_115, x115_104, Option.bind_some, bIf, bIt, if_true, if_false, i1, c_within, fX1_presentTurn, fX3_kindOf, hmay]
      cases b1 <;> cases inB pw 1 60 <;> simp only [Option.bind_some, bIf, bIt, if_true, if_false]
    · simp only [fX6_canDo, x115_99, x115_100, x115_101, x115_110, x115_114, x115_115, x115_104, Option.bind_some, bIf, bIt, if_true, if_false, q4, g4, z]
  · have ht : tu = nI f := e4.trans f2
    have hfn := h.2.2.2.2.2.1.2.1.2 f f1
    have hne : (nI f = -1) = False := eq_false (nI_m1 (by omega))
    cases b1 with
    | false =>
      refine Or.inl ⟨?_, ?_⟩
      · simp only [fX3_perform, fX3_isPossible, a0, a1, a2, x115_99, x115_100, x115_101, x115_110, x115_114, x115_115, x115_104, Option.bind_some, bIf, bIt, if_true, if_false, i1]
      · simp only [fX6_canDo, x115_99, x115_100, x115_101, x115_110, x115_114, x115_115, x115_104, Option.bind_some, bIf, bIt, if_true, if_false, q4, g4, f2, hne, i2]
    | true =>
      obtain ⟨a, ha, rfl⟩ := i3 rfl
      cases hp : inB pw 1 60 with
      | false =>
        refine Or.inl ⟨?_, ?_⟩
        · simp only [fX3_perform, fX3_isPossible, a0, a1, a2, x115_99, x115_100, x115_101, x115_110, x115_114, x115_115, x115_104, Option.bind_some, bIf, bIt, if_true, if_false, i1, c_within, hp]
        · simp only [fX6_canDo, x115_99, x115_100, x115_101, x115_110, x115_114, x115_115, x115_104, Option.bind_some, bIf, bIt, if_true, if_false, q4, g4, f2, hne, i2, m_in, hp]
      | true =>
        obtain ⟨w, w1, w2, rfl⟩ := inB_r (a := 1) (b := 60) hp (by decide) (by decide)
        obtain ⟨b2, j1, j2, j3⟩ := g_mayA h hfn 0
        rw [← ht] at j1
        cases b2 with
        | false =>
          refine Or.inl ⟨?_, ?_⟩
          · simp only [fX3_perform, fX3_isPossible, a0, a1, a2, x115_99, x115_100, x115_101, x115_110, x115_114, x115_115, x115_104, Option.bind_some, bIf, bIt, if_true, if_false, i1, c_within, hp, fX1_presentTurn, fX3_kindOf, j1]
          · simp only [fX6_canDo, x115_99, x115_100, x115_101, x115_110, x115_114, x115_115, x115_104, Option.bind_some, bIf, bIt, if_true, if_false, q4, g4, f2, hne, i2, m_in, hp, j2]
        | true =>
          obtain ⟨y1, y2⟩ := j3 rfl
          obtain ⟨ft', st', s', c1, m1, hG⟩ := g_push (fu := fu) 0 (nI a) (nI w) 0 0 0 h y1 hfn (bk_act (x := 0) hfn ha (by decide) (by decide) w1 w2) y2 hfu
          have hl8 := h.2.2.2.2.2.2.2.1.1.2.1
          have kb : bI false = 0 := by decide
          refine Or.inr ⟨ft', er, eb, li, st', rd, tu, la, false, tb, s', nI (sk.length + 1), ?_, ?_, ?_, m1_le (Or.inr ⟨_, by omega, rfl⟩), ⟨_, _, _, _, hG.mono (by omega)⟩⟩
          · rw [← ht] at c1
            simp only [fX3_perform, fX3_isPossible, a0, a1, a2, x115_99, x115_100, x115_101, x115_110, x115_114, x115_115, x115_104, Option.bind_some, bIf, bIt, if_true, if_false, i1, c_within, hp, fX1_presentTurn, fX3_kindOf, j1, c1]
          · simp only [fX6_canDo, x115_99, x115_100, x115_101, x115_110, x115_114, x115_115, x115_104, Option.bind_some, bIf, bIt, if_true, if_false, q4, g4, f2, hne, i2, m_in, hp, j2]
          · simp only [fX6_does, fX6_does_J100, x115_99, x115_100, x115_101, x115_110, x115_114, x115_115, x115_104, Option.bind_some, bIf, bIt, if_true, if_false, q4, g4, f2, kb, m1]
theorem do_104 (h : GI n es fl sk ft er eb li st rd tu la dl sh tb sa B) (a0 : fX4_at cm v 0 = some 104) (a1 : fX4_at cm v 1 = some dg) (a2 : fX4_at cm v 2 = some pw) (hfu : 2000 < fu) (hB : B + 8 < 2 ^ 30) : Does fu ft er eb li st rd tu la dl sh tb sa B cm v 104 dg pw := by
  have e4 := h.2.1.2.2.1
  have hn := h.2.2.2.1.2
  obtain ⟨b1, i1, i2, i3⟩ := g_isF h dg
  rcases h.2.2.2.2.2.2.2.2.2.2.1 with ⟨z, hsk⟩ | ⟨f, f1, f2⟩
  · -- no turn goes on
    have ht : tu = -1 := e4.trans z
    subst hsk
    have hc := t_count h.1.2.2.2
    have hmay : ∀ k, fX1_mayAct ft st tu tu k = some false := fun k => by
      rw [fX1_mayAct, hc, Option.bind_some, if_pos (show nI ([] : List Row).length ≤ 0 by decide), if_pos ht]
    refine Or.inl ⟨?_, ?_⟩
    · simp only [fX3_perform, fX3_isPossible, a0, a1, a2, x104_99, x104_100, x104_101, x104_110, x104_114, x104_115, x104_104, Option.bind_some, bIf, bIt, if_true, if_false, i1, c_within, fX1_presentTurn, fX3_kindOf, hmay]
      cases b1 <;> cases inB pw 1 60 <;> simp only [Option.bind_some, bIf, bIt, if_true, if_false]
    · simp only [fX6_canDo, x104_99, x104_100, x104_101, x104_110, x104_114, x104_115, x104_104, Option.bind_some, bIf, bIt, if_true, if_false, q4, g4, z]
  · have ht : tu = nI f := e4.trans f2
    have hfn := h.2.2.2.2.2.1.2.1.2 f f1
    have hne : (nI f = -1) = False := eq_false (nI_m1 (by omega))
    cases b1 with
    | false =>
      refine Or.inl ⟨?_, ?_⟩
      · simp only [fX3_perform, fX3_isPossible, a0, a1, a2, x104_99, x104_100, x104_101, x104_110, x104_114, x104_115, x104_104, Option.bind_some, bIf, bIt, if_true, if_false, i1]
      · simp only [fX6_canDo, x104_99, x104_100, x104_101, x104_110, x104_114, x104_115, x104_104, Option.bind_some, bIf, bIt, if_true, if_false, q4, g4, f2, hne, i2]
    | true =>
      obtain ⟨a, ha, rfl⟩ := i3 rfl
      cases hp : inB pw 1 60 with
      | false =>
        refine Or.inl ⟨?_, ?_⟩
        · simp only [fX3_perform, fX3_isPossible, a0, a1, a2, x104_99, x104_100, x104_101, x104_110, x104_114, x104_115, x104_104, Option.bind_some, bIf, bIt, if_true, if_false, i1, c_within, hp]
        · simp only [fX6_canDo, x104_99, x104_100, x104_101, x104_110, x104_114, x104_115, x104_104, Option.bind_some, bIf, bIt, if_true, if_false, q4, g4, f2, hne, i2, m_in, hp]
      | true =>
        obtain ⟨w, w1, w2, rfl⟩ := inB_r (a := 1) (b := 60) hp (by decide) (by decide)
        obtain ⟨b2, j1, j2, j3⟩ := g_mayA h hfn 0
        rw [← ht] at j1
        cases b2 with
        | false =>
          refine Or.inl ⟨?_, ?_⟩
          · simp only [fX3_perform, fX3_isPossible, a0, a1, a2, x104_99, x104_100, x104_101, x104_110, x104_114, x104_115, x104_104, Option.bind_some, bIf, bIt, if_true, if_false, i1, c_within, hp, fX1_presentTurn, fX3_kindOf, mayK, j1]
          · simp only [fX6_canDo, x104_99, x104_100, x104_101, x104_110, x104_114, x104_115, x104_104, Option.bind_some, bIf, bIt, if_true, if_false, q4, g4, f2, hne, i2, m_in, hp, j2]
        | true =>
          obtain ⟨y1, y2⟩ := j3 rfl
          obtain ⟨ft', st', s', c1, m1, hG⟩ := g_push (fu := fu) 1 (nI a) (nI w) 0 0 0 h y1 hfn (bk_act (x := 1) hfn ha (by decide) (by decide) w1 w2) y2 hfu
          have hl8 := h.2.2.2.2.2.2.2.1.1.2.1
          have kb : bI true = 1 := by decide
          refine Or.inr ⟨ft', er, eb, li, st', rd, tu, la, false, tb, s', nI (sk.length + 1), ?_, ?_, ?_, m1_le (Or.inr ⟨_, by omega, rfl⟩), ⟨_, _, _, _, hG.mono (by omega)⟩⟩
          · rw [← ht] at c1
            simp only [fX3_perform, fX3_isPossible, a0, a1, a2, x104_99, x104_100, x104_101, x104_110, x104_114, x104_115, x104_104, Option.bind_some, bIf, bIt, if_true, if_false, i1, c_within, hp, fX1_presentTurn, fX3_kindOf, mayK, j1, c1]
          · simp only [fX6_canDo, x104_99, x104_100, x104_101, x104_110, x104_114, x104_115, x104_104, Option.bind_some, bIf, bIt, if_true, if_false, q4, g4, f2, hne, i2, m_in, hp, j2]
          · simp only [fX6_does, fX6_does_J100, x104_99, x104_100, x104_101, x104_110, x104_114, x104_115, x104_104, Option.bind_some, bIf, bIt, if_true, if_false, q4, g4, f2, kb, m1]
theorem do_all {row : Row} (hrow : RF row dg pw) (h : GI n es fl sk ft er eb li st rd tu la dl sh tb sa B) (a0 : fX4_at cm v 0 = some (gD row 0)) (a1 : fX4_at cm v 1 = some (gD row 1)) (a2 : fX4_at cm v 2 = some (gD row 2)) (hfu : 2000 < fu) (hB : B + 8 < 2 ^ 30) : Does fu ft er eb li st rd tu la dl sh tb sa B cm v (gD row 0) dg pw := by
  rcases hrow with hp | ⟨e, e1, -⟩ | ⟨ha, e1, e2, -⟩
  · rcases hp with e | e | e | e
    · rw [e] at a0 ⊢; exact do_110 h a0 a1 a2 hfu hB
    · rw [e] at a0 ⊢; exact do_101 h a0 a1 a2 hfu hB
    · rw [e] at a0 ⊢; exact do_100 h a0 a1 a2 hfu hB
    · rw [e] at a0 ⊢; exact do_114 h a0 a1 a2 hfu hB
  · rw [e] at a0 ⊢; rw [e1] at a1; exact do_99 h a0 a1 a2 hfu hB
  · rw [e1] at a1; rw [e2] at a2
    rcases ha with e | e
    · rw [e] at a0 ⊢; exact do_115 h a0 a1 a2 hfu hB
    · rw [e] at a0 ⊢; exact do_104 h a0 a1 a2 hfu hB
end DO
