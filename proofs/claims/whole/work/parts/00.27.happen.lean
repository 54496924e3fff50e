/-! acts happen -/
theorem psum_b {f q : Int32} : ∀ {es : List Row} {s0 : Nat}, pwOk es → ∃ s, s ≤ s0 + 20 * es.length ∧ psumF f q es (nI s0) = nI s
  | [], s0, _ => ⟨s0, by simp, rfl⟩
  | r :: t, s0, h => by
    have ht : pwOk t := fun x hx => h x (List.mem_cons_of_mem _ hx)
    obtain ⟨p, p1, p2⟩ := h r List.mem_cons_self
    rw [psumF]
    by_cases e : gD r 3 = f ∧ gD r 0 = q
    · rw [if_pos e, p2, nI_add]
      obtain ⟨s, a, b⟩ := psum_b (f := f) (q := q) (s0 := s0 + p) ht
      exact ⟨s, by simp; omega, b⟩
    · rw [if_neg e]
      obtain ⟨s, a, b⟩ := psum_b (f := f) (q := q) (s0 := s0) ht
      exact ⟨s, by simp; omega, b⟩
theorem g_harm {n : Nat} {es : List Row} {fl : List Nat} {sk : List Row} {ft er : Tab} {eb : Int32} {li st : Tab} {rd tu la : Int32} {dl : Bool} {sh tb : Int32} {sa : Nat → Int32} {B fu i w : Nat} (h : GI n es fl sk ft er eb li st rd tu la dl sh tb sa B) (hi : i < n) (hst : stF sa i = true) (hw : w ≤ 60) (hfu : 2000 < fu) :
    ∃ es' ft' er' sa' x, fX0_powerOn fu er (nI i) 3 = some x ∧ fX1_harm fu ft er sh (nI i) (if (0 : Int32) < (nI w - x) then (nI w - x) else (0 : Int32)) = some (ft', er') ∧ fX6_harm fu sa (nI i) (nI w) false = some sa' ∧ GI n es' fl sk ft' er' eb li st rd tu la dl sh tb sa' B ∧ ∀ q, 322 ≤ q → sa' q = sa q := by
  have h0 := h
  obtain ⟨⟨hF, hE, hL, hSt⟩, ⟨e11, e3, e4, e7, e2, e9⟩, hV, hN, hKE, hKL, hKD, hKS, hKR, hKF, hKT⟩ := h
  have hn := hN.2
  obtain ⟨lf, fi, a1, a2, a3, a4, a5⟩ := hKF i hi
  rw [stF_nI a4 (by omega)] at hst
  have hpos := of_decide_eq_true hst
  have hes := hKE.1.2.1
  obtain ⟨s, s1, s2⟩ := psum_b (f := nI i) (q := 3) (s0 := 0) hKE.2.1.2.1
  have s2 : psumF (nI i) 3 es 0 = nI s := s2
  have cp := c_psum (fu := fu) (nI i) 3 hE (by omega)
  have mp := m_psum (fu := fu) (nI i) 3 hKE.1 (by omega)
  rw [s2] at cp mp
  obtain ⟨ft1, er1, c1, c2, c3⟩ := c_harm (fu := fu) (sh := sa 2) (w := w - s) hF hE hi a4 (by omega) (by omega) (by omega)
  obtain ⟨sa1, m1, m2, m3, m4⟩ := m_harmJ (fu := fu) (w := w - s) hKE.1 hi hn a4 hpos (by omega) (by omega) (by omega)
  refine ⟨_, ft1, er1, sa1, nI s, cp, ?_, ?_, h0.hurt hi (hurt_FC m4 c2) c3 m2 m3 (hurtE_sub _ _ _ _ _) (hurt_poi m4) ⟨lf - (w - s), fi, by omega, a2, a3, hurt_life (by omega) m4, a5⟩, fun q hq => hurt_poi m4 q (by omega) (by omega) (Or.inr hq) (by omega)⟩
  · rw [e2]
    by_cases z : s < w
    · rw [nI_sub (by omega), if_pos (show (0 : Int32) < nI (w - s) from nI_lt (a := 0) (by omega) (by omega))]
      exact c1
    · rw [show w - s = 0 by omega] at c1
      have hneg : ¬ (0 : Int32) < nI w - nI s := by
        intro q
        rw [Int32.lt_iff_toInt_lt, pk_sub_toInt (by omega) (by omega)] at q
        rw [show (0 : Int32).toInt = 0 from rfl] at q
        omega
      rw [if_neg hneg]
      exact c1
  · rw [fX6_harm, if_pos bI_ff, mp]
    simp only [Option.bind_some]
    by_cases z : s ≤ w
    · rw [nI_sub z]; exact m1
    · rw [show w - s = 0 by omega] at m1
      rw [fX6_harm_J16, if_pos (show (0 : Int32) ≤ nI 0 by decide)] at m1
      rw [fX6_harm_J16, if_neg (fun q => by
        rw [Int32.le_iff_toInt_le, pk_sub_toInt (by omega) (by omega)] at q
        rw [show (0 : Int32).toInt = 0 from rfl] at q
        omega)]
      exact m1
theorem g_heal {n : Nat} {es : List Row} {fl : List Nat} {sk : List Row} {ft er : Tab} {eb : Int32} {li st : Tab} {rd tu la : Int32} {dl : Bool} {sh tb : Int32} {sa : Nat → Int32} {B i w : Nat} (h : GI n es fl sk ft er eb li st rd tu la dl sh tb sa B) (hi : i < n) (hw : w ≤ 60) :
    ∃ ft' sa' x y, fX1_heal ft (nI i) (nI w) = some ft' ∧ fX6_of sa (nI i) 2 = some x ∧ fX6_of sa (nI i) 1 = some y ∧ (fX6_set sa (nI i) 2 (if x + nI w ≤ y then x + nI w else y)) = some sa' ∧ GI n es fl sk ft' er eb li st rd tu la dl sh tb sa' B ∧ ∀ q, 322 ≤ q → sa' q = sa q := by
  have h0 := h
  obtain ⟨⟨hF, hE, hL, hSt⟩, ⟨e11, e3, e4, e7, e2, e9⟩, hV, hN, hKE, hKL, hKD, hKS, hKR, hKF, hKT⟩ := h
  have hn := hN.2
  obtain ⟨lf, fi, a1, a2, a3, a4, a5⟩ := hKF i hi
  obtain ⟨v, hv, hv1, hv2⟩ : ∃ v, v = (if lf + w ≤ fi then lf + w else fi) ∧ (if nI lf + nI w ≤ nI fi then nI lf + nI w else nI fi) = nI v ∧ (if nI fi < nI lf + nI w then nI fi else nI lf + nI w) = nI v := by
    refine ⟨_, rfl, ?_, ?_⟩
    · rw [nI_add]
      by_cases z : lf + w ≤ fi
      · rw [if_pos z, if_pos (nI_le z (by omega))]
      · rw [if_neg z, if_neg (nI_ge (by omega) (by omega))]
    · rw [nI_add]
      by_cases z : lf + w ≤ fi
      · rw [if_pos z, if_neg (nI_nlt z (by omega))]
      · rw [if_neg z, if_pos (nI_lt (by omega) (by omega))]
  have hvf : v ≤ fi := by rw [hv]; split <;> omega
  have c2 : fX4_at ft (nI i) 2 = some (nI lf) := by rw [← a4]; exact hF.at hi (by decide)
  have c1 : fX4_at ft (nI i) 1 = some (nI fi) := by rw [← a5]; exact hF.at hi (by decide)
  obtain ⟨ft1, f1, f2⟩ := hF.put (v := nI v) hi (show 2 < 4 by decide)
  have f1 : fX4_put ft (nI i) 2 (nI v) = some ft1 := f1
  have s1 : fX6_set sa (nI i) 2 (nI v) = some (upd sa (12 + 6 * i + 2) (nI v)) := m_set sa _ (by omega) (by decide)
  refine ⟨ft1, upd sa (12 + 6 * i + 2) (nI v), nI lf, nI fi, ?_, by rw [← a4]; exact m_of sa (by omega) (by decide), by rw [← a5]; exact m_of sa (by omega) (by decide), by rw [hv1]; exact s1, h0.hurt hi f2 hE (hKE.1.cong (pk_un (by omega)) (fun q _ _ => pk_un (by omega))) (by unfold endSum; rw [pk_un (by omega)]) (List.Sublist.refl _) (fun q _ _ _ d => pk_un d) ⟨v, fi, hvf, a2, a3, pk_us, a5⟩, fun q hq => pk_un (by omega)⟩
  rw [fX1_heal, c2, c1]
  simp only [Option.bind_some, hv2, f1]
theorem g_stop {n : Nat} {es : List Row} {fl : List Nat} {sk : List Row} {ft er : Tab} {eb : Int32} {li st : Tab} {rd tu la : Int32} {dl : Bool} {sh tb : Int32} {sa : Nat → Int32} {B fu i : Nat} (f : Int32) (h : GI n es fl sk ft er eb li st rd tu la dl sh tb sa B) (hi : i < n) (hfu : 2000 < fu) :
    ∃ es' er' sa', fX0_endHeldBy fu er f = some er' ∧ fX6_stopHolding fu sa f = some sa' ∧ GI n es' fl sk ft er' eb li st rd tu la dl sh tb sa' B ∧ ∀ q, 322 ≤ q → sa' q = sa q := by
  have h0 := h
  obtain ⟨⟨hF, hE, hL, hSt⟩, ⟨e11, e3, e4, e7, e2, e9⟩, hV, hN, hKE, hKL, hKD, hKS, hKR, hKF, hKT⟩ := h
  have hn := hN.2
  obtain ⟨lf, fi, a1, a2, a3, a4, a5⟩ := hKF i hi
  obtain ⟨er', c1, c2⟩ := c_stop (fu := fu) f hE (by omega)
  obtain ⟨sa', m1, m2, m3, m4⟩ := m_stop (fu := fu) f hKE.1 (by omega)
  refine ⟨_, er', sa', c1, m1, h0.hurt hi (hF.cong (fun x hx j hj => m4 _ (by omega) (by omega) (by omega))) c2 m2 m3 (stopF_sub _ _) (fun q a b c _ => m4 q a b c) ⟨lf, fi, a1, a2, a3, by rw [m4 _ (by omega) (by omega) (by omega)]; exact a4, a5⟩, fun q hq => m4 q (by omega) (by omega) (Or.inr hq)⟩
theorem c_begE {fu : Nat} {er : Tab} {eb : Int32} {es : List Row} (p1 p2 p3 p4 p5 p6 v7 : Int32) (h : EC er es) (hfu : 2000 < fu) :
    (es.length = 30 → fX0_begin_J17 fu p1 p2 p3 p4 p5 p6 er eb v7 = some (er, eb)) ∧ (es.length < 30 → ∃ er', fX0_begin_J17 fu p1 p2 p3 p4 p5 p6 er eb v7 = some (er', eb + 1) ∧ EC er' (es ++ [[p1, p2, p3, p4, p5, p6 / (2 : Int32), v7, eb]])) := by
  constructor
  · intro e
    rw [fX0_begin_J17, t_full h d8]
    simp only [Option.bind_some]
    rw [if_neg (fun q => (bI0.mp q) e)]
  · intro e
    obtain ⟨t, a, b⟩ := t_push (fu := fu) h d8 e (by omega)
    obtain ⟨t0, a0, b0⟩ := t_ptop (v := p1) b d8 (show 0 < 8 by decide)
    obtain ⟨t1, a1, b1⟩ := t_ptop (v := p2) b0 d8 (show 1 < 8 by decide)
    obtain ⟨t2, a2, b2⟩ := t_ptop (v := p3) b1 d8 (show 2 < 8 by decide)
    obtain ⟨t3, a3, b3⟩ := t_ptop (v := p4) b2 d8 (show 3 < 8 by decide)
    obtain ⟨t4, a4, b4⟩ := t_ptop (v := p5) b3 d8 (show 4 < 8 by decide)
    obtain ⟨t5, a5, b5⟩ := t_ptop (v := p6 / (2 : Int32)) b4 d8 (show 5 < 8 by decide)
    obtain ⟨t6, a6, b6⟩ := t_ptop (v := v7) b5 d8 (show 6 < 8 by decide)
    obtain ⟨t7, a7, b7⟩ := t_ptop (v := eb) b6 d8 (show 7 < 8 by decide)
    have a0 : fX4_put t (nI es.length) 0 p1 = some t0 := a0
    have a1 : fX4_put t0 (nI es.length) 1 p2 = some t1 := a1
    have a2 : fX4_put t1 (nI es.length) 2 p3 = some t2 := a2
    have a3 : fX4_put t2 (nI es.length) 3 p4 = some t3 := a3
    have a4 : fX4_put t3 (nI es.length) 4 p5 = some t4 := a4
    have a5 : fX4_put t4 (nI es.length) 5 (p6 / (2 : Int32)) = some t5 := a5
    have a6 : fX4_put t5 (nI es.length) 6 v7 = some t6 := a6
    have a7 : fX4_put t6 (nI es.length) 7 eb = some t7 := a7
    refine ⟨t7, ?_, b7⟩
    rw [fX0_begin_J17, t_full h d8, t_count h]
    simp only [Option.bind_some]
    rw [if_pos (bI0.mpr (by omega))]
    simp only [a, a0, a1, a2, a3, a4, a5, a6, a7, Option.bind_some]
