/-! acts come onto the stack -/
theorem d7 : TD 7 8 := ⟨by decide, by decide, by decide⟩
theorem t_push {fu c mx : Nat} {T : Tab} {rs : List Row} (h : TL c mx T rs) (d : TD c mx) (hm : rs.length < mx) (hf : 8 < fu) : ∃ T', fX4_insert fu T (nI rs.length) = some T' ∧ TL c mx T' (rs ++ [List.replicate c 0]) := by
  obtain ⟨T', a, b⟩ := t_insert (fu := fu) h d (Nat.le_refl rs.length) hm hf
  refine ⟨T', a, ?_⟩
  rw [show rs ++ [List.replicate c (0 : Int32)] = rs.insertIdx rs.length (List.replicate c 0) by simp]
  exact b
theorem t_ptop {c mx j : Nat} {T : Tab} {rs : List Row} {r : Row} {v : Int32} (h : TL c mx T (rs ++ [r])) (d : TD c mx) (hj : j < c) : ∃ T', fX4_put T (nI rs.length) (nI j) v = some T' ∧ TL c mx T' (rs ++ [r.set j v]) := by
  obtain ⟨T', a, b⟩ := t_put (v := v) h d (show (rs ++ [r])[rs.length]? = some r by simp) hj
  refine ⟨T', a, ?_⟩
  rw [show rs ++ [r.set j v] = (rs ++ [r]).set rs.length (r.set j v) by rw [mid_set rs [] r (r.set j v)]]
  exact b
theorem nA1 (a : Nat) : nI a + 1 = nI (a + 1) := nI_add a 1
theorem nA2 (a : Nat) : nI a + 2 = nI (a + 2) := nI_add a 2
theorem nA3 (a : Nat) : nI a + 3 = nI (a + 3) := nI_add a 3
theorem nA4 (a : Nat) : nI a + 4 = nI (a + 4) := nI_add a 4
theorem nA5 (a : Nat) : nI a + 5 = nI (a + 5) := nI_add a 5
theorem nA6 (a : Nat) : nI a + 6 = nI (a + 6) := nI_add a 6
theorem nA7 (a : Nat) : nI a + 7 = nI (a + 7) := nI_add a 7
theorem nA0 (a : Nat) : nI a + 0 = nI a := nI_add a 0
theorem m_pushJ {s : Nat → Int32} {S : Nat} (p0 p1 p2 p3 p4 p5 p6 : Int32) (h8 : s 8 = nI S) (hS : S < 8) :
    ∃ s', fX6_pushes_J27 p0 p1 p2 p3 p4 p5 p6 s = some (nI (S + 1), s') ∧ s' 8 = nI (S + 1) ∧ (∀ j, j < 7 → s' (322 + 7 * S + j) = gD [p0, p1, p2, p3, p4, p5, p6] j) ∧ ∀ q, q ≠ 8 → (q < 322 + 7 * S ∨ 322 + 7 * S + 7 ≤ q) → s' q = s q := by
  have C : ∀ j, j < 7 → (nI (322 + 7 * S + j)).toNatClampNeg = 322 + 7 * S + j := fun j hj => nI_clamp (by omega)
  have T : ∀ j, j < 7 → (¬ (nI (322 + 7 * S + j) < 0 ∨ 378 ≤ 322 + 7 * S + j)) = True := fun j hj => gT (by omega) (by decide)
  have C0 : (nI (322 + 7 * S)).toNatClampNeg = 322 + 7 * S := C 0 (by decide)
  have T0 : (¬ (nI (322 + 7 * S) < 0 ∨ 378 ≤ 322 + 7 * S)) = True := T 0 (by decide)
  have U : ∀ (f : Nat → Int32) j v, upd f (322 + 7 * S + j) v 8 = f 8 := fun f j v => pk_un (by omega)
  have U0 : ∀ (f : Nat → Int32) v, upd f (322 + 7 * S) v 8 = f 8 := fun f v => pk_un (by omega)
  refine ⟨upd (upd (upd (upd (upd (upd (upd (upd s (322 + 7 * S) p0) (322 + 7 * S + 1) p1) (322 + 7 * S + 2) p2) (322 + 7 * S + 3) p3) (322 + 7 * S + 4) p4) (322 + 7 * S + 5) p5) (322 + 7 * S + 6) p6) 8 (nI (S + 1)), ?_, pk_us, fun j hj => ?_, fun q a b => ?_⟩
  · rw [fX6_pushes_J27]
    simp only [q8, g8, if_true, h8, ofK0, nA1, nA2, nA3, nA4, nA5, nA6, C0, T0, C 1 (by decide), C 2 (by decide), C 3 (by decide), C 4 (by decide), C 5 (by decide), C 6 (by decide), T 1 (by decide), T 2 (by decide), T 3 (by decide), T 4 (by decide), T 5 (by decide), T 6 (by decide), U, U0, pk_us]
  · rw [pk_un (by omega)]
    match j, hj with
    | 0, _ => rw [pk_un (by omega), pk_un (by omega), pk_un (by omega), pk_un (by omega), pk_un (by omega), pk_un (by omega)]; exact pk_us
    | 1, _ => rw [pk_un (by omega), pk_un (by omega), pk_un (by omega), pk_un (by omega), pk_un (by omega), pk_us]; rfl
    | 2, _ => rw [pk_un (by omega), pk_un (by omega), pk_un (by omega), pk_un (by omega), pk_us]; rfl
    | 3, _ => rw [pk_un (by omega), pk_un (by omega), pk_un (by omega), pk_us]; rfl
    | 4, _ => rw [pk_un (by omega), pk_un (by omega), pk_us]; rfl
    | 5, _ => rw [pk_un (by omega), pk_us]; rfl
    | 6, _ => rw [pk_us]; rfl
  · rw [pk_un a, pk_un (by omega), pk_un (by omega), pk_un (by omega), pk_un (by omega), pk_un (by omega), pk_un (by omega), pk_un (by omega)]
theorem c_pushJ {fu : Nat} {ft st : Tab} {dl : Bool} {sk : List Row} (p0 p1 p2 p3 p4 p5 p6 : Int32) (h : TL 7 8 st sk) (hS : sk.length < 8) (hfu : 2000 < fu) :
    ∃ st', fX1_beginAct_J20 fu p0 p1 p2 p3 p4 p5 p6 ft st dl = some (nI (sk.length + 1), ft, st', false) ∧ TL 7 8 st' (sk ++ [[p0, p1, p2, p3, p4, p5, p6]]) := by
  obtain ⟨t, a, b⟩ := t_push (fu := fu) h d7 hS (by omega)
  obtain ⟨t0, a0, b0⟩ := t_ptop (v := p0) b d7 (show 0 < 7 by decide)
  obtain ⟨t1, a1, b1⟩ := t_ptop (v := p1) b0 d7 (show 1 < 7 by decide)
  obtain ⟨t2, a2, b2⟩ := t_ptop (v := p2) b1 d7 (show 2 < 7 by decide)
  obtain ⟨t3, a3, b3⟩ := t_ptop (v := p3) b2 d7 (show 3 < 7 by decide)
  obtain ⟨t4, a4, b4⟩ := t_ptop (v := p4) b3 d7 (show 4 < 7 by decide)
  obtain ⟨t5, a5, b5⟩ := t_ptop (v := p5) b4 d7 (show 5 < 7 by decide)
  obtain ⟨t6, a6, b6⟩ := t_ptop (v := p6) b5 d7 (show 6 < 7 by decide)
  have a0 : fX4_put t (nI sk.length) 0 p0 = some t0 := a0
  have a1 : fX4_put t0 (nI sk.length) 1 p1 = some t1 := a1
  have a2 : fX4_put t1 (nI sk.length) 2 p2 = some t2 := a2
  have a3 : fX4_put t2 (nI sk.length) 3 p3 = some t3 := a3
  have a4 : fX4_put t3 (nI sk.length) 4 p4 = some t4 := a4
  have a5 : fX4_put t4 (nI sk.length) 5 p5 = some t5 := a5
  have a6 : fX4_put t5 (nI sk.length) 6 p6 = some t6 := a6
  have b6 : TL 7 8 t6 (sk ++ [[p0, p1, p2, p3, p4, p5, p6]]) := b6
  refine ⟨t6, ?_, b6⟩
  rw [fX1_beginAct_J20, t_count h]
  simp only [Option.bind_some, a, a0, a1, a2, a3, a4, a5, a6, t_count b6]
  simp
theorem g_push {n : Nat} {es : List Row} {fl : List Nat} {sk : List Row} {ft er : Tab} {eb : Int32} {li st : Tab} {rd tu la : Int32} {dl : Bool} {sh tb : Int32} {sa : Nat → Int32} {B fu a : Nat} (p0 p2 p3 p4 p5 p6 : Int32) (h : GI n es fl sk ft er eb li st rd tu la dl sh tb sa B) (hS : sk.length < 8) (ha : a < n) (hr : sOk n [p0, nI a, p2, p3, p4, p5, p6]) (ht : tu ≠ -1) (hfu : 2000 < fu) :
    ∃ ft' st' sa', fX1_beginAct fu ft st dl p0 (nI a) p2 p3 p4 p5 p6 = some (nI (sk.length + 1), ft', st', false) ∧ fX6_pushes sa p0 (nI a) p2 p3 p4 p5 p6 = some (nI (sk.length + 1), sa') ∧ GI n es fl (sk ++ [[p0, nI a, p2, p3, p4, p5, p6]]) ft' er eb li st' rd tu la false sh tb sa' B := by
  obtain ⟨⟨hF, hE, hL, hSt⟩, ⟨e11, e3, e4, e7, e2, e9⟩, hV, hN, hKE, hKL, hKD, hKS, hKR, hKF, hKT⟩ := h
  have hn := hN.2
  have hfl := hKL.2.1.2
  have key : ∀ (ft1 : Tab) (s : Nat → Int32), FC ft1 s n → s 5 = 1 → (∀ q, q ≠ 5 → q ≠ 12 + 6 * a + 3 → s q = sa q) → ∃ st' sa', fX1_beginAct_J20 fu p0 (nI a) p2 p3 p4 p5 p6 ft1 st dl = some (nI (sk.length + 1), ft1, st', false) ∧ fX6_pushes_J27 p0 (nI a) p2 p3 p4 p5 p6 s = some (nI (sk.length + 1), sa') ∧ GI n es fl (sk ++ [[p0, nI a, p2, p3, p4, p5, p6]]) ft1 er eb li st' rd tu la false sh tb sa' B := by
    intro ft1 s hF1 h5 ks
    obtain ⟨st', c1, c2⟩ := c_pushJ (fu := fu) (ft := ft1) (dl := dl) p0 (nI a) p2 p3 p4 p5 p6 hSt hS hfu
    obtain ⟨s', m1, m2, m3, m4⟩ := m_pushJ (s := s) p0 (nI a) p2 p3 p4 p5 p6 (by rw [ks 8 (by decide) (by omega)]; exact hKS.1.1) hS
    have k : ∀ q, q ≠ 5 → q ≠ 8 → q ≠ 12 + 6 * a + 3 → q < 322 → s' q = sa q := fun q x y z w => (m4 q y (by omega)).trans (ks q x z)
    have k5 : s' 5 = 1 := (m4 5 (by decide) (by omega)).trans h5
    refine ⟨st', s', c1, m1, ⟨⟨hF1.cong (fun i hi j hj => m4 _ (by omega) (by omega)), hE, hL.cong (fun f hf => k _ (by omega) (by omega) (by omega) (by have := hfl f hf; omega)), c2⟩, ⟨by rw [k 11 (by decide) (by decide) (by omega) (by decide)]; exact e11, by rw [k 3 (by decide) (by decide) (by omega) (by decide)]; exact e3, by rw [k 4 (by decide) (by decide) (by omega) (by decide)]; exact e4, by rw [k 7 (by decide) (by decide) (by omega) (by decide)]; exact e7, by rw [k 2 (by decide) (by decide) (by omega) (by decide)]; exact e2, by rw [k 9 (by decide) (by decide) (by omega) (by decide)]; exact e9⟩, ?_, ?_, ?_, ?_, ?_, ?_, ?_, ?_, ?_⟩⟩
    · intro f hf e
      rw [k5]
      exact (decide_eq_false (fun q => absurd q.1 (by decide))).symm
    · exact hN.cong (k 0 (by decide) (by decide) (by omega) (by decide))
    · exact hKE.cong (k 1 (by decide) (by decide) (by omega) (by decide)) (k 10 (by decide) (by decide) (by omega) (by decide)) (k 11 (by decide) (by decide) (by omega) (by decide)) (fun q _ _ => k q (by omega) (by omega) (by omega) (by omega))
    · exact hKL.cong (k 6 (by decide) (by decide) (by omega) (by decide)) (fun q _ _ => k q (by omega) (by omega) (by omega) (by omega)) (fun f hf => k _ (by omega) (by omega) (by omega) (by omega))
    · exact hKD.cong (fun f hf => ⟨k _ (by omega) (by omega) (by omega) (by omega), k _ (by omega) (by omega) (by omega) (by omega)⟩)
    · refine ⟨⟨by rw [m2]; simp, by simp; omega, fun i r hr' => ?_⟩, fun r hr' => ?_⟩
      · rcases Nat.lt_or_ge i sk.length with q | q
        · rw [List.getElem?_append_left q] at hr'
          refine ⟨(hKS.1.2.2 i r hr').1, fun j hj => ?_⟩
          rw [m4 _ (by omega) (by omega), ks _ (by omega) (by omega)]
          exact (hKS.1.2.2 i r hr').2 j hj
        · have hil := tl_lt hr'
          rw [List.length_append] at hil
          have hie : i = sk.length := by simp at hil; omega
          subst hie
          rw [List.getElem?_append_right (Nat.le_refl _), Nat.sub_self] at hr'
          cases hr'
          exact ⟨rfl, m3⟩
      · rcases List.mem_append.mp hr' with q | q
        · exact hKS.2 r q
        · rw [List.mem_singleton.mp q]; exact hr
    · exact hKR.cong (k 3 (by decide) (by decide) (by omega) (by decide))
    · exact hKF.cong (fun x hx => ⟨k _ (by omega) (by omega) (by omega) (by omega), k _ (by omega) (by omega) (by omega) (by omega)⟩)
    · refine ⟨Or.inr ?_, fun _ => k5, by rw [k 7 (by decide) (by decide) (by omega) (by decide)]; exact hKT.2.2⟩
      rw [k 4 (by decide) (by decide) (by omega) (by decide)]
      rcases hKT.1 with ⟨q, -⟩ | q
      · exact absurd (e4.trans q) ht
      · exact q
  have hk8 := hKS.1.1
  by_cases z : sk.length = 0
  · obtain ⟨st', s', c, m, g⟩ := key ft (upd sa 5 1) (hF.cong (fun i hi j hj => pk_un (by omega))) pk_us (fun q x y => pk_un x)
    refine ⟨ft, st', s', ?_, ?_, g⟩
    · rw [fX1_beginAct, t_count hSt, z]
      simp only [Option.bind_some, if_pos (show nI 0 ≤ 0 by decide)]
      rw [← z]; exact c
    · rw [fX6_pushes]
      simp only [q8, g8, q5, g5, if_true]
      rw [hk8, z, if_pos (show nI 0 = 0 from rfl), ← z]; exact m
  · obtain ⟨ft1, f1, f2⟩ := hF.put (v := 0) ha (show 3 < 4 by decide)
    have f1 : fX4_put ft (nI a) 3 0 = some ft1 := f1
    have s1 : fX6_set sa (nI a) 3 0 = some (upd sa (12 + 6 * a + 3) 0) := m_set sa _ (by omega) (show 3 < 6 by decide)
    obtain ⟨st', s', c, m, g⟩ := key ft1 (upd sa (12 + 6 * a + 3) 0) f2 (by rw [pk_un (by omega)]; exact hKT.2.1 (fun q => z (by rw [q]; rfl))) (fun q x y => pk_un y)
    refine ⟨ft1, st', s', ?_, ?_, g⟩
    · rw [fX1_beginAct, t_count hSt]
      simp only [Option.bind_some, if_neg (nI_nle (show 0 < sk.length by omega) (by omega)), f1]
      exact c
    · rw [fX6_pushes]
      simp only [q8, g8, if_true]
      rw [if_neg (by rw [hk8]; exact nI_ne0 (show 0 < sk.length by omega) (by omega)), s1]; exact m
