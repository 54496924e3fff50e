/-! what holds between calls; fighters are added, their speeds set, the shock set -/
theorem d1 : TD 1 120 := ⟨by decide, by decide, by decide⟩
theorem d3 : TD 3 60 := ⟨by decide, by decide, by decide⟩
def TX (tx : Tab) (mt : Nat → Int32) (ln : Int32) : Prop := ∃ bs : List Int32, TL 1 120 tx (bs.map (fun b => [b])) ∧ ln = nI bs.length ∧ (∀ (i : Nat) (b : Int32), bs[i]? = some b → mt i = b) ∧ ∀ b, b ∈ bs → ∃ j, j < 128 ∧ b = nI j
def Inv (k : Nat) (c : CS) (mo : MS) : Prop := ∃ B, B + 1000 * k ≤ 600000 ∧ GR c.ft c.er c.eb c.li c.st c.rd c.tu c.la c.dl c.sh c.tb mo.sa B ∧ GZ c.zft c.zer c.zli c.zst ∧ HI c.yc c.yp c.yg mo.sv mo.sm B ∧ TX c.tx mo.mt mo.ln ∧ TZ 3 60 c.cm
theorem inv_stay {k : Nat} {c : CS} {mo : MS} (h : Inv (k + 1) c mo) (th : Int32) (asd : Nat → Int32) (nx cd dg pw : Int32) (hs : Int64) : Inv k c ((th, mo.sa, asd, mo.sv, mo.sm, mo.mt, mo.ln, nx, cd, dg, pw, hs) : MS) := by
  obtain ⟨B, hB, h⟩ := h
  exact ⟨B, by omega, h⟩
theorem frows_succ (sa : Nat → Int32) (n : Nat) : frows sa (n + 1) = frows sa n ++ [frow sa n] := by
  simp [frows, List.range_succ]
theorem sOk.mono {n m : Nat} {r : Row} (h : sOk n r) (hnm : n ≤ m) : sOk m r := by
  obtain ⟨⟨a, a1, a2⟩, ⟨t, t1, t2⟩, h3⟩ := h
  exact ⟨⟨a, by omega, a2⟩, ⟨t, by omega, t2⟩, h3⟩
theorem g_add {n : Nat} {es : List Row} {fl : List Nat} {sk : List Row} {ft er : Tab} {eb : Int32} {li st : Tab} {rd tu la : Int32} {dl : Bool} {sh tb : Int32} {sa : Nat → Int32} {B fu lf : Nat} (p : Int32) (h : GI n es fl sk ft er eb li st rd tu la dl sh tb sa B) (hn10 : n < 10) (hl1 : 1 ≤ lf) (hl2 : lf ≤ 200) (hfu : 2000 < fu) :
    ∃ ft' sa' x5 x6 x7 x8 x9, fX1_join fu ft p (nI lf) = some (nI n, ft') ∧ fX6_set (upd sa 0 (nI n + 1)) (nI n) 0 p = some x5 ∧ fX6_set x5 (nI n) 1 (nI lf) = some x6 ∧ fX6_set x6 (nI n) 2 (nI lf) = some x7 ∧ fX6_set x7 (nI n) 3 1 = some x8 ∧ fX6_set x8 (nI n) 4 (-1) = some x9 ∧ fX6_set x9 (nI n) 5 0 = some sa' ∧ GI (n + 1) es fl sk ft' er eb li st rd tu la dl sh tb sa' B := by
  obtain ⟨⟨hF, hE, hL, hSt⟩, ⟨e11, e3, e4, e7, e2, e9⟩, hV, hN, hKE, hKL, hKD, hKS, hKR, hKF, hKT⟩ := h
  have hfl := hKL.2.1.2
  obtain ⟨t, a, b⟩ := t_push (fu := fu) hF.1 d4 (by rw [frows_len]; exact hn10) (by omega)
  obtain ⟨t0, a0, b0⟩ := t_ptop (v := p) b d4 (show 0 < 4 by decide)
  obtain ⟨t1, a1, b1⟩ := t_ptop (v := nI lf) b0 d4 (show 1 < 4 by decide)
  obtain ⟨t2, a2, b2⟩ := t_ptop (v := nI lf) b1 d4 (show 2 < 4 by decide)
  obtain ⟨t3, a3, b3⟩ := t_ptop (v := 1) b2 d4 (show 3 < 4 by decide)
  rw [frows_len] at a a0 a1 a2 a3
  have a0 : fX4_put t (nI n) 0 p = some t0 := a0
  have a1 : fX4_put t0 (nI n) 1 (nI lf) = some t1 := a1
  have a2 : fX4_put t1 (nI n) 2 (nI lf) = some t2 := a2
  have a3 : fX4_put t2 (nI n) 3 1 = some t3 := a3
  have b3 : TL 4 10 t3 (frows sa n ++ [[p, nI lf, nI lf, 1]]) := b3
  generalize hx0 : upd sa 0 (nI n + 1) = x0
  generalize hx5 : upd x0 (12 + 6 * n + 0) p = x5
  generalize hx6 : upd x5 (12 + 6 * n + 1) (nI lf) = x6
  generalize hx7 : upd x6 (12 + 6 * n + 2) (nI lf) = x7
  generalize hx8 : upd x7 (12 + 6 * n + 3) 1 = x8
  generalize hx9 : upd x8 (12 + 6 * n + 4) (-1) = x9
  generalize hxA : upd x9 (12 + 6 * n + 5) 0 = s
  have k : ∀ q, q ≠ 0 → (q < 12 + 6 * n ∨ 12 + 6 * n + 6 ≤ q) → s q = sa q := fun q c d => by
    rw [← hxA, pk_un (by omega), ← hx9, pk_un (by omega), ← hx8, pk_un (by omega), ← hx7, pk_un (by omega), ← hx6, pk_un (by omega), ← hx5, pk_un (by omega), ← hx0, pk_un c]
  have k0 : s 0 = nI (n + 1) := by
    rw [← hxA, pk_un (by omega), ← hx9, pk_un (by omega), ← hx8, pk_un (by omega), ← hx7, pk_un (by omega), ← hx6, pk_un (by omega), ← hx5, pk_un (by omega), ← hx0, pk_us, nS]
  have f0 : s (12 + 6 * n) = p := by rw [← hxA, pk_un (by omega), ← hx9, pk_un (by omega), ← hx8, pk_un (by omega), ← hx7, pk_un (by omega), ← hx6, pk_un (by omega), ← hx5]; exact pk_us
  have f1 : s (12 + 6 * n + 1) = nI lf := by rw [← hxA, pk_un (by omega), ← hx9, pk_un (by omega), ← hx8, pk_un (by omega), ← hx7, pk_un (by omega), ← hx6, pk_us]
  have f2 : s (12 + 6 * n + 2) = nI lf := by rw [← hxA, pk_un (by omega), ← hx9, pk_un (by omega), ← hx8, pk_un (by omega), ← hx7, pk_us]
  have f3 : s (12 + 6 * n + 3) = 1 := by rw [← hxA, pk_un (by omega), ← hx9, pk_un (by omega), ← hx8, pk_us]
  have f4 : s (12 + 6 * n + 4) = -1 := by rw [← hxA, pk_un (by omega), ← hx9, pk_us]
  have hF' : FC t3 s (n + 1) := by
    refine ⟨?_, by omega⟩
    rw [frows_succ, frows_cong (sa := sa) (sa' := s) (fun i hi j hj => k _ (by omega) (by omega)), show frow s n = [p, nI lf, nI lf, 1] by unfold frow; rw [f0, f1, f2, f3]]
    exact b3
  refine ⟨t3, s, x5, x6, x7, x8, x9, ?_, by rw [← hx5]; exact m_set _ _ (by omega) (show 0 < 6 by decide), by rw [← hx6]; exact m_set _ _ (by omega) (show 1 < 6 by decide), by rw [← hx7]; exact m_set _ _ (by omega) (show 2 < 6 by decide), by rw [← hx8]; exact m_set _ _ (by omega) (show 3 < 6 by decide), by rw [← hx9]; exact m_set _ _ (by omega) (show 4 < 6 by decide), by rw [← hxA]; exact m_set _ _ (by omega) (show 5 < 6 by decide), ⟨⟨hF', hE, hL.cong (fun f hf => k _ (by omega) (by have := hfl f hf; omega)), hSt⟩, ⟨by rw [k 11 (by decide) (by omega)]; exact e11, by rw [k 3 (by decide) (by omega)]; exact e3, by rw [k 4 (by decide) (by omega)]; exact e4, by rw [k 7 (by decide) (by omega)]; exact e7, by rw [k 2 (by decide) (by omega)]; exact e2, by rw [k 9 (by decide) (by omega)]; exact e9⟩, ?_, ?_, ?_, ?_, ?_, ?_, ?_, ?_, ?_⟩⟩
  · rw [fX1_join, hF.cnt]
    simp only [Option.bind_some, a, a0, a1, a2, a3]
  · intro f hf e
    rw [k 4 (by decide) (by omega)] at e
    have hfn : f < n := by
      rcases hKT.1 with ⟨q, -⟩ | ⟨x, x1, x2⟩
      · exact absurd (e.symm.trans q) (nI_m1 (by omega))
      · have hx := hfl x x1
        have := (nI_inj (by omega) (by omega)).mp (x2.symm.trans e); omega
    rw [k 5 (by decide) (by omega), k _ (by omega) (by omega)]
    exact hV f hfn e
  · exact ⟨k0, by omega⟩
  · exact hKE.cong (k 1 (by decide) (by omega)) (k 10 (by decide) (by omega)) (k 11 (by decide) (by omega)) (fun q _ _ => k q (by omega) (by omega))
  · refine ⟨⟨by rw [k 6 (by decide) (by omega)]; exact hKL.1.1, hKL.1.2.1, fun j x hj => by rw [k _ (by omega) (by have := tl_lt hj; have := hKL.1.2.1; omega)]; exact hKL.1.2.2 j x hj⟩, ⟨by omega, fun f hf => by have := hfl f hf; omega⟩, hKL.2.2.1, fun f hf hm => ?_⟩
    by_cases q : f = n
    · rw [q]; exact f4
    · rw [k _ (by omega) (by omega)]; exact hKL.2.2.2 f (by omega) hm
  · intro f hf
    by_cases q : f = n
    · subst q
      rw [f4]
      exact ⟨fun w => absurd w (by decide), fun w => absurd w (by decide)⟩
    · rw [k _ (by omega) (by omega), k _ (by omega) (by omega)]; exact hKD f (by omega)
  · exact ⟨(hKS.cong (k 8 (by decide) (by omega)) (fun q _ _ => k q (by omega) (by omega))).1, fun r hr => (hKS.2 r hr).mono (Nat.le_succ n)⟩
  · exact hKR.cong (k 3 (by decide) (by omega))
  · intro f hf
    by_cases q : f = n
    · subst q
      exact ⟨lf, lf, Nat.le_refl _, hl1, hl2, f2, f1⟩
    · obtain ⟨l0, f0, y1, y2, y3, y4, y5⟩ := hKF f (by omega)
      exact ⟨l0, f0, y1, y2, y3, by rw [k _ (by omega) (by omega)]; exact y4, by rw [k _ (by omega) (by omega)]; exact y5⟩
  · refine ⟨by rw [k 4 (by decide) (by omega)]; exact hKT.1, by rw [k 5 (by decide) (by omega)]; exact hKT.2.1, ?_⟩
    rw [k 7 (by decide) (by omega)]
    rcases hKT.2.2 with w | ⟨f, w1, w2⟩
    · exact Or.inl w
    · exact Or.inr ⟨f, by omega, w2⟩
theorem g_speed {n : Nat} {es : List Row} {fl : List Nat} {sk : List Row} {ft er : Tab} {eb : Int32} {li st : Tab} {rd tu la : Int32} {dl : Bool} {sh tb : Int32} {sa : Nat → Int32} {B a : Nat} (p : Int32) (h : GI n es fl sk ft er eb li st rd tu la dl sh tb sa B) (ha : a < n) :
    ∃ ft' sa' v, fX1_changeSpeed ft (nI a) p = some (v, ft') ∧ fX6_of sa (nI a) 0 = some v ∧ fX6_set sa (nI a) 0 p = some sa' ∧ GI n es fl sk ft' er eb li st rd tu la dl sh tb sa' B := by
  obtain ⟨⟨hF, hE, hL, hSt⟩, ⟨e11, e3, e4, e7, e2, e9⟩, hV, hN, hKE, hKL, hKD, hKS, hKR, hKF, hKT⟩ := h
  have hn := hN.2
  have hfl := hKL.2.1.2
  obtain ⟨t, t1, t2⟩ := hF.put (v := p) ha (show 0 < 4 by decide)
  have t1 : fX4_put ft (nI a) 0 p = some t := t1
  have c0 : fX4_at ft (nI a) 0 = some (sa (12 + 6 * a + 0)) := hF.at ha (show 0 < 4 by decide)
  have k : ∀ q, q ≠ 12 + 6 * a + 0 → upd sa (12 + 6 * a + 0) p q = sa q := fun q c => pk_un c
  refine ⟨t, upd sa (12 + 6 * a + 0) p, sa (12 + 6 * a + 0), ?_, m_of sa (by omega) (show 0 < 6 by decide), m_set sa _ (by omega) (show 0 < 6 by decide), ⟨⟨t2, hE, hL.cong (fun f hf => k _ (by omega)), hSt⟩, ⟨by rw [k 11 (by omega)]; exact e11, by rw [k 3 (by omega)]; exact e3, by rw [k 4 (by omega)]; exact e4, by rw [k 7 (by omega)]; exact e7, by rw [k 2 (by omega)]; exact e2, by rw [k 9 (by omega)]; exact e9⟩, ?_, ?_, ?_, ?_, ?_, ?_, ?_, ?_, ?_⟩⟩
  · rw [fX1_changeSpeed, c0]
    simp only [Option.bind_some, t1]
  · exact hV.cong (k 4 (by omega)) (k 5 (by omega)) (fun f hf => k _ (by omega))
  · exact hN.cong (k 0 (by omega))
  · exact hKE.cong (k 1 (by omega)) (k 10 (by omega)) (k 11 (by omega)) (fun q _ _ => k q (by omega))
  · exact hKL.cong (k 6 (by omega)) (fun q _ _ => k q (by omega)) (fun f hf => k _ (by omega))
  · exact hKD.cong (fun f hf => ⟨k _ (by omega), k _ (by omega)⟩)
  · exact hKS.cong (k 8 (by omega)) (fun q _ _ => k q (by omega))
  · exact hKR.cong (k 3 (by omega))
  · exact hKF.cong (fun f hf => ⟨k _ (by omega), k _ (by omega)⟩)
  · exact hKT.cong (k 4 (by omega)) (k 5 (by omega)) (k 7 (by omega))
theorem g_shock {n : Nat} {es : List Row} {fl : List Nat} {sk : List Row} {ft er : Tab} {eb : Int32} {li st : Tab} {rd tu la : Int32} {dl : Bool} {sh tb : Int32} {sa : Nat → Int32} {B : Nat} (p : Int32) (h : GI n es fl sk ft er eb li st rd tu la dl sh tb sa B) :
    GI n es fl sk ft er eb li st rd tu la dl p tb (upd sa 2 p) B := by
  obtain ⟨⟨hF, hE, hL, hSt⟩, ⟨e11, e3, e4, e7, e2, e9⟩, hV, hN, hKE, hKL, hKD, hKS, hKR, hKF, hKT⟩ := h
  have k : ∀ q, q ≠ 2 → upd sa 2 p q = sa q := fun q c => pk_un c
  refine ⟨⟨hF.cong (fun i hi j hj => k _ (by omega)), hE, hL.cong (fun f hf => k _ (by omega)), hSt⟩, ⟨by rw [k 11 (by omega)]; exact e11, by rw [k 3 (by omega)]; exact e3, by rw [k 4 (by omega)]; exact e4, by rw [k 7 (by omega)]; exact e7, pk_us.symm, by rw [k 9 (by omega)]; exact e9⟩, ?_, ?_, ?_, ?_, ?_, ?_, ?_, ?_, ?_⟩
  · exact hV.cong (k 4 (by omega)) (k 5 (by omega)) (fun f hf => k _ (by omega))
  · exact hN.cong (k 0 (by omega))
  · exact hKE.cong (k 1 (by omega)) (k 10 (by omega)) (k 11 (by omega)) (fun q _ _ => k q (by omega))
  · exact hKL.cong (k 6 (by omega)) (fun q _ _ => k q (by omega)) (fun f hf => k _ (by omega))
  · exact hKD.cong (fun f hf => ⟨k _ (by omega), k _ (by omega)⟩)
  · exact hKS.cong (k 8 (by omega)) (fun q _ _ => k q (by omega))
  · exact hKR.cong (k 3 (by omega))
  · exact hKF.cong (fun f hf => ⟨k _ (by omega), k _ (by omega)⟩)
  · exact hKT.cong (k 4 (by omega)) (k 5 (by omega)) (k 7 (by omega))
