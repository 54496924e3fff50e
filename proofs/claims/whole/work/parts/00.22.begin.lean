/-! a new round, poison, a turn begins -/
theorem g_round {n : Nat} {es : List Row} {fl : List Nat} {ft er : Tab} {eb : Int32} {li st : Tab} {rd tu la : Int32} {dl : Bool} {sh tb : Int32} {sa : Nat → Int32} {B fu : Nat} (h : GI n es fl [] ft er eb li st rd tu la dl sh tb sa B) (ht : tu = -1) (hfu : 2000 < fu) :
    ∃ li' sa', fX1_beginRound fu ft er li rd = some (li', rd + 1) ∧ fX6_newRound fu sa = some sa' ∧ GI n es (rnF sa es n) [] ft er eb li' st (rd + 1) tu la dl sh tb sa' (B + 1) ∧ (∀ f, f ∈ rnF sa es n → sa' (12 + 6 * f + 4) = 0) ∧ ∀ f, f < n → stF sa' f = stF sa f := by
  obtain ⟨⟨hF, hE, hL, hSt⟩, ⟨e11, e3, e4, e7, e2, e9⟩, hV, hN, hKE, hKL, hKD, hKS, hKR, hKF, hKT⟩ := h
  have hn := hN.2
  obtain ⟨li', c1, c2⟩ := c_round (rd := rd) hF hE hL (show 30 < fu by omega)
  obtain ⟨sa', m1, m2, m3, m4, m5, k⟩ := m_round (fu := fu) hN.1 hn hKE.1 (by omega)
  have kc : ∀ q, q ≠ 3 → q ≠ 6 → (q < 12 ∨ 82 ≤ q) → sa' q = sa q := fun q a b c => k q a b (by omega) (fun f hf => by omega)
  have kf : ∀ f j, f < n → j < 4 → sa' (12 + 6 * f + j) = sa (12 + 6 * f + j) := fun f j hf hj => k _ (by omega) (by omega) (by omega) (fun f' hf' => by omega)
  have hlt : ∀ f, f ∈ rnF sa es n → f < n := fun f hf => (rnF_lt n f hf).1
  refine ⟨li', sa', c1, m1, ⟨⟨hF.cong (fun i hi j hj => kf i j hi hj), hE, ?_, hSt⟩, ⟨by rw [kc 11 (by decide) (by decide) (by decide)]; exact e11, by rw [m5, e3], by rw [kc 4 (by decide) (by decide) (by decide)]; exact e4, by rw [kc 7 (by decide) (by decide) (by decide)]; exact e7, by rw [kc 2 (by decide) (by decide) (by decide)]; exact e2, by rw [kc 9 (by decide) (by decide) (by decide)]; exact e9⟩, ?_, ?_, ?_, ?_, ?_, ?_, ?_, ?_, ?_⟩, fun f hf => by rw [m3 f (hlt f hf), if_pos hf], fun f hf => by unfold stF; rw [kf f 2 hf (by decide)]⟩
  · unfold LC
    rw [List.map_congr_left (g := fun f => [nI f, (0 : Int32)]) (fun f hf => by rw [m3 f (hlt f hf), if_pos hf])]
    exact c2
  · intro f hf e
    rw [kc 4 (by decide) (by decide) (by decide), ← e4, ht] at e
    exact absurd e.symm (nI_m1 (by omega))
  · exact hN.cong (kc 0 (by decide) (by decide) (by decide))
  · exact (hKE.cong (kc 1 (by decide) (by decide) (by decide)) (kc 10 (by decide) (by decide) (by decide)) (kc 11 (by decide) (by decide) (by decide)) (fun q _ _ => kc q (by omega) (by omega) (by omega))).mono (Nat.le_succ B)
  · exact ⟨m2, ⟨hn, hlt⟩, rnF_nodup n, fun f hf hm => by rw [m3 f hf, if_neg hm]⟩
  · intro f hf
    rw [m4 f hf, m3 f hf]
    refine ⟨fun _ => rfl, fun q => ?_⟩
    split at q <;> exact absurd q (by decide)
  · exact hKS.cong (kc 8 (by decide) (by decide) (by decide)) (fun q _ _ => kc q (by omega) (by omega) (by omega))
  · obtain ⟨R, r1, r2, r3⟩ := hKR
    exact ⟨R + 1, by omega, by rw [m5, r2, nS], fun q => absurd q (by omega)⟩
  · exact hKF.cong (fun f hf => ⟨kf f 1 hf (by decide), kf f 2 hf (by decide)⟩)
  · exact ⟨Or.inl ⟨by rw [kc 4 (by decide) (by decide) (by decide), ← e4, ht], rfl⟩, fun e => absurd rfl e, by rw [kc 7 (by decide) (by decide) (by decide)]; exact hKT.2.2⟩
/-- lives and effects change, the rest stays -/
theorem GI.hurt {n : Nat} {es es' : List Row} {fl : List Nat} {sk : List Row} {ft ft' er er' : Tab} {eb : Int32} {li st : Tab} {rd tu la : Int32} {dl : Bool} {sh tb : Int32} {sa sa' : Nat → Int32} {B i : Nat} (h : GI n es fl sk ft er eb li st rd tu la dl sh tb sa B) (hi : i < n)
    (hF : FC ft' sa' n) (hE : EC er' es') (hM : EM sa' es') (hs : endSum sa' es'.length = endSum sa es.length) (hb : es'.Sublist es) (hk : poiKeep sa sa' i) (hlf : ∃ lf fi, lf ≤ fi ∧ 1 ≤ fi ∧ fi ≤ 200 ∧ sa' (12 + 6 * i + 2) = nI lf ∧ sa (12 + 6 * i + 1) = nI fi) : GI n es' fl sk ft' er' eb li st rd tu la dl sh tb sa' B := by
  obtain ⟨⟨-, -, hL, hSt⟩, ⟨e11, e3, e4, e7, e2, e9⟩, hV, hN, hKE, hKL, hKD, hKS, hKR, hKF, hKT⟩ := h
  have hn := hN.2
  have hfl := hKL.2.1.2
  have k : ∀ q, q ≠ 1 → q ≠ 10 → (q < 82 ∨ 322 ≤ q) → q ≠ 12 + 6 * i + 2 → sa' q = sa q := hk
  have kc : ∀ q, q ≠ 1 → q ≠ 10 → (q < 12 ∨ 322 ≤ q) → sa' q = sa q := fun q a b c => k q a b (by omega) (by omega)
  have kf : ∀ f j, f < n → j < 6 → j ≠ 2 → sa' (12 + 6 * f + j) = sa (12 + 6 * f + j) := fun f j hf hj hne => k _ (by omega) (by omega) (by omega) (by omega)
  refine ⟨⟨hF, hE, hL.cong (fun f hf => kf f 4 (hfl f hf) (by decide) (by decide)), hSt⟩, ⟨by rw [kc 11 (by decide) (by decide) (by decide)]; exact e11, by rw [kc 3 (by decide) (by decide) (by decide)]; exact e3, by rw [kc 4 (by decide) (by decide) (by decide)]; exact e4, by rw [kc 7 (by decide) (by decide) (by decide)]; exact e7, by rw [kc 2 (by decide) (by decide) (by decide)]; exact e2, by rw [kc 9 (by decide) (by decide) (by decide)]; exact e9⟩, ?_, ?_, ?_, ?_, ?_, ?_, ?_, ?_, ?_⟩
  · exact hV.cong (kc 4 (by decide) (by decide) (by decide)) (kc 5 (by decide) (by decide) (by decide)) (fun f hf => kf f 5 hf (by decide) (by decide))
  · exact hN.cong (kc 0 (by decide) (by decide) (by decide))
  · exact hKE.sub hM hs (kc 11 (by decide) (by decide) (by decide)) hb
  · exact hKL.cong (kc 6 (by decide) (by decide) (by decide)) (fun q _ _ => k q (by omega) (by omega) (by omega) (by omega)) (fun f hf => kf f 4 hf (by decide) (by decide))
  · exact hKD.cong (fun f hf => ⟨kf f 4 hf (by decide) (by decide), kf f 5 hf (by decide) (by decide)⟩)
  · exact hKS.cong (kc 8 (by decide) (by decide) (by decide)) (fun q _ _ => kc q (by omega) (by omega) (by omega))
  · exact hKR.cong (kc 3 (by decide) (by decide) (by decide))
  · intro f hf
    by_cases e : f = i
    · subst e
      obtain ⟨l0, f0, a1, a2, a3, a4, a5⟩ := hlf
      exact ⟨l0, f0, a1, a2, a3, a4, by rw [kf f 1 hf (by decide) (by decide)]; exact a5⟩
    · obtain ⟨l0, f0, a1, a2, a3, a4, a5⟩ := hKF f hf
      exact ⟨l0, f0, a1, a2, a3, by rw [k _ (by omega) (by omega) (by omega) (by omega)]; exact a4, by rw [kf f 1 hf (by decide) (by decide)]; exact a5⟩
  · exact hKT.cong (kc 4 (by decide) (by decide) (by decide)) (kc 5 (by decide) (by decide) (by decide)) (kc 7 (by decide) (by decide) (by decide))
theorem stF_nI {sa : Nat → Int32} {f lf : Nat} (h : sa (12 + 6 * f + 2) = nI lf) (hl : lf ≤ 1000) : stF sa f = decide (0 < lf) := by
  unfold stF
  rw [h]
  by_cases z : 0 < lf
  · rw [decide_eq_true z]; exact decide_eq_true (fun q => by have := (nle0 hl).mp q; omega)
  · rw [decide_eq_false z]; exact decide_eq_false (fun q => q ((nle0 hl).mpr (by omega)))
theorem cntB_len (b : Int32) (es : List Row) : cntB b es ≤ es.length := List.length_filter_le ..
theorem g_poison {n : Nat} {es : List Row} {fl : List Nat} {sk : List Row} {ft er : Tab} {eb : Int32} {li st : Tab} {rd tu la : Int32} {dl : Bool} {sh tb : Int32} {sa : Nat → Int32} {B fu i : Nat} (h : GI n es fl sk ft er eb li st rd tu la dl sh tb sa B) (hi : i < n) (hst : stF sa i = true) (hfu : 2000 < fu) :
    ∃ es' ft' er' sa', fX1_sufferPoison fu ft er sh (nI i) = some (ft', er') ∧ fX6_sufferPoison fu sa (nI i) = some sa' ∧ GI n es' fl sk ft' er' eb li st rd tu la dl sh tb sa' B := by
  have h0 := h
  obtain ⟨⟨hF, hE, hL, hSt⟩, ⟨e11, e3, e4, e7, e2, e9⟩, hV, hN, hKE, hKL, hKD, hKS, hKR, hKF, hKT⟩ := h
  obtain ⟨lf, fi, a1, a2, a3, a4, a5⟩ := hKF i hi
  rw [stF_nI a4 (by omega)] at hst
  have hpos := of_decide_eq_true hst
  have hes := hKE.1.2.1
  obtain ⟨sa', ft', er', es', lf', c, m, r1, r2, r3, r4, r5, r6, r7, r8, -⟩ := poison hfu hi hN.2 30 sa ft er es (-1) lf (by have := cntB_len (-1) es; omega) hF hE hKE.1 hKE.2.1.1 hKE.2.1.2.1 a4 hpos (by omega)
  refine ⟨es', ft', er', sa', ?_, ?_, h0.hurt hi r1 r2 r3 r5 r4 r8 ⟨lf', fi, by omega, a2, a3, r7, a5⟩⟩
  · rw [fX1_sufferPoison, e2]
    exact c fu 0 (by omega) (by omega)
  · rw [fX6_sufferPoison]
    exact m fu (by omega)
/-- nobody stands -/
def NS (n : Nat) (sa : Nat → Int32) : Prop := ∀ f, f < n → stF sa f = false
theorem g_beginJ {n : Nat} {es : List Row} {fl : List Nat} {ft er : Tab} {eb : Int32} {li st : Tab} {rd tu la : Int32} {dl : Bool} {sh tb : Int32} {sa : Nat → Int32} {B fu f : Nat} (h : GI n es fl [] ft er eb li st rd tu la dl sh tb sa B) (hf : f ∈ fl) (h4 : sa (12 + 6 * f + 4) = 0) (hst : stF sa f = true) (hfu : 2000 < fu) :
    ∃ es' ft' er' li' tu' sa', fX1_beginTurn_J19 fu sh ft er li rd tu la dl tb (nI f) = some (nI f, ft', er', li', rd, tu', nI f, true, tb + 1) ∧ fX6_begins_J32 fu sa (nI f) = some (nI f, sa') ∧ GI n es' fl [] ft' er' eb li' st rd tu' (nI f) true sh (tb + 1) sa' B := by
  obtain ⟨⟨hF, hE, hL, hSt⟩, ⟨e11, e3, e4, e7, e2, e9⟩, hV, hN, hKE, hKL, hKD, hKS, hKR, hKF, hKT⟩ := h
  have hn := hN.2
  have hfl := hKL.2.1.2
  have hfn := hfl f hf
  have h5 := (hKD f hfn).1 h4
  obtain ⟨k0, p1, p2, -⟩ := hKL.place hL hf (show 30 < fu by omega)
  obtain ⟨li', l1, l2⟩ := hL.put (v := 1) p1 hKL.2.2.1
  obtain ⟨ft1, f1, f2⟩ := hF.put (v := 1) hfn (show 3 < 4 by decide)
  have f1 : fX4_put ft (nI f) 3 1 = some ft1 := f1
  have hne := nI_m1 (show f < 2 ^ 31 by omega)
  generalize hy : upd (upd (upd (upd sa 9 (sa 9 + 1)) 7 (nI f)) 5 0) 4 (nI f) = y
  have s1 : fX6_set y (nI f) 4 1 = some (upd y (12 + 6 * f + 4) 1) := m_set y _ (by omega) (show 4 < 6 by decide)
  have s2 : fX6_set (upd y (12 + 6 * f + 4) 1) (nI f) 3 1 = some (upd (upd y (12 + 6 * f + 4) 1) (12 + 6 * f + 3) 1) := m_set _ _ (by omega) (show 3 < 6 by decide)
  generalize hx : upd (upd y (12 + 6 * f + 4) 1) (12 + 6 * f + 3) 1 = s at s2
  have k : ∀ q, q ≠ 4 → q ≠ 5 → q ≠ 7 → q ≠ 9 → q ≠ 12 + 6 * f + 3 → q ≠ 12 + 6 * f + 4 → s q = sa q := fun q a b c d e g => by rw [← hx, pk_un e, pk_un g, ← hy, pk_un a, pk_un b, pk_un c, pk_un d]
  have k4 : s 4 = nI f := by rw [← hx, pk_un (by omega), pk_un (by omega), ← hy, pk_us]
  have k5 : s 5 = 0 := by rw [← hx, pk_un (by omega), pk_un (by omega), ← hy, pk_un (by decide), pk_us]
  have k7 : s 7 = nI f := by rw [← hx, pk_un (by omega), pk_un (by omega), ← hy, pk_un (by decide), pk_un (by decide), pk_us]
  have k9 : s 9 = sa 9 + 1 := by rw [← hx, pk_un (by omega), pk_un (by omega), ← hy, pk_un (by decide), pk_un (by decide), pk_un (by decide), pk_us]
  have kf3 : s (12 + 6 * f + 3) = 1 := by rw [← hx, pk_us]
  have kf4 : s (12 + 6 * f + 4) = 1 := by rw [← hx, pk_un (by omega), pk_us]
  have hstS : stF s f = true := by unfold stF; rw [k _ (by omega) (by omega) (by omega) (by omega) (by omega) (by omega)]; exact hst
  have hG : GI n es fl [] ft1 er eb li' st rd (nI f) (nI f) true sh (tb + 1) s B := by
    refine ⟨⟨f2.cong (fun i hi j hj => ?_), hE, l2.cong (fun x hxm => ?_), hSt⟩, ⟨by rw [k 11 (by decide) (by decide) (by decide) (by decide) (by omega) (by omega)]; exact e11, by rw [k 3 (by decide) (by decide) (by decide) (by decide) (by omega) (by omega)]; exact e3, k4.symm, k7.symm, by rw [k 2 (by decide) (by decide) (by decide) (by decide) (by omega) (by omega)]; exact e2, by rw [k9, e9]⟩, ?_, ?_, ?_, ?_, ?_, ?_, ?_, ?_, ?_⟩
    · by_cases e : 12 + 6 * i + j = 12 + 6 * f + 3
      · rw [e, kf3, pk_us]
      · rw [pk_un e, k _ (by omega) (by omega) (by omega) (by omega) e (by omega)]
    · have hxn := hfl x hxm
      by_cases e : 12 + 6 * x + 4 = 12 + 6 * f + 4
      · rw [e, kf4, pk_us]
      · rw [pk_un e, k _ (by omega) (by omega) (by omega) (by omega) (by omega) e]
    · intro x hx e
      have hxf : x = f := ((nI_inj (by omega) (by omega)).mp (k4.symm.trans e)).symm
      subst hxf
      rw [k5, k _ (by omega) (by omega) (by omega) (by omega) (by omega) (by omega), h5]
      rfl
    · exact hN.cong (k 0 (by decide) (by decide) (by decide) (by decide) (by omega) (by omega))
    · exact hKE.cong (k 1 (by decide) (by decide) (by decide) (by decide) (by omega) (by omega)) (k 10 (by decide) (by decide) (by decide) (by decide) (by omega) (by omega)) (k 11 (by decide) (by decide) (by decide) (by decide) (by omega) (by omega)) (fun q _ _ => k q (by omega) (by omega) (by omega) (by omega) (by omega) (by omega))
    · refine ⟨⟨by rw [k 6 (by decide) (by decide) (by decide) (by decide) (by omega) (by omega)]; exact hKL.1.1, hKL.1.2.1, fun j x hj => by rw [k _ (by omega) (by omega) (by omega) (by omega) (by omega) (by omega)]; exact hKL.1.2.2 j x hj⟩, hKL.2.1, hKL.2.2.1, fun x hx hm => ?_⟩
      rw [k _ (by omega) (by omega) (by omega) (by omega) (by omega) (by have : x ≠ f := fun e => hm (e ▸ hf); omega)]
      exact hKL.2.2.2 x hx hm
    · intro x hx
      by_cases e : x = f
      · subst e
        rw [kf4]
        exact ⟨fun q => absurd q (by decide), fun q => absurd q (by decide)⟩
      · rw [k _ (by omega) (by omega) (by omega) (by omega) (by omega) (by omega), k _ (by omega) (by omega) (by omega) (by omega) (by omega) (by omega)]
        exact hKD x hx
    · exact hKS.cong (k 8 (by decide) (by decide) (by decide) (by decide) (by omega) (by omega)) (fun q _ _ => k q (by omega) (by omega) (by omega) (by omega) (by omega) (by omega))
    · exact hKR.cong (k 3 (by decide) (by decide) (by decide) (by decide) (by omega) (by omega))
    · exact hKF.cong (fun x hx => ⟨k _ (by omega) (by omega) (by omega) (by omega) (by omega) (by omega), k _ (by omega) (by omega) (by omega) (by omega) (by omega) (by omega)⟩)
    · exact ⟨Or.inr ⟨f, hf, k4⟩, fun e => absurd rfl e, Or.inr ⟨f, hfn, k7⟩⟩
  obtain ⟨es2, ft2, er2, s2', c1, m1, hG2⟩ := g_poison hG hfn hstS hfu
  have hF2 := hG2.1.1
  have hE2 := hG2.1.2.1
  have hM2 := hG2.2.2.2.2.1.1
  have ct := c_stands hF2 hfn
  have mt := m_stands' s2' (show f < 10 by omega)
  have cp := c_psum (fu := fu) (nI f) 4 hE2 (by omega)
  have mp := m_psum (fu := fu) (nI f) 4 hM2 (by omega)
  have C0 : fX1_beginTurn_J19 fu sh ft er li rd tu la dl tb (nI f) = (if bI (stF s2' f) = 0 then some (nI f, ft2, er2, li', rd, (-1 : Int32), nI f, true, tb + 1) else if psumF (nI f) 4 es2 0 ≤ 0 then some (nI f, ft2, er2, li', rd, nI f, nI f, true, tb + 1) else (fX1_endTurn fu er2 (nI f)).bind fun x7 => some (nI f, ft2, x7.2.1, li', rd, x7.2.2, nI f, true, tb + 1)) := by
    rw [fX1_beginTurn_J19, if_neg hne, fX1_takeTurn, p2]
    simp only [Option.bind_some, l1, f1, c1, ct, cp]
  have M0 : fX6_begins_J32 fu sa (nI f) = (if bI (stF s2' f) = 0 then some (nI f, upd s2' 4 (-1)) else if psumF (nI f) 4 es2 0 ≤ 0 then some (nI f, s2') else (fX6_ends fu s2').bind fun x7 => if 0 ≤ x7.1 then some (nI f, upd x7.2 4 (-1)) else some (nI f, upd x7.2 4 (nI f))) := by
    rw [fX6_begins_J32, if_neg hne]
    simp only [q9, g9, q7, g7, q5, g5, q4, g4, if_true, hy, s1, s2, Option.bind_some, m1, mt, mp]
  rw [C0, M0]
  by_cases z : bI (stF s2' f) = 0
  · rw [if_pos z, if_pos z]
    exact ⟨es2, ft2, er2, li', -1, _, rfl, rfl, g_off hG2⟩
  · rw [if_neg z, if_neg z]
    by_cases z2 : psumF (nI f) 4 es2 0 ≤ 0
    · rw [if_pos z2, if_pos z2]
      exact ⟨es2, ft2, er2, li', _, _, rfl, rfl, hG2⟩
    · rw [if_neg z2, if_neg z2]
      obtain ⟨er3, s3, m, d1, d2, d3, d4, d5⟩ := g_end hG2 hfu
      rw [d1, d2]
      simp only [Option.bind_some, if_pos (nI_pos' (show m < 2 ^ 31 by omega)), upd_id d5]
      exact ⟨_, ft2, er3, li', -1, s3, rfl, rfl, d4⟩
