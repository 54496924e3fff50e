theorem c_carry {fu : Nat} {li : Tab} {sa : Nat → Int32} {fl : List Nat} {k f p : Nat} {la : Int32} (h : LC li sa fl) (hk : fl[k]? = some f) (hnd : fl.Nodup) (hp : p ≤ (fl.eraseIdx k).length) (hfu : 2000 < fu) :
    ∃ x4 x6 x7, fX4_remove li (nI k) = some x4 ∧ fX1_placeOf fu x4 la = some (plX la (fl.eraseIdx k) 0) ∧ fX4_insert fu x4 (nI p) = some x6 ∧ fX4_put x6 (nI p) 0 (nI f) = some x7 ∧ LC x7 (upd sa (12 + 6 * f + 4) 0) ((fl.eraseIdx k).insertIdx p f) := by
  have hkl := tl_lt hk
  have hle := h.le
  have hel : (fl.eraseIdx k).length + 1 = fl.length := by rw [List.length_eraseIdx, if_pos hkl]; omega
  obtain ⟨x4, a1, a2⟩ := t_remove h d2 (i := k) (by rw [List.length_map]; exact hkl)
  rw [← er_map] at a2
  have h4 : LC x4 sa (fl.eraseIdx k) := a2
  obtain ⟨x6, b1, b2⟩ := t_insert (fu := fu) a2 d2 (i := p) (by rw [List.length_map]; exact hp) (by rw [List.length_map]; omega) (by omega)
  obtain ⟨x7, c1, c2⟩ := t_put (v := nI f) b2 d2 (ins_at _ p _ (by rw [List.length_map]; exact hp)) (show 0 < 2 by decide)
  rw [ins_set _ p _ _ (by rw [List.length_map]; exact hp)] at c2
  refine ⟨x4, x6, x7, a1, c_plX la h4 (by omega), b1, c1, ?_⟩
  unfold LC
  rw [ins_map, List.map_congr_left (g := fun f => [nI f, sa (12 + 6 * f + 4)]) (fun x hx => by rw [pk_un (by have := ((er_mem hk hnd).mp hx).2; omega)]), pk_us]
  exact c2
theorem m_carry {fu n : Nat} {sa : Nat → Int32} {fl : List Nat} {k f p : Nat} (h : KL n fl sa) (hk : fl[k]? = some f) (hp : p ≤ (fl.eraseIdx k).length) (hpe : plX (sa 7) (fl.eraseIdx k) 0 + 1 = nI p) (hfu : 2000 < fu) :
    ∃ sa', fX6_carry fu sa (nI f) = some sa' ∧ LM sa' ((fl.eraseIdx k).insertIdx p f) ∧ ∀ q, q ≠ 6 → (q < 72 ∨ 82 ≤ q) → sa' q = sa q := by
  have hkl := tl_lt hk
  obtain ⟨⟨h6, hle, hc⟩, hLN, hnd, -⟩ := h
  have hel : (fl.eraseIdx k).length + 1 = fl.length := by rw [List.length_eraseIdx, if_pos hkl]; omega
  have hn := hLN.1
  have hne : ∀ q, q < fl.length → q ≠ k → ¬ sa (72 + q) = nI f := fun q hq hqk e => by
    have hx := List.getElem?_eq_getElem hq
    rw [hc q _ hx] at e
    have hxn := hLN.2 _ (List.mem_of_getElem? hx)
    have hfn := hLN.2 _ (List.mem_of_getElem? hk)
    rw [(nI_inj (by omega) (by omega)).mp e] at hx
    exact hqk ((List.getElem?_inj hq hnd).mp (hx.trans hk.symm))
  obtain ⟨m, hm⟩ : ∃ m, fu = (m + 1) + k := ⟨fu - k - 1, by omega⟩
  have e1 : fX6_carry fu sa (nI f) = fX6_carry_L4 fu (nI f) (m + 1) sa (nI k) (nI k) := by
    have := m_car1 (fu := fu) (f := f) hle hkl h6 (fun q hq => hne q (by omega) (by omega)) k 0 (m + 1) (by omega)
    rw [← hm] at this
    rw [fX6_carry]
    exact this
  obtain ⟨s1, i1, i2⟩ := m_car2 (fu := fu) (f := f) hle (fl.length - (k + 1)) k m sa (by omega) (by omega) h6 (fun q a b => hne q b (by omega))
  have e2 : fX6_carry_L4 fu (nI f) (m + 1) sa (nI k) (nI k) = carT fu (nI f) s1 := by
    rw [fX6_carry_L4]
    simp only [q6, g6, if_true, ofL]
    rw [h6, if_neg (nge hkl (by omega)), gd (72 + k) rfl (by omega) (by decide), gd (72 + k) rfl (by omega) (by decide), nI_clamp (show 72 + k < 2 ^ 31 by omega), if_pos (hc k f hk), upd_id rfl, nS, Int32.add_zero]
    exact i1
  have s16 : s1 6 = nI fl.length := by rw [i2, if_neg (by omega), h6]
  have s17 : s1 7 = sa 7 := by rw [i2, if_neg (by omega)]
  have e3 : nI fl.length - 1 = nI (fl.eraseIdx k).length := by rw [← hel]; exact nI_pred _
  have hM1 : LM (upd s1 6 (nI (fl.eraseIdx k).length)) (fl.eraseIdx k) := by
    refine ⟨pk_us, by omega, fun q x hx => ?_⟩
    have hql := tl_lt hx
    rw [List.getElem?_eraseIdx] at hx
    rw [pk_un (by omega), i2]
    by_cases hqk : q < k
    · rw [if_pos hqk] at hx
      rw [if_neg (by omega)]
      exact hc q x hx
    · rw [if_neg hqk] at hx
      rw [if_pos (by omega)]
      exact hc (q + 1) x hx
  obtain ⟨sa', j1, j2, j3⟩ := m_car3 (fu := fu) (f := f) ((fl.eraseIdx k).length - p) p fu (upd s1 6 (nI (fl.eraseIdx k).length)) (fl.eraseIdx k).length (by omega) (by omega) pk_us
  refine ⟨sa', ?_, ⟨by rw [j2, ins_len hp], by rw [ins_len hp]; omega, fun q x hx => ?_⟩, fun q a b => ?_⟩
  · rw [e1, e2, carT, s16, e3, s17, m_plX _ hM1 (by omega), Option.bind_some, hpe]
    rw [show p + ((fl.eraseIdx k).length - p) = (fl.eraseIdx k).length by omega] at j1
    exact j1
  · have hql := tl_lt hx
    rw [ins_len hp] at hql
    rw [ins_get _ _ _ hp] at hx
    rw [j3 _ (by omega)]
    by_cases h1 : q = p
    · rw [if_neg (by omega), if_pos h1] at hx
      cases hx
      rw [if_pos (by omega)]
    · rw [if_neg (by omega)]
      by_cases h2 : q < p
      · rw [if_pos h2] at hx
        rw [if_neg (by omega)]
        exact hM1.2.2 q x hx
      · rw [if_neg h2, if_neg h1] at hx
        rw [if_pos (by omega), show 72 + q - 1 = 72 + (q - 1) by omega]
        exact hM1.2.2 (q - 1) x hx
  · rw [j3 q a, if_neg (by omega), if_neg (by omega), pk_un a, i2, if_neg (by omega)]
theorem g_comeJ {n : Nat} {es : List Row} {fl fl1 : List Nat} {ft er : Tab} {eb : Int32} {li li1 st : Tab} {rd tu la : Int32} {dl : Bool} {sh tb : Int32} {sa s1 X : Nat → Int32} {B fu f : Nat} (h : GI n es fl [] ft er eb li st rd tu la dl sh tb sa B) (hf : f < n) (h4 : sa (12 + 6 * f + 4) = 2) (hfu : 2000 < fu)
    (hL1 : LC li1 X fl1) (hX : ∀ x, x < n → x ≠ f → X (12 + 6 * x + 4) = sa (12 + 6 * x + 4)) (hM1 : LM s1 fl1) (hnd : fl1.Nodup) (hmem : ∀ x, x ∈ fl1 ↔ x ∈ fl) (hfm : f ∈ fl1) (ks : ∀ q, q ≠ 6 → (q < 72 ∨ 82 ≤ q) → s1 q = sa q) :
    ∃ r li' sa', fX1_resumeTurn_J49 fu (nI f) li1 tu la dl = some (r, li', nI f, nI f, false) ∧ fX6_comesIn_J16 fu (nI f) s1 = some (r, sa') ∧ GI n es fl1 [] ft er eb li' st rd (nI f) (nI f) false sh tb sa' B := by
  obtain ⟨⟨hF, hE, hL, hSt⟩, ⟨e11, e3, e4, e7, e2, e9⟩, hV, hN, hKE, hKL, hKD, hKS, hKR, hKF, hKT⟩ := h
  have hn := hN.2
  have hfl : ∀ x, x ∈ fl1 → x < n := fun x hx => hKL.2.1.2 x ((hmem x).mp hx)
  have hLN1 : LN fl1 n := ⟨hn, hfl⟩
  obtain ⟨k0, p1, p2⟩ := plF_yes (i := 0) hfm
  rw [Nat.zero_add] at p1
  have cp : fX1_placeOf fu li1 (nI f) = some (nI k0) := by rw [c_place hL1 hLN1 (by omega) (by omega), p1]
  obtain ⟨li3, l1, l2⟩ := hL1.put (v := 1) p2 hnd
  have cp3 : fX1_placeOf fu li3 (nI f) = some (nI k0) := by rw [c_place l2 hLN1 (by omega) (by omega), p1]
  generalize hy : upd (upd (upd s1 7 (nI f)) 4 (nI f)) 5 0 = y
  have s2 : fX6_set y (nI f) 4 1 = some (upd y (12 + 6 * f + 4) 1) := m_set y _ (by omega) (show 4 < 6 by decide)
  generalize hx : upd y (12 + 6 * f + 4) 1 = s at s2
  have k : ∀ q, q ≠ 4 → q ≠ 5 → q ≠ 7 → q ≠ 6 → (q < 72 ∨ 82 ≤ q) → q ≠ 12 + 6 * f + 4 → s q = sa q := fun q a b c d e g => by rw [← hx, pk_un g, ← hy, pk_un b, pk_un a, pk_un c, ks q d e]
  have k4 : s 4 = nI f := by rw [← hx, pk_un (by omega), ← hy, pk_un (by decide), pk_us]
  have k5 : s 5 = 0 := by rw [← hx, pk_un (by omega), ← hy, pk_us]
  have k7 : s 7 = nI f := by rw [← hx, pk_un (by omega), ← hy, pk_un (by decide), pk_un (by decide), pk_us]
  have k6 : ∀ q, q = 6 ∨ (72 ≤ q ∧ q < 82) → s q = s1 q := fun q d => by rw [← hx, pk_un (by omega), ← hy, pk_un (by omega), pk_un (by omega), pk_un (by omega)]
  have kf4 : s (12 + 6 * f + 4) = 1 := by rw [← hx, pk_us]
  have hMs : LM s fl1 := ⟨by rw [k6 6 (Or.inl rfl)]; exact hM1.1, hM1.2.1, fun j x hj => by rw [k6 _ (Or.inr (by have := tl_lt hj; have := hM1.2.1; omega))]; exact hM1.2.2 j x hj⟩
  have mp : fX6_placeOf fu s (nI f) = some (nI k0) := by rw [m_place hMs hLN1 (by omega) (by omega), p1]
  have h5 := (hKD f hf).2 h4
  refine ⟨nI k0, li3, s, ?_, ?_, ⟨⟨hF.cong (fun i hi j hj => k _ (by omega) (by omega) (by omega) (by omega) (by omega) (by omega)), hE, l2.cong (fun x hxm => ?_), hSt⟩, ⟨by rw [k 11 (by decide) (by decide) (by decide) (by decide) (by decide) (by omega)]; exact e11, by rw [k 3 (by decide) (by decide) (by decide) (by decide) (by decide) (by omega)]; exact e3, k4.symm, k7.symm, by rw [k 2 (by decide) (by decide) (by decide) (by decide) (by decide) (by omega)]; exact e2, by rw [k 9 (by decide) (by decide) (by decide) (by decide) (by decide) (by omega)]; exact e9⟩, ?_, ?_, ?_, ?_, ?_, ?_, ?_, ?_, ?_⟩⟩
  · rw [fX1_resumeTurn_J49, fX1_takeTurn, cp]
    simp only [Option.bind_some, l1, cp3]
  · rw [fX6_comesIn_J16]
    simp only [q7, g7, q4, g4, q5, g5, if_true, hy, s2, Option.bind_some, mp]
  · have hxn := hfl x hxm
    by_cases e : x = f
    · subst e; rw [kf4, pk_us]
    · rw [pk_un (by omega), hX x hxn e, k _ (by omega) (by omega) (by omega) (by omega) (by omega) (by omega)]
  · intro x hx e
    have hxf : x = f := ((nI_inj (by omega) (by omega)).mp (k4.symm.trans e)).symm
    subst hxf
    rw [k (12 + 6 * x + 5) (by omega) (by omega) (by omega) (by omega) (by omega) (by omega), h5]
    exact (decide_eq_false (fun q => absurd q.2 (by decide))).symm
  · exact hN.cong (k 0 (by decide) (by decide) (by decide) (by decide) (by decide) (by omega))
  · exact hKE.cong (k 1 (by decide) (by decide) (by decide) (by decide) (by decide) (by omega)) (k 10 (by decide) (by decide) (by decide) (by decide) (by decide) (by omega)) (k 11 (by decide) (by decide) (by decide) (by decide) (by decide) (by omega)) (fun q _ _ => k q (by omega) (by omega) (by omega) (by omega) (by omega) (by omega))
  · refine ⟨hMs, hLN1, hnd, fun x hx hm => ?_⟩
    rw [k _ (by omega) (by omega) (by omega) (by omega) (by omega) (by have : x ≠ f := fun e => hm (e ▸ hfm); omega)]
    exact hKL.2.2.2 x hx (fun q => hm ((hmem x).mpr q))
  · intro x hx
    by_cases e : x = f
    · subst e
      rw [kf4]
      exact ⟨fun q => absurd q (by decide), fun q => absurd q (by decide)⟩
    · rw [k _ (by omega) (by omega) (by omega) (by omega) (by omega) (by omega), k _ (by omega) (by omega) (by omega) (by omega) (by omega) (by omega)]
      exact hKD x hx
  · exact hKS.cong (k 8 (by decide) (by decide) (by decide) (by decide) (by decide) (by omega)) (fun q _ _ => k q (by omega) (by omega) (by omega) (by omega) (by omega) (by omega))
  · obtain ⟨R, r1, r2, r3⟩ := hKR
    refine ⟨R, r1, by rw [k 3 (by decide) (by decide) (by decide) (by decide) (by decide) (by omega)]; exact r2, fun q => ?_⟩
    have hff := (hmem f).mp hfm
    rw [r3 q] at hff; cases hff
  · exact hKF.cong (fun x hx => ⟨k _ (by omega) (by omega) (by omega) (by omega) (by omega) (by omega), k _ (by omega) (by omega) (by omega) (by omega) (by omega) (by omega)⟩)
  · exact ⟨Or.inr ⟨f, hfm, k4⟩, fun e => absurd rfl e, Or.inr ⟨f, hf, k7⟩⟩
theorem g_comeIn {n : Nat} {es : List Row} {fl : List Nat} {ft er : Tab} {eb : Int32} {li st : Tab} {rd tu la : Int32} {dl : Bool} {sh tb : Int32} {sa : Nat → Int32} {B fu f : Nat} (h : GI n es fl [] ft er eb li st rd tu la dl sh tb sa B) (hf : f < n) (h4 : sa (12 + 6 * f + 4) = 2) (hfu : 2000 < fu) :
    ∃ r li' fl' sa', fX1_resumeTurn fu li tu la dl (nI f) = some (r, li', nI f, nI f, false) ∧ fX6_comesIn fu sa (nI f) = some (r, sa') ∧ GI n es fl' [] ft er eb li' st rd (nI f) (nI f) false sh tb sa' B := by
  have hG := h
  obtain ⟨⟨hF, hE, hL, hSt⟩, ⟨e11, e3, e4, e7, e2, e9⟩, hV, hN, hKE, hKL, hKD, hKS, hKR, hKF, hKT⟩ := h
  have hn := hN.2
  have hfm : f ∈ fl := Classical.byContradiction (fun q => by rw [hKL.2.2.2 f hf q] at h4; exact absurd h4 (by decide))
  by_cases z : nI f = la
  · obtain ⟨r, li', sa', a, b, c⟩ := g_comeJ hG hf h4 hfu hL (fun _ _ _ => rfl) hKL.1 hKL.2.2.1 (fun _ => Iff.rfl) hfm (fun _ _ _ => rfl)
    refine ⟨r, li', fl, sa', ?_, ?_, c⟩
    · rw [fX1_resumeTurn, if_pos z]; exact a
    · rw [fX6_comesIn]
      simp only [q7, g7, if_true]
      rw [if_pos (by rw [← e7]; exact z.symm)]; exact b
  · obtain ⟨k, k1, k2, -⟩ := hKL.place hL hfm (show 30 < fu by omega)
    obtain ⟨p, p1, p2⟩ := plX_next (x := la) (fl.eraseIdx k)
    obtain ⟨x4, x6, x7, c1, c2, c3, c4, c5⟩ := c_carry (la := la) hL k1 hKL.2.2.1 p1 hfu
    obtain ⟨s1, m1, m2, m3⟩ := m_carry (fu := fu) hKL k1 p1 (by rw [← e7]; exact p2) hfu
    have hmem : ∀ x, x ∈ (fl.eraseIdx k).insertIdx p f ↔ x ∈ fl := fun x => by
      rw [ins_mem p1, er_mem k1 hKL.2.2.1]
      constructor
      · rintro (e | e)
        · rw [e]; exact hfm
        · exact e.1
      · intro e
        by_cases q : x = f
        · exact Or.inl q
        · exact Or.inr ⟨e, q⟩
    have hnd : ((fl.eraseIdx k).insertIdx p f).Nodup := by
      refine ((List.perm_insertIdx f _ p1).nodup_iff).mpr (List.nodup_cons.mpr ⟨fun q => ((er_mem k1 hKL.2.2.1).mp q).2 rfl, hKL.2.2.1.sublist (List.eraseIdx_sublist _ _)⟩)
    obtain ⟨r, li', sa', a, b, c⟩ := g_comeJ hG hf h4 hfu c5 (fun x hx hne => pk_un (by omega)) m2 hnd hmem ((hmem f).mpr hfm) m3
    refine ⟨r, li', _, sa', ?_, ?_, c⟩
    · rw [fX1_resumeTurn, if_neg z, k2]
      simp only [Option.bind_some, c1, c2, p2, c3, c4]
      exact a
    · rw [fX6_comesIn]
      simp only [q7, g7, if_true]
      rw [if_neg (by rw [← e7]; exact fun q => z q.symm), m1]; exact b
