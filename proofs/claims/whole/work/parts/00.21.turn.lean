/-! turns: ends, delays, begins -/
theorem KE.next {es es' : List Row} {B : Nat} {sa sa' : Nat → Int32} (h : KE es B sa) (hM : EM sa' es') (hs : endSum sa' es'.length = endSum sa es.length) (h11 : sa' 11 = sa 11) (hb : bOk es') (hm : ∀ r', r' ∈ es' → ∃ r, r ∈ es ∧ gD r' 7 = gD r 7 ∧ gD r' 1 = gD r 1 ∧ ((∃ q, 1 ≤ q ∧ q ≤ 20 ∧ gD r 4 = nI q) → ∃ q, 1 ≤ q ∧ q ≤ 20 ∧ gD r' 4 = nI q)) : KE es' B sa' := by
  obtain ⟨-, ⟨-, hp, hl⟩, h3, N, hN1, hN2, hN3⟩ := h
  refine ⟨hM, ⟨hb, fun r' hr' => ?_, fun r' hr' => ?_⟩, by rw [hs, h3, h11], N, hN1, by rw [h11, hN2], fun r' hr' => ?_⟩
  · obtain ⟨r, a, -, c, -⟩ := hm r' hr'; rw [c]; exact hp r a
  · obtain ⟨r, a, -, -, d⟩ := hm r' hr'; exact d (hl r a)
  · obtain ⟨r, a, b, -, -⟩ := hm r' hr'; rw [b]; exact hN3 r a
theorem KE.sub {es es' : List Row} {B : Nat} {sa sa' : Nat → Int32} (h : KE es B sa) (hM : EM sa' es') (hs : endSum sa' es'.length = endSum sa es.length) (h11 : sa' 11 = sa 11) (hb : es'.Sublist es) : KE es' B sa' :=
  h.next hM hs h11 (h.2.1.1.sublist hb) (fun r hr => ⟨r, hb.subset hr, rfl, rfl, id⟩)
theorem g_end {n : Nat} {es : List Row} {fl : List Nat} {ft er : Tab} {eb : Int32} {li st : Tab} {rd tu la : Int32} {dl : Bool} {sh tb : Int32} {sa : Nat → Int32} {B fu : Nat} (h : GI n es fl [] ft er eb li st rd tu la dl sh tb sa B) (hfu : 2000 < fu) :
    ∃ er' sa' m, fX1_endTurn fu er tu = some (nI m, er', -1) ∧ fX6_ends fu sa = some (nI m, sa') ∧ m ≤ 30 ∧ GI n (es.filterMap (cdF tu)) fl [] ft er' eb li st rd (-1) la dl sh tb sa' B ∧ sa' 4 = -1 := by
  obtain ⟨⟨hF, hE, hL, hSt⟩, ⟨e11, e3, e4, e7, e2, e9⟩, hV, hN, hKE, hKL, hKD, hKS, hKR, hKF, hKT⟩ := h
  have hn := hN.2
  have hfl := hKL.2.1.2
  have hM := hKE.1
  have hl := hKE.2.1.2.2
  obtain ⟨er', c1, c2⟩ := c_cd tu hE (show 30 < fu by omega)
  have hM1 : EM (upd sa 4 (-1)) es := hM.cong (pk_un (by decide)) (fun q _ _ => pk_un (by omega))
  obtain ⟨sa', i1, i2, i3, i4⟩ := m_cdL (fu := fu) (f := tu) (s := sa 10) (by omega) es [] fu (upd sa 4 (-1)) (by simpa using hM1) hl (by have := hM.2.1; omega)
  have hes := hM.2.1
  have hlen := cd_len (f := tu) es
  have k : ∀ q, q ≠ 1 → q ≠ 10 → q ≠ 4 → (q < 82 ∨ 322 ≤ q) → sa' q = sa q := fun q a b c d => (i4 q a b d).trans (pk_un c)
  have k4 : sa' 4 = -1 := (i4 4 (by decide) (by decide) (by decide)).trans pk_us
  simp only [List.nil_append] at i2 i3
  have hs0 : endSum (upd sa 4 (-1)) es.length = endSum sa es.length := by unfold endSum; rw [pk_un (by decide)]
  rw [hs0] at i3
  have hr : sa' 10 - sa 10 = nI (es.length - (es.filterMap (cdF tu)).length) := by
    rw [i32_swap i3, nI_sub hlen]
  refine ⟨er', sa', es.length - (es.filterMap (cdF tu)).length, ?_, ?_, by omega, ⟨⟨hF.cong (fun i hi j hj => k _ (by omega) (by omega) (by omega) (by omega)), c2, hL.cong (fun f hf => k _ (by omega) (by omega) (by omega) (by have := hfl f hf; omega)), hSt⟩, ⟨by rw [k 11 (by decide) (by decide) (by decide) (by decide)]; exact e11, by rw [k 3 (by decide) (by decide) (by decide) (by decide)]; exact e3, k4.symm, by rw [k 7 (by decide) (by decide) (by decide) (by decide)]; exact e7, by rw [k 2 (by decide) (by decide) (by decide) (by decide)]; exact e2, by rw [k 9 (by decide) (by decide) (by decide) (by decide)]; exact e9⟩, ?_, ?_, ?_, ?_, ?_, ?_, ?_, ?_, ?_⟩, k4⟩
  · rw [fX1_endTurn, c1]
    simp only [Option.bind_some, nI_sub hlen]
  · rw [fX6_ends]
    simp only [q4, g4, q10, g10, if_true, pk_un (show (10 : Nat) ≠ 4 by decide), ← e4]
    rw [← hr]
    exact i1
  · exact fun f hf e => absurd (k4.symm.trans e).symm (nI_m1 (by omega))
  · exact hN.cong (k 0 (by decide) (by decide) (by decide) (by decide))
  · refine hKE.next i2 i3 (k 11 (by decide) (by decide) (by decide) (by decide)) (cd_b hKE.2.1.1) (fun r' hr' => ?_)
    obtain ⟨r, a, b⟩ := cd_mem hr'
    obtain ⟨x1, x2, x3⟩ := cdF_at b
    obtain ⟨i, hi⟩ := List.mem_iff_getElem?.mp a
    exact ⟨r, a, x1, x2, fun y => x3 y (hM.2.2 i r hi).1⟩
  · exact hKL.cong (k 6 (by decide) (by decide) (by decide) (by decide)) (fun q _ _ => k q (by omega) (by omega) (by omega) (by omega)) (fun f hf => k _ (by omega) (by omega) (by omega) (by omega))
  · exact hKD.cong (fun f hf => ⟨k _ (by omega) (by omega) (by omega) (by omega), k _ (by omega) (by omega) (by omega) (by omega)⟩)
  · exact hKS.cong (k 8 (by decide) (by decide) (by decide) (by decide)) (fun q _ _ => k q (by omega) (by omega) (by omega) (by omega))
  · exact hKR.cong (k 3 (by decide) (by decide) (by decide) (by decide))
  · exact hKF.cong (fun f hf => ⟨k _ (by omega) (by omega) (by omega) (by omega), k _ (by omega) (by omega) (by omega) (by omega)⟩)
  · exact ⟨Or.inl ⟨k4, rfl⟩, fun e => absurd rfl e, by rw [k 7 (by decide) (by decide) (by decide) (by decide)]; exact hKT.2.2⟩
/-- a turn is over, nothing counts down -/
theorem g_off {n : Nat} {es : List Row} {fl : List Nat} {ft er : Tab} {eb : Int32} {li st : Tab} {rd tu la : Int32} {dl : Bool} {sh tb : Int32} {sa : Nat → Int32} {B : Nat} (h : GI n es fl [] ft er eb li st rd tu la dl sh tb sa B) :
    GI n es fl [] ft er eb li st rd (-1) la dl sh tb (upd sa 4 (-1)) B := by
  obtain ⟨⟨hF, hE, hL, hSt⟩, ⟨e11, e3, e4, e7, e2, e9⟩, hV, hN, hKE, hKL, hKD, hKS, hKR, hKF, hKT⟩ := h
  have k : ∀ q, q ≠ 4 → upd sa 4 (-1) q = sa q := fun q c => pk_un c
  refine ⟨⟨hF.cong (fun i hi j hj => k _ (by omega)), hE, hL.cong (fun f hf => k _ (by omega)), hSt⟩, ⟨by rw [k 11 (by decide)]; exact e11, by rw [k 3 (by decide)]; exact e3, pk_us.symm, by rw [k 7 (by decide)]; exact e7, by rw [k 2 (by decide)]; exact e2, by rw [k 9 (by decide)]; exact e9⟩, ?_, ?_, ?_, ?_, ?_, ?_, ?_, ?_, ?_⟩
  · have hn := hN.2
    exact fun f hf e => absurd (pk_us.symm.trans e).symm (nI_m1 (by omega))
  · exact hN.cong (k 0 (by decide))
  · exact hKE.cong (k 1 (by decide)) (k 10 (by decide)) (k 11 (by decide)) (fun q _ _ => k q (by omega))
  · exact hKL.cong (k 6 (by decide)) (fun q _ _ => k q (by omega)) (fun f hf => k _ (by omega))
  · exact hKD.cong (fun f hf => ⟨k _ (by omega), k _ (by omega)⟩)
  · exact hKS.cong (k 8 (by decide)) (fun q _ _ => k q (by omega))
  · exact hKR.cong (k 3 (by decide))
  · exact hKF.cong (fun f hf => ⟨k _ (by omega), k _ (by omega)⟩)
  · exact ⟨Or.inl ⟨pk_us, rfl⟩, fun e => absurd rfl e, by rw [k 7 (by decide)]; exact hKT.2.2⟩
/-- a state in the list is put -/
theorem LC.put {li : Tab} {sa : Nat → Int32} {fl : List Nat} {f k : Nat} {v : Int32} (h : LC li sa fl) (hk : fl[k]? = some f) (hnd : fl.Nodup) : ∃ li', fX4_put li (nI k) 1 v = some li' ∧ LC li' (upd sa (12 + 6 * f + 4) v) fl := by
  have hr : (fl.map (fun f => [nI f, sa (12 + 6 * f + 4)]))[k]? = some [nI f, sa (12 + 6 * f + 4)] := by rw [List.getElem?_map, hk]; rfl
  obtain ⟨T', g1, g2⟩ := t_put (v := v) h d2 hr (show 1 < 2 by decide)
  refine ⟨T', g1, ?_⟩
  have e : fl.map (fun x => [nI x, upd sa (12 + 6 * f + 4) v (12 + 6 * x + 4)]) = (fl.map (fun f => [nI f, sa (12 + 6 * f + 4)])).set k ([nI f, sa (12 + 6 * f + 4)].set 1 v) := by
    apply List.ext_getElem?
    intro j
    rw [List.getElem?_set, List.getElem?_map, List.getElem?_map]
    by_cases hj : k = j
    · subst hj
      rw [if_pos rfl, List.length_map, if_pos (tl_lt hk), hk]
      simp [pk_us]
    · rw [if_neg hj]
      cases hx : fl[j]? with
      | none => rfl
      | some x =>
        have hne : x ≠ f := fun e => by
          rw [e] at hx
          exact hj ((List.getElem?_inj (tl_lt hk) hnd).mp (hk.trans hx.symm))
        simp only [Option.map_some]
        rw [pk_un (by omega)]
  unfold LC
  rw [e]; exact g2
theorem KL.place {n : Nat} {fl : List Nat} {sa : Nat → Int32} {li : Tab} {fu f : Nat} (h : KL n fl sa) (hL : LC li sa fl) (hf : f ∈ fl) (hfu : 30 < fu) : ∃ k, fl[k]? = some f ∧ fX1_placeOf fu li (nI f) = some (nI k) ∧ fX6_placeOf fu sa (nI f) = some (nI k) := by
  have hfn := h.2.1.2 f hf
  have hn := h.2.1.1
  obtain ⟨k, h1, h2⟩ := plF_yes (i := 0) hf
  rw [Nat.zero_add] at h1
  exact ⟨k, h2, by rw [c_place hL h.2.1 (by omega) hfu, h1], by rw [m_place h.1 h.2.1 (by omega) hfu, h1]⟩
theorem g_delay {n : Nat} {es : List Row} {fl : List Nat} {ft er : Tab} {eb : Int32} {li st : Tab} {rd tu la : Int32} {dl : Bool} {sh tb : Int32} {sa : Nat → Int32} {B fu f : Nat} (h : GI n es fl [] ft er eb li st rd tu la dl sh tb sa B) (hf : f ∈ fl) (ht : tu = nI f) (hfu : 2000 < fu) :
    ∃ li' sa', fX1_delayTurn fu li tu = some (tu, li', -1) ∧ fX6_delays sa = some (tu, sa') ∧ GI n es fl [] ft er eb li' st rd (-1) la dl sh tb sa' B := by
  obtain ⟨⟨hF, hE, hL, hSt⟩, ⟨e11, e3, e4, e7, e2, e9⟩, hV, hN, hKE, hKL, hKD, hKS, hKR, hKF, hKT⟩ := h
  have hn := hN.2
  have hfl := hKL.2.1.2
  have hfn := hfl f hf
  obtain ⟨k0, p1, p2, -⟩ := hKL.place hL hf (show 30 < fu by omega)
  obtain ⟨li', l1, l2⟩ := hL.put (v := 2) p1 hKL.2.2.1
  have s1 : fX6_set sa (nI f) 4 2 = some (upd sa (12 + 6 * f + 4) 2) := m_set sa _ (by omega) (show 4 < 6 by decide)
  have s2 : fX6_set (upd sa (12 + 6 * f + 4) 2) (nI f) 5 1 = some (upd (upd sa (12 + 6 * f + 4) 2) (12 + 6 * f + 5) 1) := m_set _ _ (by omega) (show 5 < 6 by decide)
  generalize hx : upd (upd (upd sa (12 + 6 * f + 4) 2) (12 + 6 * f + 5) 1) 4 (-1) = sa'
  have k : ∀ q, q ≠ 12 + 6 * f + 4 → q ≠ 12 + 6 * f + 5 → q ≠ 4 → sa' q = sa q := fun q a b c => by rw [← hx, pk_un c, pk_un b, pk_un a]
  have k4 : sa' 4 = -1 := by rw [← hx, pk_us]
  have kf4 : sa' (12 + 6 * f + 4) = 2 := by rw [← hx, pk_un (by omega), pk_un (by omega), pk_us]
  have kf5 : sa' (12 + 6 * f + 5) = 1 := by rw [← hx, pk_un (by omega), pk_us]
  have kl : ∀ x, x < n → upd sa (12 + 6 * f + 4) 2 (12 + 6 * x + 4) = sa' (12 + 6 * x + 4) := fun x hxn => by
    rw [← hx, pk_un (show 12 + 6 * x + 4 ≠ 4 by omega), pk_un (show 12 + 6 * x + 4 ≠ 12 + 6 * f + 5 by omega)]
  refine ⟨li', sa', ?_, ?_, ⟨hF.cong (fun i hi j hj => k _ (by omega) (by omega) (by omega)), hE, l2.cong (fun x hxm => (kl x (hfl x hxm)).symm), hSt⟩, ⟨by rw [k 11 (by omega) (by omega) (by decide)]; exact e11, by rw [k 3 (by omega) (by omega) (by decide)]; exact e3, k4.symm, by rw [k 7 (by omega) (by omega) (by decide)]; exact e7, by rw [k 2 (by omega) (by omega) (by decide)]; exact e2, by rw [k 9 (by omega) (by omega) (by decide)]; exact e9⟩, ?_, ?_, ?_, ?_, ?_, ?_, ?_, ?_, ?_⟩
  · rw [fX1_delayTurn, ht, p2]
    simp only [Option.bind_some, l1]
  · rw [fX6_delays]
    simp only [q4, g4, if_true, ← e4, ht, s1, s2, Option.bind_some, hx]
  · exact fun x hx e => absurd (k4.symm.trans e).symm (nI_m1 (by omega))
  · exact hN.cong (k 0 (by omega) (by omega) (by decide))
  · exact hKE.cong (k 1 (by omega) (by omega) (by decide)) (k 10 (by omega) (by omega) (by decide)) (k 11 (by omega) (by omega) (by decide)) (fun q _ _ => k q (by omega) (by omega) (by omega))
  · refine ⟨⟨by rw [k 6 (by omega) (by omega) (by decide)]; exact hKL.1.1, hKL.1.2.1, fun j x hj => by rw [k _ (by omega) (by omega) (by omega)]; exact hKL.1.2.2 j x hj⟩, hKL.2.1, hKL.2.2.1, fun x hx hm => ?_⟩
    rw [k _ (by have : x ≠ f := fun e => hm (e ▸ hf); omega) (by omega) (by omega)]
    exact hKL.2.2.2 x hx hm
  · intro x hx
    by_cases e : x = f
    · subst e
      rw [kf4, kf5]
      exact ⟨fun q => absurd q (by decide), fun _ => rfl⟩
    · rw [k _ (by omega) (by omega) (by omega), k _ (by omega) (by omega) (by omega)]
      exact hKD x hx
  · exact hKS.cong (k 8 (by omega) (by omega) (by decide)) (fun q _ _ => k q (by omega) (by omega) (by omega))
  · exact hKR.cong (k 3 (by omega) (by omega) (by decide))
  · exact hKF.cong (fun x hx => ⟨k _ (by omega) (by omega) (by omega), k _ (by omega) (by omega) (by omega)⟩)
  · exact ⟨Or.inl ⟨k4, rfl⟩, fun e => absurd rfl e, by rw [k 7 (by omega) (by omega) (by decide)]; exact hKT.2.2⟩
