/-! fighters -/
def frow (sa : Nat → Int32) (i : Nat) : Row := [sa (12 + 6 * i), sa (12 + 6 * i + 1), sa (12 + 6 * i + 2), sa (12 + 6 * i + 3)]
def frows (sa : Nat → Int32) (n : Nat) : List Row := (List.range n).map (frow sa)
def FC (ft : Tab) (sa : Nat → Int32) (n : Nat) : Prop := TL 4 10 ft (frows sa n) ∧ n ≤ 10
theorem d4 : TD 4 10 := ⟨by decide, by decide, by decide⟩
theorem frows_len (sa : Nat → Int32) (n : Nat) : (frows sa n).length = n := by simp [frows]
theorem frows_at {sa : Nat → Int32} {n i : Nat} (hi : i < n) : (frows sa n)[i]? = some (frow sa i) := by
  simp [frows, hi]
theorem frow_get {sa : Nat → Int32} {i j : Nat} (hj : j < 4) : gD (frow sa i) j = sa (12 + 6 * i + j) := by
  match j, hj with
  | 0, _ => rfl
  | 1, _ => rfl
  | 2, _ => rfl
  | 3, _ => rfl
theorem FC.cnt {ft : Tab} {sa : Nat → Int32} {n : Nat} (h : FC ft sa n) : fX4_count ft = some (nI n) := by
  rw [t_count h.1, frows_len]
theorem FC.at {ft : Tab} {sa : Nat → Int32} {n i j : Nat} (h : FC ft sa n) (hi : i < n) (hj : j < 4) : fX4_at ft (nI i) (nI j) = some (sa (12 + 6 * i + j)) := by
  rw [t_at h.1 d4 (frows_at hi) hj, frow_get hj]
theorem frows_cong {sa sa' : Nat → Int32} {n : Nat} (h : ∀ i, i < n → ∀ j, j < 4 → sa' (12 + 6 * i + j) = sa (12 + 6 * i + j)) : frows sa' n = frows sa n := by
  unfold frows
  apply List.map_congr_left
  intro i hi
  have hi := List.mem_range.mp hi
  unfold frow
  rw [show sa' (12 + 6 * i) = sa (12 + 6 * i) from h i hi 0 (by decide), h i hi 1 (by decide), h i hi 2 (by decide), h i hi 3 (by decide)]
theorem FC.cong {ft : Tab} {sa sa' : Nat → Int32} {n : Nat} (h : FC ft sa n) (hc : ∀ i, i < n → ∀ j, j < 4 → sa' (12 + 6 * i + j) = sa (12 + 6 * i + j)) : FC ft sa' n := ⟨by rw [frows_cong hc]; exact h.1, h.2⟩
theorem FC.put {ft : Tab} {sa : Nat → Int32} {n i j : Nat} {v : Int32} (h : FC ft sa n) (hi : i < n) (hj : j < 4) : ∃ ft', fX4_put ft (nI i) (nI j) v = some ft' ∧ FC ft' (upd sa (12 + 6 * i + j) v) n := by
  obtain ⟨T', g1, g2⟩ := t_put (v := v) h.1 d4 (frows_at hi) hj
  refine ⟨T', g1, ?_, h.2⟩
  have e : frows (upd sa (12 + 6 * i + j) v) n = (frows sa n).set i ((frow sa i).set j v) := by
    apply List.ext_getElem?
    intro k
    rcases Nat.lt_or_ge k n with hk | hk
    · rw [frows_at hk, List.getElem?_set]
      by_cases hik : i = k
      · subst hik
        rw [if_pos rfl, if_pos (by rw [frows_len]; exact hi)]
        congr 1
        unfold frow
        match j, hj with
        | 0, _ => simp [pk_us, pk_un]
        | 1, _ => simp [pk_us, pk_un]
        | 2, _ => simp [pk_us, pk_un]
        | 3, _ => simp [pk_us, pk_un]
      · rw [if_neg hik, frows_at hk]
        congr 1
        unfold frow
        rw [pk_un (by omega), pk_un (by omega), pk_un (by omega), pk_un (by omega)]
    · rw [List.getElem?_eq_none (by rw [frows_len]; exact hk), List.getElem?_eq_none (by rw [List.length_set, frows_len]; exact hk)]
  rw [e]; exact g2
/-! harm -/
def hurtE (sh : Int32) (es : List Row) (i lf w : Nat) : List Row := if lf ≤ w then es.filter (keepF (nI i)) else if nI w < sh then es else stopF (nI i) es
/-- as effKeep, over a life that was set -/
def hurtKeep (sa sa' : Nat → Int32) (i : Nat) (v : Int32) : Prop := effKeep (upd sa (12 + 6 * i + 2) v) sa'
theorem nI_sub {a b : Nat} (h : b ≤ a) : nI a - nI b = nI (a - b) := pk_sub h
theorem c_harm {fu : Nat} {ft er : Tab} {sa : Nat → Int32} {n i lf w : Nat} {es : List Row} {sh : Int32} (hF : FC ft sa n) (hE : EC er es) (hi : i < n) (hlf : sa (12 + 6 * i + 2) = nI lf) (hl : lf ≤ 200) (hw : w ≤ 1000) (hf : 30 < fu) :
    ∃ ft' er', fX1_harm fu ft er sh (nI i) (nI w) = some (ft', er') ∧ FC ft' (upd sa (12 + 6 * i + 2) (nI (lf - w))) n ∧ EC er' (hurtE sh es i lf w) := by
  have e2 : fX4_at ft (nI i) 2 = some (nI lf) := by rw [← hlf]; exact hF.at hi (by decide)
  have em : (if nI lf < nI w then nI lf else nI w) = nI (if lf < w then lf else w) := by
    by_cases q : lf < w
    · rw [if_pos (nI_lt q (by omega)), if_pos q]
    · rw [if_neg (nI_nlt (by omega) (by omega)), if_neg q]
  have es' : nI lf - nI (if lf < w then lf else w) = nI (lf - w) := by
    rw [nI_sub (by split <;> omega)]; congr 1; split <;> omega
  obtain ⟨ft', p1, p2⟩ := hF.put (v := nI (lf - w)) hi (show 2 < 4 by decide)
  have p1 : fX4_put ft (nI i) 2 (nI (lf - w)) = some ft' := p1
  rw [fX1_harm]
  simp only [e2, em, es', p1, Option.bind_some]
  unfold hurtE
  by_cases q : lf ≤ w
  · obtain ⟨er', f1, f2⟩ := c_fall (nI i) hE hf
    refine ⟨ft', er', ?_, p2, by rw [if_pos q]; exact f2⟩
    rw [if_neg (nI_nlt (by split <;> omega) (by split <;> omega))]
    simp only [f1, Option.bind_some]
  · have e0 : (if lf < w then lf else w) = w := if_neg (by omega)
    rw [e0, if_pos (nI_lt (by omega) (by omega)), if_neg q]
    by_cases s : nI w < sh
    · refine ⟨ft', er, ?_, p2, by rw [if_pos s]; exact hE⟩
      rw [if_pos s]
    · obtain ⟨er', f1, f2⟩ := c_stop (nI i) hE hf
      refine ⟨ft', er', ?_, p2, by rw [if_neg s]; exact f2⟩
      rw [if_neg s]
      simp only [f1, Option.bind_some]
theorem EM.cong {sa sa' : Nat → Int32} {es : List Row} (h : EM sa es) (h1 : sa' 1 = sa 1) (h2 : ∀ q, 82 ≤ q → q < 322 → sa' q = sa q) : EM sa' es :=
  ⟨by rw [h1]; exact h.1, h.2.1, fun i r hr => ⟨(h.2.2 i r hr).1, fun j hj => by rw [h2 _ (by omega) (by have := tl_lt hr; have := h.2.1; omega)]; exact (h.2.2 i r hr).2 j hj⟩⟩
theorem nle0 {x : Nat} (h : x ≤ 1000) : nI x ≤ 0 ↔ x = 0 := by
  constructor
  · intro e
    rcases Nat.eq_zero_or_pos x with z | z
    · exact z
    · exact absurd e (nI_nle z (by omega))
  · intro e; rw [e]; decide
theorem m_harmJ {fu : Nat} {sa : Nat → Int32} {n i lf w : Nat} {es : List Row} (hE : EM sa es) (hi : i < n) (hn : n ≤ 10) (hlf : sa (12 + 6 * i + 2) = nI lf) (hl0 : 0 < lf) (hl : lf ≤ 200) (hw : w ≤ 1000) (hf : 300 < fu) :
    ∃ sa', fX6_harm_J16 fu (nI i) sa (nI w) = some sa' ∧ EM sa' (hurtE (sa 2) es i lf w) ∧ endSum sa' (hurtE (sa 2) es i lf w).length = endSum sa es.length ∧ hurtKeep sa sa' i (nI (lf - w)) := by
  have e2 : fX6_of sa (nI i) 2 = some (nI lf) := by rw [← hlf]; exact m_of sa (by omega) (by decide)
  have key : ∀ z : Nat, z = (if lf < w then lf else w) → ∃ sa', fX6_harm_J53 fu (nI i) sa (nI z) = some sa' ∧ EM sa' (hurtE (sa 2) es i lf w) ∧ endSum sa' (hurtE (sa 2) es i lf w).length = endSum sa es.length ∧ hurtKeep sa sa' i (nI (lf - w)) := by
    intro z hz
    have es' : nI lf - nI z = nI (lf - w) := by rw [hz, nI_sub (by split <;> omega)]; congr 1; split <;> omega
    have p1 : fX6_set sa (nI i) 2 (nI (lf - w)) = some (upd sa (12 + 6 * i + 2) (nI (lf - w))) := m_set sa _ (by omega) (by decide)
    have hE1 : EM (upd sa (12 + 6 * i + 2) (nI (lf - w))) es := hE.cong (pk_un (by omega)) (fun q h1 h2 => pk_un (by omega))
    have st : fX6_stands (upd sa (12 + 6 * i + 2) (nI (lf - w))) (nI i) = some (decide (¬ nI (lf - w) ≤ 0)) := by
      rw [m_stands _ (by omega), pk_us]
    have sm : endSum (upd sa (12 + 6 * i + 2) (nI (lf - w))) es.length = endSum sa es.length := by unfold endSum; rw [pk_un (by omega)]
    rw [fX6_harm_J53]
    simp only [e2, es', p1, st, Option.bind_some, q2, g2, if_true, pk_un (show 2 ≠ 12 + 6 * i + 2 by omega)]
    unfold hurtE
    by_cases q : lf ≤ w
    · obtain ⟨sa', f1, f2, f3, f4⟩ := m_fall (nI i) hE1 hf
      refine ⟨sa', ?_, by rw [if_pos q]; exact f2, by rw [if_pos q, f3, sm], f4⟩
      rw [if_pos (bI0.mpr (fun h => h ((nle0 (by omega)).mpr (by omega))))]
      simp only [f1, Option.bind_some]
    · have e0 : z = w := by rw [hz]; exact if_neg (by omega)
      have hne : ¬ bI (decide (¬ nI (lf - w) ≤ 0)) = 0 := fun e => (bI0.mp e) (fun h => by have := (nle0 (by omega)).mp h; omega)
      rw [if_neg q, if_neg hne, e0]
      by_cases s : nI w < sa 2
      · exact ⟨_, by rw [if_pos s], by rw [if_pos s]; exact hE1, by rw [if_pos s]; exact sm, effKeep.refl _⟩
      · obtain ⟨sa', f1, f2, f3, f4⟩ := m_stop (nI i) hE1 hf
        refine ⟨sa', ?_, by rw [if_neg s]; exact f2, ?_, f4⟩
        · rw [if_neg s]
          simp only [f1, Option.bind_some]
        · rw [if_neg s]; exact f3.trans sm
  rw [fX6_harm_J16, if_pos (show (0 : Int32) ≤ nI w from nI_pos' (by omega)), fX6_harm_J29]
  simp only [e2, Option.bind_some]
  by_cases q : lf ≤ w
  · rw [if_pos (nI_le q (by omega))]
    exact key lf (by split <;> omega)
  · rw [if_neg (nI_ge (by omega) (by omega))]
    exact key w (by rw [if_neg (by omega)])
