/-! the reference: a fighter falls, a turn ends -/
theorem i32_swap {a b c d : Int32} (h : a + b = c + d) : a - c = d - b := by
  rw [← Int32.toBitVec_inj] at h ⊢
  rw [Int32.toBitVec_add, Int32.toBitVec_add] at h
  rw [Int32.toBitVec_sub, Int32.toBitVec_sub]
  bv_omega
theorem EM_upd {sa : Nat → Int32} {es : List Row} {i j : Nat} {r : Row} {v : Int32} (h : EM sa es) (hi : es[i]? = some r) (hj : j < 8) : EM (upd sa (82 + 8 * i + j) v) (es.set i (r.set j v)) := by
  obtain ⟨h1, h2, h3⟩ := h
  have hil := tl_lt hi
  refine ⟨by rw [pk_un (by omega), h1, List.length_set], by rw [List.length_set]; exact h2, fun i' r' hr' => ?_⟩
  rw [List.getElem?_set] at hr'
  by_cases hii : i = i'
  · subst hii
    rw [if_pos rfl, if_pos hil] at hr'
    cases hr'
    obtain ⟨k1, k2⟩ := h3 i r hi
    refine ⟨by rw [List.length_set]; exact k1, fun j' hj' => ?_⟩
    by_cases hjj : j' = j
    · subst hjj
      rw [pk_us, gD_eq, List.getElem?_set, if_pos rfl, if_pos (by omega)]; rfl
    · rw [pk_un (by omega), k2 j' hj', gD_eq, gD_eq, List.getElem?_set, if_neg (fun e => hjj e.symm)]
  · rw [if_neg hii] at hr'
    obtain ⟨k1, k2⟩ := h3 i' r' hr'
    refine ⟨k1, fun j' hj' => ?_⟩
    rw [pk_un (by omega), k2 j' hj']
theorem mid_at {α : Type} (a t : List α) (r : α) : (a ++ r :: t)[a.length]? = some r := by simp
theorem mid_er {α : Type} (a t : List α) (r : α) : (a ++ r :: t).eraseIdx a.length = a ++ t := by
  rw [List.eraseIdx_append_of_length_le (Nat.le_refl _)]; simp
theorem mid_set {α : Type} (a t : List α) (r r' : α) : (a ++ r :: t).set a.length r' = a ++ r' :: t := by
  rw [List.set_append_right _ _ (Nat.le_refl _)]; simp
/-- ended ones and those that are there together -/
def endSum (sa : Nat → Int32) (n : Nat) : Int32 := sa 10 + nI n
theorem m_end_sum {sa sa' : Nat → Int32} {n : Nat} (hn : 0 < n) (h : sa' 10 = sa 10 + 1) : endSum sa' (n - 1) = endSum sa n := by
  unfold endSum
  rw [h, Int32.add_assoc, Int32.add_comm 1, nS, show n - 1 + 1 = n by omega]
theorem m_fallL {fu : Nat} {f : Int32} (hf : 300 < fu) : ∀ (t a : List Row) (k : Nat) (sa : Nat → Int32), EM sa (a ++ t) → t.length < k → ∃ sa', fX6_fall_L2 fu f k sa (nI a.length) = some sa' ∧ EM sa' (a ++ t.filter (keepF f)) ∧ endSum sa' (a ++ t.filter (keepF f)).length = endSum sa (a ++ t).length ∧ effKeep sa sa'
  | [], a, k + 1, sa, h, hk => by
    refine ⟨sa, ?_, by simpa using h, by simp, effKeep.refl sa⟩
    rw [fX6_fall_L2]
    have h1 := h.1
    have h2 := h.2.1
    simp only [List.append_nil] at h1 h2
    simp only [q1, g1, if_true, h1, if_pos (nle (Nat.le_refl a.length) (by omega))]
  | r :: t, a, k + 1, sa, h, hk => by
    have hat := mid_at a t r
    have h1 := h.1
    have h2 := h.2.1
    have hlt : a.length < (a ++ r :: t).length := by simp
    have e2 : fX6_ofEffect sa (nI a.length) 2 = some (gD r 2) := h.at hat (by decide)
    have e3 : fX6_ofEffect sa (nI a.length) 3 = some (gD r 3) := h.at hat (by decide)
    have e5 : fX6_ofEffect sa (nI a.length) 5 = some (gD r 5) := h.at hat (by decide)
    have e6 : fX6_ofEffect sa (nI a.length) 6 = some (gD r 6) := h.at hat (by decide)
    obtain ⟨s1, g1', g2', g3', g4'⟩ := m_end h hlt hf
    rw [mid_er] at g2'
    rw [fX6_fall_L2]
    simp only [q1, g1, if_true, h1, if_neg (nge hlt (by omega)), e2, e3, e5, e6, g1', Option.bind_some, nS]
    rw [List.filter_cons]
    by_cases hkp : keepF f r = true
    · rw [if_pos hkp]
      obtain ⟨sa', i1, i2, i3, i4⟩ := m_fallL (f := f) hf t (a ++ [r]) k sa (by simpa using h) (by simpa using hk)
      have i1 : fX6_fall_L2 fu f k sa (nI (a.length + 1)) = some sa' := by simpa using i1
      refine ⟨sa', ?_, by simpa using i2, by simpa using i3, i4⟩
      simp only [keepF, Bool.not_eq_true', Bool.or_eq_false_iff, Bool.and_eq_false_iff, decide_eq_false_iff_not] at hkp
      obtain ⟨k3, k2⟩ := hkp
      by_cases u6 : gD r 6 = 1 <;> by_cases u5 : gD r 5 = 0 <;> by_cases u2 : gD r 2 = f <;> simp_all
    · rw [if_neg hkp]
      obtain ⟨sa', i1, i2, i3, i4⟩ := m_fallL (f := f) hf t a k s1 g2' (by simpa using hk)
      have hs : endSum s1 (a ++ t).length = endSum sa (a ++ r :: t).length := by
        have := m_end_sum (n := (a ++ r :: t).length) (by omega) g3'
        rw [← this]; simp
      refine ⟨sa', ?_, i2, i3.trans hs, g4'.trans i4⟩
      simp only [keepF, Bool.not_eq_true', Bool.or_eq_false_iff, Bool.and_eq_false_iff, decide_eq_false_iff_not] at hkp
      by_cases u3 : gD r 3 = f <;> by_cases u6 : gD r 6 = 1 <;> by_cases u5 : gD r 5 = 0 <;> by_cases u2 : gD r 2 = f <;> simp_all
theorem m_fall {fu : Nat} {sa : Nat → Int32} {es : List Row} (f : Int32) (h : EM sa es) (hf : 300 < fu) : ∃ sa', fX6_fall fu sa f = some sa' ∧ EM sa' (es.filter (keepF f)) ∧ endSum sa' (es.filter (keepF f)).length = endSum sa es.length ∧ effKeep sa sa' := by
  obtain ⟨sa', i1, i2, i3, i4⟩ := m_fallL (f := f) hf es [] fu sa (by simpa using h) (by have := h.2.1; omega)
  exact ⟨sa', i1, by simpa using i2, by simpa using i3, i4⟩
/-- the turns that are left, of every effect -/
def leftOk (es : List Row) : Prop := ∀ r ∈ es, ∃ q, 1 ≤ q ∧ q ≤ 20 ∧ gD r 4 = nI q
theorem left_cd {r : Row} {q : Nat} (h1 : 1 ≤ q) (h2 : q ≤ 20) (h : gD r 4 = nI q) : (gD r 4 - 1 = 0 ↔ ¬ 0 < gD r 4 - 1) ∧ ¬ gD r 4 = 0 := by
  obtain ⟨n, rfl⟩ : ∃ n, q = n + 1 := ⟨q - 1, by omega⟩
  rw [h, nI_pred]
  constructor
  · constructor
    · intro e; rw [e]; decide
    · intro e
      rcases Nat.eq_zero_or_pos n with z | z
      · rw [z]; rfl
      · exact absurd (show (0 : Int32) < nI n from nI_lt (a := 0) z (by omega)) e
  · exact nI_ne0 (by omega) (by omega)
theorem m_cdL {fu : Nat} {f s : Int32} (hf : 300 < fu) : ∀ (t a : List Row) (k : Nat) (sa : Nat → Int32), EM sa (a ++ t) → leftOk t → t.length < k → ∃ sa', fX6_ends_L24 fu k sa f s (nI a.length) = some (sa' 10 - s, sa') ∧ EM sa' (a ++ t.filterMap (cdF f)) ∧ endSum sa' (a ++ t.filterMap (cdF f)).length = endSum sa (a ++ t).length ∧ effKeep sa sa'
  | [], a, k + 1, sa, h, hl, hk => by
    refine ⟨sa, ?_, by simpa using h, by simp, effKeep.refl sa⟩
    rw [fX6_ends_L24]
    have h1 := h.1
    have h2 := h.2.1
    simp only [List.append_nil] at h1 h2
    simp only [q1, g1, q10, g10, if_true, h1, if_pos (nle (Nat.le_refl a.length) (by omega))]
  | r :: t, a, k + 1, sa, h, hl, hk => by
    have hat := mid_at a t r
    have h1 := h.1
    have h2 := h.2.1
    have hlt : a.length < (a ++ r :: t).length := by simp
    have hle : a.length < 30 := by omega
    obtain ⟨q, b1, b2, b3⟩ := hl r List.mem_cons_self
    obtain ⟨w1, w2⟩ := left_cd b1 b2 b3
    have hl' : leftOk t := fun x hx => hl x (List.mem_cons_of_mem _ hx)
    have c5 : (82 : Int32) + (8 : Int32) * nI a.length + 5 = nI (82 + 8 * a.length + 5) := ofE _ 5
    have c2 : (82 : Int32) + (8 : Int32) * nI a.length + 2 = nI (82 + 8 * a.length + 2) := ofE _ 2
    have c3 : (82 : Int32) + (8 : Int32) * nI a.length + 3 = nI (82 + 8 * a.length + 3) := ofE _ 3
    have c4 : (82 : Int32) + (8 : Int32) * nI a.length + 4 = nI (82 + 8 * a.length + 4) := ofE _ 4
    have v5 := (h.2.2 a.length r hat).2 5 (by decide)
    have v2 := (h.2.2 a.length r hat).2 2 (by decide)
    have v3 := (h.2.2 a.length r hat).2 3 (by decide)
    have v4 := (h.2.2 a.length r hat).2 4 (by decide)
    have gA : ∀ p, p < 8 → (¬ (nI (82 + 8 * a.length + p) < 0 ∨ 378 ≤ 82 + 8 * a.length + p)) = True := fun p hp => gT (by omega) (by decide)
    have gC : ∀ p, p < 8 → (nI (82 + 8 * a.length + p)).toNatClampNeg = 82 + 8 * a.length + p := fun p hp => nI_clamp (by omega)
    have hU := EM_upd (v := gD r 4 - 1) h hat (show 4 < 8 by decide)
    rw [mid_set] at hU
    have hltU : a.length < (a ++ r.set 4 (gD r 4 - 1) :: t).length := by simp
    obtain ⟨s1, g1', g2', g3', g4'⟩ := m_end hU hltU hf
    rw [mid_er] at g2'
    have kU : effKeep sa (upd sa (82 + 8 * a.length + 4) (gD r 4 - 1)) := fun q x1 x2 x3 => pk_un (by omega)
    rw [fX6_ends_L24]
    simp only [q1, g1, if_true, h1, if_neg (nge hlt (by omega)), c5, c2, c3, c4, gA 5 (by decide), gA 2 (by decide), gA 3 (by decide), gA 4 (by decide), gC 5 (by decide), gC 2 (by decide), gC 3 (by decide), gC 4 (by decide), v5, v2, v3, v4, pk_us, g1', Option.bind_some, nS]
    rw [List.filterMap_cons]
    have iA := m_cdL (f := f) (s := s) hf t (a ++ [r]) k sa (by simpa using h) hl' (by simpa using hk)
    have iB := m_cdL (f := f) (s := s) hf t (a ++ [r.set 4 (gD r 4 - 1)]) k _ (by simpa using hU) hl' (by simpa using hk)
    have iC := m_cdL (f := f) (s := s) hf t a k s1 g2' hl' (by simpa using hk)
    have hs : endSum s1 (a ++ t).length = endSum sa (a ++ r :: t).length := by
      have := m_end_sum (n := (a ++ r.set 4 (gD r 4 - 1) :: t).length) (by omega) g3'
      have e9 : endSum (upd sa (82 + 8 * a.length + 4) (gD r 4 - 1)) (a ++ r.set 4 (gD r 4 - 1) :: t).length = endSum sa (a ++ r :: t).length := by
        unfold endSum; rw [pk_un (by omega)]; simp
      rw [← e9, ← this]; simp
    have e9 : endSum (upd sa (82 + 8 * a.length + 4) (gD r 4 - 1)) (a ++ r :: t).length = endSum sa (a ++ r :: t).length := by
      unfold endSum; rw [pk_un (by omega)]
    have KA : ∀ X : Option (Int32 × (Nat → Int32)), X = fX6_ends_L24 fu k sa f s (nI (a.length + 1)) → ∃ sa', X = some (sa' 10 - s, sa') ∧ EM sa' (a ++ r :: t.filterMap (cdF f)) ∧ endSum sa' (a ++ r :: t.filterMap (cdF f)).length = endSum sa (a ++ r :: t).length ∧ effKeep sa sa' := by
      intro X hX
      obtain ⟨sa', j1, j2, j3, j4⟩ := iA
      refine ⟨sa', ?_, by simpa using j2, by simpa using j3, j4⟩
      rw [hX]; simpa using j1
    have KB : ∀ X : Option (Int32 × (Nat → Int32)), X = fX6_ends_L24 fu k (upd sa (82 + 8 * a.length + 4) (gD r 4 - 1)) f s (nI (a.length + 1)) → ∃ sa', X = some (sa' 10 - s, sa') ∧ EM sa' (a ++ r.set 4 (gD r 4 - 1) :: t.filterMap (cdF f)) ∧ endSum sa' (a ++ r.set 4 (gD r 4 - 1) :: t.filterMap (cdF f)).length = endSum sa (a ++ r :: t).length ∧ effKeep sa sa' := by
      intro X hX
      obtain ⟨sa', j1, j2, j3, j4⟩ := iB
      refine ⟨sa', ?_, by simpa using j2, ?_, kU.trans j4⟩
      · rw [hX]; simpa using j1
      · rw [← e9]; simpa using j3
    have KC : ∀ X : Option (Int32 × (Nat → Int32)), X = fX6_ends_L24 fu k s1 f s (nI a.length) → ∃ sa', X = some (sa' 10 - s, sa') ∧ EM sa' (a ++ t.filterMap (cdF f)) ∧ endSum sa' (a ++ t.filterMap (cdF f)).length = endSum sa (a ++ r :: t).length ∧ effKeep sa sa' := by
      intro X hX
      obtain ⟨sa', j1, j2, j3, j4⟩ := iC
      exact ⟨sa', by rw [hX]; exact j1, j2, j3.trans hs, (kU.trans g4').trans j4⟩
    by_cases u5 : gD r 5 = 0
    · by_cases u2 : gD r 2 = f
      · by_cases u4 : 0 < gD r 4 - 1
        · have hc : cdF f r = some (r.set 4 (gD r 4 - 1)) := by rw [cdF, if_pos u5, if_pos u2, if_pos u4]
          rw [hc, if_pos u5, if_pos u2, if_neg (fun e => (w1.mp e) u4)]; exact KB _ rfl
        · have hc : cdF f r = none := by rw [cdF, if_pos u5, if_pos u2, if_neg u4]
          rw [hc, if_pos u5, if_pos u2, if_pos (w1.mpr u4)]; exact KC _ rfl
      · have hc : cdF f r = some r := by rw [cdF, if_pos u5, if_neg u2]
        rw [hc, if_pos u5, if_neg u2, if_neg w2]; exact KA _ rfl
    · by_cases u3 : gD r 3 = f
      · by_cases u4 : 0 < gD r 4 - 1
        · have hc : cdF f r = some (r.set 4 (gD r 4 - 1)) := by rw [cdF, if_neg u5, if_pos u3, if_pos u4]
          rw [hc, if_neg u5, if_pos u3, if_neg (fun e => (w1.mp e) u4)]; exact KB _ rfl
        · have hc : cdF f r = none := by rw [cdF, if_neg u5, if_pos u3, if_neg u4]
          rw [hc, if_neg u5, if_pos u3, if_pos (w1.mpr u4)]; exact KC _ rfl
      · have hc : cdF f r = some r := by rw [cdF, if_neg u5, if_neg u3]
        rw [hc, if_neg u5, if_neg u3, if_neg w2]; exact KA _ rfl
