/-! a fighter that has delayed comes in -/
/-- the place of x -/
def plX (x : Int32) : List Nat → Nat → Int32
  | [], _ => -1
  | y :: t, i => if nI y = x then nI i else plX x t (i + 1)
theorem plX_cases {x : Int32} : ∀ (t : List Nat) (i : Nat), plX x t i = -1 ∨ ∃ j, j < t.length ∧ plX x t i = nI (i + j)
  | [], i => Or.inl rfl
  | y :: t, i => by
    rw [plX]
    by_cases e : nI y = x
    · rw [if_pos e]; exact Or.inr ⟨0, by simp, rfl⟩
    · rw [if_neg e]
      rcases plX_cases t (i + 1) with h | ⟨j, h1, h2⟩
      · exact Or.inl h
      · exact Or.inr ⟨j + 1, by simpa using h1, by rw [h2]; congr 1; omega⟩
theorem plX_next {x : Int32} (t : List Nat) : ∃ p, p ≤ t.length ∧ plX x t 0 + 1 = nI p := by
  rcases plX_cases (x := x) t 0 with h | ⟨j, h1, h2⟩
  · exact ⟨0, Nat.zero_le _, by rw [h]; rfl⟩
  · exact ⟨j + 1, h1, by rw [h2, Nat.zero_add, nS]⟩
theorem c_plXL {fu : Nat} {li : Tab} {sa : Nat → Int32} {fl : List Nat} {x : Int32} (h : LC li sa fl) : ∀ (t : List Nat) (k i : Nat), fl.drop i = t → i ≤ fl.length → t.length < k → fX1_placeOf_L2 fu li x k (nI i) = some (plX x t i)
  | [], k + 1, i, hd, hi, hk => by
    rw [fX1_placeOf_L2]
    simp only [h.cnt, Option.bind_some, if_pos (nle (dr_nil hd) (by have := h.le; omega)), plX]
  | y :: t, k + 1, i, hd, hi, hk => by
    obtain ⟨h1, h2, h3⟩ := dr_cons hd
    have a0 : fX4_at li (nI i) 0 = some (nI y) := h.at0 h1
    have ih := c_plXL (fu := fu) (x := x) h t k (i + 1) h2 h3 (by simpa using hk)
    rw [fX1_placeOf_L2]
    simp only [h.cnt, Option.bind_some, if_neg (nge h3 (by have := h.le; omega)), a0, nS, ih, plX]
    by_cases e : nI y = x
    · rw [if_pos e, if_pos e]
    · rw [if_neg e, if_neg e]
theorem c_plX {fu : Nat} {li : Tab} {sa : Nat → Int32} {fl : List Nat} (x : Int32) (h : LC li sa fl) (hfu : 30 < fu) : fX1_placeOf fu li x = some (plX x fl 0) := c_plXL h fl fu 0 rfl (Nat.zero_le _) (by have := h.le; omega)
theorem m_plXL {fu : Nat} {sa : Nat → Int32} {fl : List Nat} {x : Int32} (h : LM sa fl) : ∀ (t : List Nat) (k i : Nat), fl.drop i = t → i ≤ fl.length → t.length < k → fX6_placeOf_L2 fu sa x k (nI i) = some (plX x t i)
  | [], k + 1, i, hd, hi, hk => by
    rw [fX6_placeOf_L2]
    simp only [q6, g6, if_true, h.1, if_pos (nle (dr_nil hd) (by have := h.2.1; omega)), plX]
  | y :: t, k + 1, i, hd, hi, hk => by
    obtain ⟨h1, h2, h3⟩ := dr_cons hd
    have ih := m_plXL (fu := fu) (x := x) h t k (i + 1) h2 h3 (by simpa using hk)
    have hle := h.2.1
    rw [fX6_placeOf_L2]
    simp only [q6, g6, if_true, h.1, if_neg (nge h3 (by omega)), ofL]
    rw [gd (72 + i) rfl (by omega) (by decide), nI_clamp (show 72 + i < 2 ^ 31 by omega), h.2.2 i y h1, nS, ih, plX]
    by_cases e : nI y = x
    · rw [if_pos e, if_pos e]
    · rw [if_neg e, if_neg e]
theorem m_plX {fu : Nat} {sa : Nat → Int32} {fl : List Nat} (x : Int32) (h : LM sa fl) (hfu : 30 < fu) : fX6_placeOf fu sa x = some (plX x fl 0) := m_plXL h fl fu 0 rfl (Nat.zero_le _) (by have := h.2.1; omega)
/-- what follows when the list is closed up -/
def carT (fu : Nat) (p1 : Int32) (s : Nat → Int32) : Option (Nat → Int32) := (fX6_placeOf fu (upd s 6 (s 6 - 1)) (s 7)).bind fun x1 => fX6_carry_L91 fu p1 fu (upd s 6 (s 6 - 1)) (x1 + 1) (s 6 - 1)
theorem m_car2 {fu f L : Nat} (hL : L ≤ 10) : ∀ (d j k : Nat) (sa : Nat → Int32), j + 1 + d = L → d < k → sa 6 = nI L → (∀ q, j + 1 ≤ q → q < L → ¬ sa (72 + q) = nI f) → ∃ sa', fX6_carry_L4 fu (nI f) k sa (nI j) (nI (j + 1)) = carT fu (nI f) sa' ∧ ∀ q, sa' q = if 72 + j ≤ q ∧ q + 1 < 72 + L then sa (q + 1) else sa q
  | 0, j, k + 1, sa, hd, hk, h6, hq => by
    refine ⟨sa, ?_, fun q => by rw [if_neg (by omega)]⟩
    rw [fX6_carry_L4]
    simp only [q6, g6, q7, g7, if_true, pk_us, pk_un (show (7 : Nat) ≠ 6 by decide)]
    rw [h6, if_pos (nle (show L ≤ j + 1 by omega) (by omega)), carT, h6]
  | d + 1, j, k + 1, sa, hd, hk, h6, hq => by
    obtain ⟨sa', i1, i2⟩ := m_car2 (fu := fu) (f := f) hL d (j + 1) k (upd sa (72 + j) (sa (72 + (j + 1)))) (by omega) (by omega) (by rw [pk_un (by omega)]; exact h6) (fun q a b => by rw [pk_un (by omega)]; exact hq q (by omega) b)
    refine ⟨sa', ?_, fun q => ?_⟩
    · rw [fX6_carry_L4]
      simp only [q6, g6, if_true, ofL]
      rw [h6, if_neg (nge (show j + 1 < L by omega) (by omega)), gd (72 + (j + 1)) rfl (by omega) (by decide), gd (72 + j) rfl (by omega) (by decide), nI_clamp (show 72 + (j + 1) < 2 ^ 31 by omega), nI_clamp (show 72 + j < 2 ^ 31 by omega), if_neg (hq (j + 1) (Nat.le_refl _) (by omega)), nS, nS]
      exact i1
    · rw [i2 q]
      by_cases h1 : q = 72 + j
      · rw [if_neg (by omega), if_pos (by omega), h1, pk_us]
        congr 1
      · by_cases h2 : 72 + j ≤ q ∧ q + 1 < 72 + L
        · rw [if_pos h2, if_pos (by omega), pk_un (by omega)]
        · rw [if_neg h2, if_neg (by omega), pk_un h1]
theorem m_car1 {fu f L K : Nat} (hL : L ≤ 10) (hK : K < L) {sa : Nat → Int32} (h6 : sa 6 = nI L) (hq : ∀ q, q < K → ¬ sa (72 + q) = nI f) : ∀ (d i k : Nat), i + d = K → fX6_carry_L4 fu (nI f) (k + d) sa (nI i) (nI i) = fX6_carry_L4 fu (nI f) k sa (nI K) (nI K)
  | 0, i, k, hd => by rw [show i = K by omega]; rfl
  | d + 1, i, k, hd => by
    have ih := m_car1 (fu := fu) hL hK h6 hq d (i + 1) k (by omega)
    rw [show k + (d + 1) = (k + d) + 1 from rfl, fX6_carry_L4]
    simp only [q6, g6, if_true, ofL]
    rw [h6, if_neg (nge (show i < L by omega) (by omega)), gd (72 + i) rfl (by omega) (by decide), gd (72 + i) rfl (by omega) (by decide), nI_clamp (show 72 + i < 2 ^ 31 by omega), if_neg (hq i (by omega)), upd_id rfl, nS]
    exact ih
/-- a place is made for f -/
theorem m_car3 {fu f : Nat} : ∀ (d p k : Nat) (sa : Nat → Int32) (L : Nat), p + d ≤ 9 → d < k → sa 6 = nI L → ∃ sa', fX6_carry_L91 fu (nI f) k sa (nI p) (nI (p + d)) = some sa' ∧ sa' 6 = nI (L + 1) ∧ ∀ q, q ≠ 6 → sa' q = if q = 72 + p then nI f else if 72 + p < q ∧ q ≤ 72 + (p + d) then sa (q - 1) else sa q
  | 0, p, k + 1, sa, L, hd, hk, h6 => by
    refine ⟨upd (upd sa (72 + p) (nI f)) 6 (nI (L + 1)), ?_, pk_us, fun q hq => ?_⟩
    · rw [fX6_carry_L91, Nat.add_zero, if_pos (nle (Nat.le_refl p) (by omega))]
      simp only [q6, g6, if_true, ofL]
      rw [gd (72 + p) rfl (by omega) (by decide), nI_clamp (show 72 + p < 2 ^ 31 by omega), pk_un (by omega), h6, nS]
    · rw [pk_un hq]
      by_cases e : q = 72 + p
      · rw [e, pk_us, if_pos rfl]
      · rw [pk_un e, if_neg e, if_neg (by omega)]
  | d + 1, p, k + 1, sa, L, hd, hk, h6 => by
    obtain ⟨sa', i1, i2, i3⟩ := m_car3 (fu := fu) (f := f) d p k (upd sa (72 + (p + d) + 1) (sa (72 + (p + d)))) L (by omega) (by omega) (by rw [pk_un (by omega)]; exact h6)
    refine ⟨sa', ?_, i2, fun q hq => ?_⟩
    · have e1 : (72 : Int32) + nI (p + (d + 1)) - 1 = nI (72 + (p + d)) := by rw [ofL]; exact nI_pred _
      have e2 : (72 : Int32) + nI (p + (d + 1)) = nI (72 + (p + d) + 1) := ofL (p + d + 1)
      rw [fX6_carry_L91, if_neg (nge (show p < p + (d + 1) by omega) (by omega)), e1, e2, gd (72 + (p + d)) rfl (by omega) (by decide), gd (72 + (p + d) + 1) rfl (by omega) (by decide), nI_clamp (show 72 + (p + d) < 2 ^ 31 by omega), nI_clamp (show 72 + (p + d) + 1 < 2 ^ 31 by omega), show p + (d + 1) = (p + d) + 1 from rfl, nP]
      exact i1
    · rw [i3 q hq]
      by_cases e : q = 72 + p
      · rw [if_pos e, if_pos e]
      · rw [if_neg e, if_neg e]
        by_cases e2 : q = 72 + (p + d) + 1
        · rw [if_neg (by omega), if_pos (by omega), e2, pk_us]; rfl
        · by_cases e3 : 72 + p < q ∧ q ≤ 72 + (p + d)
          · rw [if_pos e3, if_pos (by omega), pk_un (by omega)]
          · rw [if_neg e3, if_neg (by omega), pk_un e2]
theorem er_map {α β : Type} {g : α → β} : ∀ (l : List α) (k : Nat), (l.eraseIdx k).map g = (l.map g).eraseIdx k
  | [], k => by simp
  | x :: t, 0 => by simp
  | x :: t, k + 1 => by simp [er_map t k]
theorem er_mem {l : List Nat} {k f : Nat} (hk : l[k]? = some f) (hnd : l.Nodup) {x : Nat} : x ∈ l.eraseIdx k ↔ x ∈ l ∧ x ≠ f := by
  have hl := tl_lt hk
  constructor
  · intro h
    obtain ⟨i, hi⟩ := List.mem_iff_getElem?.mp h
    rw [List.getElem?_eraseIdx] at hi
    split at hi
    · rename_i hlt
      refine ⟨List.mem_of_getElem? hi, fun e => ?_⟩
      rw [e] at hi
      have := (List.getElem?_inj hl hnd).mp (hk.trans hi.symm); omega
    · rename_i hlt
      refine ⟨List.mem_of_getElem? hi, fun e => ?_⟩
      rw [e] at hi
      have := (List.getElem?_inj hl hnd).mp (hk.trans hi.symm); omega
  · rintro ⟨h, hne⟩
    obtain ⟨i, hi⟩ := List.mem_iff_getElem?.mp h
    have hik : i ≠ k := fun e => by rw [e, hk] at hi; exact hne (Option.some.inj hi).symm
    apply List.mem_iff_getElem?.mpr
    rcases Nat.lt_or_ge i k with q | q
    · exact ⟨i, by rw [List.getElem?_eraseIdx, if_pos q]; exact hi⟩
    · exact ⟨i - 1, by rw [List.getElem?_eraseIdx, if_neg (by omega), show i - 1 + 1 = i by omega]; exact hi⟩
