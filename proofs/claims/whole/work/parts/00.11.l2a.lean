/-! LAYER 2. The reference's cells by plain numbers -/
theorem gd {α : Type} {c : Int32} {a : Option α} {N : Nat} (k : Nat) (hc : c = nI k) (hk : k < N) (hN : N < 2 ^ 31) : (if ¬ (c < 0 ∨ N ≤ c.toNatClampNeg) then a else none) = a := if_pos (by rw [hc]; exact vp_in_nI hk hN)
theorem gT {c N : Nat} (h : c < N) (hN : N < 2 ^ 31) : (¬ (nI c < 0 ∨ N ≤ c)) = True := eq_true (fun q => by rcases q with q | q; exact nI_pos (by omega) q; omega)
theorem gk {α : Type} {a : Option α} {k N : Nat} (hk : k < N) (hN : N < 2 ^ 31) : (if ¬ (nI k < 0 ∨ N ≤ k) then a else none) = a := if_pos (of_eq_true (gT hk hN))
theorem q0 : ((0 : Int32)).toNatClampNeg = 0 := rfl
theorem q1 : ((1 : Int32)).toNatClampNeg = 1 := rfl
theorem q2 : ((2 : Int32)).toNatClampNeg = 2 := rfl
theorem q3 : ((3 : Int32)).toNatClampNeg = 3 := rfl
theorem q4 : ((4 : Int32)).toNatClampNeg = 4 := rfl
theorem q5 : ((5 : Int32)).toNatClampNeg = 5 := rfl
theorem q6 : ((6 : Int32)).toNatClampNeg = 6 := rfl
theorem q7 : ((7 : Int32)).toNatClampNeg = 7 := rfl
theorem q8 : ((8 : Int32)).toNatClampNeg = 8 := rfl
theorem q9 : ((9 : Int32)).toNatClampNeg = 9 := rfl
theorem q10 : ((10 : Int32)).toNatClampNeg = 10 := rfl
theorem q11 : ((11 : Int32)).toNatClampNeg = 11 := rfl
theorem g0 : (¬ ((0 : Int32) < 0 ∨ 378 ≤ 0)) = True := by decide
theorem g1 : (¬ ((1 : Int32) < 0 ∨ 378 ≤ 1)) = True := by decide
theorem g2 : (¬ ((2 : Int32) < 0 ∨ 378 ≤ 2)) = True := by decide
theorem g3 : (¬ ((3 : Int32) < 0 ∨ 378 ≤ 3)) = True := by decide
theorem g4 : (¬ ((4 : Int32) < 0 ∨ 378 ≤ 4)) = True := by decide
theorem g5 : (¬ ((5 : Int32) < 0 ∨ 378 ≤ 5)) = True := by decide
theorem g6 : (¬ ((6 : Int32) < 0 ∨ 378 ≤ 6)) = True := by decide
theorem g7 : (¬ ((7 : Int32) < 0 ∨ 378 ≤ 7)) = True := by decide
theorem g8 : (¬ ((8 : Int32) < 0 ∨ 378 ≤ 8)) = True := by decide
theorem g9 : (¬ ((9 : Int32) < 0 ∨ 378 ≤ 9)) = True := by decide
theorem g10 : (¬ ((10 : Int32) < 0 ∨ 378 ≤ 10)) = True := by decide
theorem g11 : (¬ ((11 : Int32) < 0 ∨ 378 ≤ 11)) = True := by decide
theorem ofF (i p : Nat) : ((12 : Int32) + ((6 : Int32) * nI i)) + nI p = nI (12 + 6 * i + p) := by
  rw [show (12 : Int32) = nI 12 from rfl, show (6 : Int32) = nI 6 from rfl, pk_mul, nI_add, nI_add]
theorem ofE (i p : Nat) : ((82 : Int32) + ((8 : Int32) * nI i)) + nI p = nI (82 + 8 * i + p) := by
  rw [show (82 : Int32) = nI 82 from rfl, show (8 : Int32) = nI 8 from rfl, pk_mul, nI_add, nI_add]
theorem ofE0 (i : Nat) : (82 : Int32) + ((8 : Int32) * nI i) = nI (82 + 8 * i) := by
  rw [show (82 : Int32) = nI 82 from rfl, show (8 : Int32) = nI 8 from rfl, pk_mul, nI_add]
theorem ofK (i p : Nat) : ((322 : Int32) + ((7 : Int32) * nI i)) + nI p = nI (322 + 7 * i + p) := by
  rw [show (322 : Int32) = nI 322 from rfl, show (7 : Int32) = nI 7 from rfl, pk_mul, nI_add, nI_add]
theorem ofK0 (i : Nat) : (322 : Int32) + ((7 : Int32) * nI i) = nI (322 + 7 * i) := by
  rw [show (322 : Int32) = nI 322 from rfl, show (7 : Int32) = nI 7 from rfl, pk_mul, nI_add]
theorem ofL (i : Nat) : (72 : Int32) + nI i = nI (72 + i) := by rw [show (72 : Int32) = nI 72 from rfl, nI_add]
theorem m_of (sa : Nat → Int32) {i p : Nat} (hi : i < 10) (hp : p < 6) : fX6_of sa (nI i) (nI p) = some (sa (12 + 6 * i + p)) := by
  rw [fX6_of, ofF, gd (12 + 6 * i + p) rfl (by omega) (by decide), nI_clamp (by omega)]
theorem m_set (sa : Nat → Int32) {i p : Nat} (v : Int32) (hi : i < 10) (hp : p < 6) : fX6_set sa (nI i) (nI p) v = some (upd sa (12 + 6 * i + p) v) := by
  rw [fX6_set, ofF, gd (12 + 6 * i + p) rfl (by omega) (by decide), nI_clamp (by omega)]
theorem m_ofE (sa : Nat → Int32) {i p : Nat} (hi : i < 30) (hp : p < 8) : fX6_ofEffect sa (nI i) (nI p) = some (sa (82 + 8 * i + p)) := by
  rw [fX6_ofEffect, ofE, gd (82 + 8 * i + p) rfl (by omega) (by decide), nI_clamp (by omega)]
theorem m_ofK (sa : Nat → Int32) {i p : Nat} (hi : i < 8) (hp : p < 7) : fX6_ofAct sa (nI i) (nI p) = some (sa (322 + 7 * i + p)) := by
  rw [fX6_ofAct, ofK, gd (322 + 7 * i + p) rfl (by omega) (by decide), nI_clamp (by omega)]
theorem m_stands (sa : Nat → Int32) {i : Nat} (hi : i < 10) : fX6_stands sa (nI i) = some (decide (¬ sa (12 + 6 * i + 2) ≤ 0)) := by
  rw [fX6_stands, show fX6_of sa (nI i) (2 : Int32) = _ from m_of sa hi (by decide : 2 < 6)]
  show (if sa (12 + 6 * i + 2) ≤ 0 then some false else some true) = _
  by_cases h : sa (12 + 6 * i + 2) ≤ 0
  · rw [if_pos h]; simp [h]
  · rw [if_neg h]; simp [h]
theorem bI0 {c : Prop} [Decidable c] : bI (decide c) = 0 ↔ ¬ c := by
  by_cases h : c
  · simp [h, bI]
  · simp [h, bI]
theorem bI_t : ¬ bI true = 0 := by decide
theorem bI_ff : bI false = 0 := by decide
theorem dr_cons {α : Type} {l : List α} {i : Nat} {r : α} {t : List α} (h : l.drop i = r :: t) : l[i]? = some r ∧ l.drop (i + 1) = t ∧ i < l.length := by
  have hl : i < l.length := by
    rcases Nat.lt_or_ge i l.length with q | q
    · exact q
    · rw [List.drop_eq_nil_of_le q] at h; cases h
  rw [List.drop_eq_getElem_cons hl] at h
  injection h with h1 h2
  exact ⟨by rw [List.getElem?_eq_getElem hl, h1], h2, hl⟩
theorem dr_nil {α : Type} {l : List α} {i : Nat} (h : l.drop i = []) : l.length ≤ i := List.drop_eq_nil_iff.mp h
/-! effects: what the loops look for -/
def heldF (f : Int32) : List Row → Nat → Int32
  | [], _ => -1
  | r :: t, i => if gD r 6 = 1 ∧ gD r 2 = f then nI i else heldF f t (i + 1)
def psumF (f k : Int32) : List Row → Int32 → Int32
  | [], s => s
  | r :: t, s => psumF f k t (if gD r 3 = f ∧ gD r 0 = k then s + gD r 1 else s)
def conF (f : Int32) : List Row → Int32 → Int32
  | [], s => s
  | r :: t, s => conF f t (if gD r 3 = f then s + 1 else s)
def thrF (b : Int32) : List Row → Bool
  | [] => false
  | r :: t => if gD r 7 = b then true else thrF b t
/-- the reference's effects -/
def EM (sa : Nat → Int32) (es : List Row) : Prop := sa 1 = nI es.length ∧ es.length ≤ 30 ∧ ∀ (i : Nat) (r : Row), es[i]? = some r → r.length = 8 ∧ ∀ j, j < 8 → sa (82 + 8 * i + j) = gD r j
abbrev EC (er : Tab) (es : List Row) : Prop := TL 8 30 er es
theorem d8 : TD 8 30 := ⟨by decide, by decide, by decide⟩
theorem EM.at {sa : Nat → Int32} {es : List Row} {i j : Nat} {r : Row} (h : EM sa es) (hi : es[i]? = some r) (hj : j < 8) : fX6_ofEffect sa (nI i) (nI j) = some (gD r j) := by
  have hl := tl_lt hi
  rw [m_ofE sa (by have := h.2.1; omega) hj, (h.2.2 i r hi).2 j hj]
theorem EC.at {er : Tab} {es : List Row} {i j : Nat} {r : Row} (h : EC er es) (hi : es[i]? = some r) (hj : j < 8) : fX4_at er (nI i) (nI j) = some (gD r j) := t_at h d8 hi hj
theorem EC.cnt {er : Tab} {es : List Row} (h : EC er es) : fX4_count er = some (nI es.length) := t_count h
theorem EC.le {er : Tab} {es : List Row} (h : EC er es) : es.length ≤ 30 := h.2.2.2.1
theorem nle {n i : Nat} (h : n ≤ i) (hi : i ≤ 1000) : nI n ≤ nI i := nI_le h (by omega)
theorem nge {n i : Nat} (h : i < n) (hn : n ≤ 1000) : ¬ nI n ≤ nI i := nI_ge h (by omega)
theorem nS (i : Nat) : nI i + 1 = nI (i + 1) := nI_1 i
theorem c_heldL {fu : Nat} {er : Tab} {es : List Row} {f : Int32} (h : EC er es) : ∀ (t : List Row) (k i : Nat), es.drop i = t → i ≤ es.length → t.length < k → fX0_heldBy_L2 fu er f k (nI i) = some (heldF f t i)
  | [], k + 1, i, hd, hi, hk => by
    rw [fX0_heldBy_L2]
    simp only [h.cnt, Option.bind_some, if_pos (nle (dr_nil hd) (by have := h.le; omega)), heldF]
  | r :: t, k + 1, i, hd, hi, hk => by
    obtain ⟨h1, h2, h3⟩ := dr_cons hd
    have a6 : fX4_at er (nI i) 6 = some (gD r 6) := h.at h1 (by decide)
    have a2 : fX4_at er (nI i) 2 = some (gD r 2) := h.at h1 (by decide)
    have ih := c_heldL (fu := fu) (f := f) h t k (i + 1) h2 h3 (by simpa using hk)
    rw [fX0_heldBy_L2]
    simp only [h.cnt, Option.bind_some, if_neg (nge h3 (by have := h.le; omega)), heldF, a6, a2, nS, ih]
    by_cases e1 : gD r 6 = 1 <;> by_cases e2 : gD r 2 = f <;> simp [e1, e2]
theorem c_held {fu : Nat} {er : Tab} {es : List Row} (f : Int32) (h : EC er es) (hf : 30 < fu) : fX0_heldBy fu er f = some (heldF f es 0) := c_heldL h es fu 0 rfl (Nat.zero_le _) (by have := h.le; omega)
theorem c_psumL {fu : Nat} {er : Tab} {es : List Row} {f q : Int32} (h : EC er es) : ∀ (t : List Row) (k i : Nat) (s : Int32), es.drop i = t → i ≤ es.length → t.length < k → fX0_powerOn_L5 fu er f q k s (nI i) = some (psumF f q t s)
  | [], k + 1, i, s, hd, hi, hk => by
    rw [fX0_powerOn_L5]
    simp only [h.cnt, Option.bind_some, if_pos (nle (dr_nil hd) (by have := h.le; omega)), psumF]
  | r :: t, k + 1, i, s, hd, hi, hk => by
    obtain ⟨h1, h2, h3⟩ := dr_cons hd
    have a3 : fX4_at er (nI i) 3 = some (gD r 3) := h.at h1 (by decide)
    have a0 : fX4_at er (nI i) 0 = some (gD r 0) := h.at h1 (by decide)
    have a1 : fX4_at er (nI i) 1 = some (gD r 1) := h.at h1 (by decide)
    have ih := fun s => c_psumL (fu := fu) (f := f) (q := q) h t k (i + 1) s h2 h3 (by simpa using hk)
    rw [fX0_powerOn_L5]
    simp only [h.cnt, Option.bind_some, if_neg (nge h3 (by have := h.le; omega)), psumF, a3, a0, a1, nS, ih]
    by_cases e1 : gD r 3 = f <;> by_cases e2 : gD r 0 = q <;> simp [e1, e2]
theorem c_psum {fu : Nat} {er : Tab} {es : List Row} (f q : Int32) (h : EC er es) (hf : 30 < fu) : fX0_powerOn fu er f q = some (psumF f q es 0) := c_psumL h es fu 0 0 rfl (Nat.zero_le _) (by have := h.le; omega)
theorem c_conL {fu : Nat} {er : Tab} {es : List Row} {f : Int32} (h : EC er es) : ∀ (t : List Row) (k i : Nat) (s : Int32), es.drop i = t → i ≤ es.length → t.length < k → fX0_countOn_L4 fu er f k s (nI i) = some (conF f t s)
  | [], k + 1, i, s, hd, hi, hk => by
    rw [fX0_countOn_L4]
    simp only [h.cnt, Option.bind_some, if_pos (nle (dr_nil hd) (by have := h.le; omega)), conF]
  | r :: t, k + 1, i, s, hd, hi, hk => by
    obtain ⟨h1, h2, h3⟩ := dr_cons hd
    have a3 : fX4_at er (nI i) 3 = some (gD r 3) := h.at h1 (by decide)
    have ih := fun s => c_conL (fu := fu) (f := f) h t k (i + 1) s h2 h3 (by simpa using hk)
    rw [fX0_countOn_L4]
    simp only [h.cnt, Option.bind_some, if_neg (nge h3 (by have := h.le; omega)), conF, a3, nS, ih]
    by_cases e1 : gD r 3 = f <;> simp [e1]
theorem c_con {fu : Nat} {er : Tab} {es : List Row} (f : Int32) (h : EC er es) (hf : 30 < fu) : fX0_countOn fu er f = some (conF f es 0) := c_conL h es fu 0 0 rfl (Nat.zero_le _) (by have := h.le; omega)
theorem c_thrL {fu : Nat} {er : Tab} {es : List Row} {b : Int32} (h : EC er es) : ∀ (t : List Row) (k i : Nat), es.drop i = t → i ≤ es.length → t.length < k → fX0_isThere_L2 fu er b k (nI i) = some (thrF b t)
  | [], k + 1, i, hd, hi, hk => by
    rw [fX0_isThere_L2]
    simp only [h.cnt, Option.bind_some, if_pos (nle (dr_nil hd) (by have := h.le; omega)), thrF]
  | r :: t, k + 1, i, hd, hi, hk => by
    obtain ⟨h1, h2, h3⟩ := dr_cons hd
    have a7 : fX4_at er (nI i) 7 = some (gD r 7) := h.at h1 (by decide)
    have ih := c_thrL (fu := fu) (b := b) h t k (i + 1) h2 h3 (by simpa using hk)
    rw [fX0_isThere_L2]
    simp only [h.cnt, Option.bind_some, if_neg (nge h3 (by have := h.le; omega)), thrF, a7, nS, ih]
    by_cases e1 : gD r 7 = b <;> simp [e1]
theorem c_thr {fu : Nat} {er : Tab} {es : List Row} (b : Int32) (h : EC er es) (hf : 30 < fu) : fX0_isThere fu er b = some (thrF b es) := c_thrL h es fu 0 rfl (Nat.zero_le _) (by have := h.le; omega)
theorem m_heldL {fu : Nat} {sa : Nat → Int32} {es : List Row} {f : Int32} (h : EM sa es) : ∀ (t : List Row) (k i : Nat), es.drop i = t → i ≤ es.length → t.length < k → fX6_heldBy_L2 fu sa f k (nI i) = some (heldF f t i)
  | [], k + 1, i, hd, hi, hk => by
    rw [fX6_heldBy_L2]
    simp only [q1, g1, if_true, h.1, if_pos (nle (dr_nil hd) (by have := h.2.1; omega)), heldF]
  | r :: t, k + 1, i, hd, hi, hk => by
    obtain ⟨h1, h2, h3⟩ := dr_cons hd
    have a6 : fX6_ofEffect sa (nI i) 6 = some (gD r 6) := h.at h1 (by decide)
    have a2 : fX6_ofEffect sa (nI i) 2 = some (gD r 2) := h.at h1 (by decide)
    have ih := m_heldL (fu := fu) (f := f) h t k (i + 1) h2 h3 (by simpa using hk)
    rw [fX6_heldBy_L2]
    simp only [q1, g1, if_true, h.1, Option.bind_some, if_neg (nge h3 (by have := h.2.1; omega)), heldF, a6, a2, nS, ih]
    by_cases e1 : gD r 6 = 1 <;> by_cases e2 : gD r 2 = f <;> simp [e1, e2]
theorem m_held {fu : Nat} {sa : Nat → Int32} {es : List Row} (f : Int32) (h : EM sa es) (hf : 30 < fu) : fX6_heldBy fu sa f = some (heldF f es 0) := m_heldL h es fu 0 rfl (Nat.zero_le _) (by have := h.2.1; omega)
theorem m_psumL {fu : Nat} {sa : Nat → Int32} {es : List Row} {f q : Int32} (h : EM sa es) : ∀ (t : List Row) (k i : Nat) (s : Int32), es.drop i = t → i ≤ es.length → t.length < k → fX6_powersOn_L5 fu sa f q k s (nI i) = some (psumF f q t s)
  | [], k + 1, i, s, hd, hi, hk => by
    rw [fX6_powersOn_L5]
    simp only [q1, g1, if_true, h.1, if_pos (nle (dr_nil hd) (by have := h.2.1; omega)), psumF]
  | r :: t, k + 1, i, s, hd, hi, hk => by
    obtain ⟨h1, h2, h3⟩ := dr_cons hd
    have a3 : fX6_ofEffect sa (nI i) 3 = some (gD r 3) := h.at h1 (by decide)
    have a0 : fX6_ofEffect sa (nI i) 0 = some (gD r 0) := h.at h1 (by decide)
    have a1 : fX6_ofEffect sa (nI i) 1 = some (gD r 1) := h.at h1 (by decide)
    have ih := fun s => m_psumL (fu := fu) (f := f) (q := q) h t k (i + 1) s h2 h3 (by simpa using hk)
    rw [fX6_powersOn_L5]
    simp only [q1, g1, if_true, h.1, Option.bind_some, if_neg (nge h3 (by have := h.2.1; omega)), psumF, a3, a0, a1, nS, ih, Int32.add_zero]
    by_cases e1 : gD r 3 = f <;> by_cases e2 : gD r 0 = q <;> simp [e1, e2]
theorem m_psum {fu : Nat} {sa : Nat → Int32} {es : List Row} (f q : Int32) (h : EM sa es) (hf : 30 < fu) : fX6_powersOn fu sa f q = some (psumF f q es 0) := m_psumL h es fu 0 0 rfl (Nat.zero_le _) (by have := h.2.1; omega)
theorem m_conL {fu : Nat} {sa : Nat → Int32} {es : List Row} {f : Int32} (h : EM sa es) : ∀ (t : List Row) (k i : Nat) (s : Int32), es.drop i = t → i ≤ es.length → t.length < k → fX6_effectsOn_L4 fu sa f k s (nI i) = some (conF f t s)
  | [], k + 1, i, s, hd, hi, hk => by
    rw [fX6_effectsOn_L4]
    simp only [q1, g1, if_true, h.1, if_pos (nle (dr_nil hd) (by have := h.2.1; omega)), conF]
  | r :: t, k + 1, i, s, hd, hi, hk => by
    obtain ⟨h1, h2, h3⟩ := dr_cons hd
    have a3 : fX6_ofEffect sa (nI i) 3 = some (gD r 3) := h.at h1 (by decide)
    have ih := fun s => m_conL (fu := fu) (f := f) h t k (i + 1) s h2 h3 (by simpa using hk)
    rw [fX6_effectsOn_L4]
    simp only [q1, g1, if_true, h.1, Option.bind_some, if_neg (nge h3 (by have := h.2.1; omega)), conF, a3, nS, ih, Int32.add_zero]
    by_cases e1 : gD r 3 = f <;> simp [e1]
theorem m_con {fu : Nat} {sa : Nat → Int32} {es : List Row} (f : Int32) (h : EM sa es) (hf : 30 < fu) : fX6_effectsOn fu sa f = some (conF f es 0) := m_conL h es fu 0 0 rfl (Nat.zero_le _) (by have := h.2.1; omega)
