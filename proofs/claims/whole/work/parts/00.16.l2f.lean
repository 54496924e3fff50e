/-! the list of a round; who stands; the present speed -/
def LC (li : Tab) (sa : Nat → Int32) (fl : List Nat) : Prop := TL 2 10 li (fl.map (fun f => [nI f, sa (12 + 6 * f + 4)]))
def LM (sa : Nat → Int32) (fl : List Nat) : Prop := sa 6 = nI fl.length ∧ fl.length ≤ 10 ∧ ∀ (k f : Nat), fl[k]? = some f → sa (72 + k) = nI f
def LN (fl : List Nat) (n : Nat) : Prop := n ≤ 10 ∧ ∀ f ∈ fl, f < n
theorem d2 : TD 2 10 := ⟨by decide, by decide, by decide⟩
theorem LC.cnt {li : Tab} {sa : Nat → Int32} {fl : List Nat} (h : LC li sa fl) : fX4_count li = some (nI fl.length) := by
  have := t_count h
  rwa [List.length_map] at this
theorem LC.le {li : Tab} {sa : Nat → Int32} {fl : List Nat} (h : LC li sa fl) : fl.length ≤ 10 := by
  have := h.2.2.2.1
  rwa [List.length_map] at this
theorem LC.at0 {li : Tab} {sa : Nat → Int32} {fl : List Nat} {k f : Nat} (h : LC li sa fl) (hk : fl[k]? = some f) : fX4_at li (nI k) 0 = some (nI f) := by
  have hr : (fl.map (fun f => [nI f, sa (12 + 6 * f + 4)]))[k]? = some [nI f, sa (12 + 6 * f + 4)] := by rw [List.getElem?_map, hk]; rfl
  exact t_at h d2 hr (show 0 < 2 by decide)
theorem LC.at1 {li : Tab} {sa : Nat → Int32} {fl : List Nat} {k f : Nat} (h : LC li sa fl) (hk : fl[k]? = some f) : fX4_at li (nI k) 1 = some (sa (12 + 6 * f + 4)) := by
  have hr : (fl.map (fun f => [nI f, sa (12 + 6 * f + 4)]))[k]? = some [nI f, sa (12 + 6 * f + 4)] := by rw [List.getElem?_map, hk]; rfl
  exact t_at h d2 hr (show 1 < 2 by decide)
theorem nI_inj {a b : Nat} (ha : a < 2 ^ 31) (hb : b < 2 ^ 31) : nI a = nI b ↔ a = b := by
  constructor
  · intro e
    have := congrArg Int32.toInt e
    rw [nI_toInt ha, nI_toInt hb] at this
    omega
  · intro e; rw [e]
theorem nI_m1 {a : Nat} (ha : a < 2 ^ 31) : ¬ nI a = -1 := fun q => by
  have := congrArg Int32.toInt q
  rw [nI_toInt ha] at this
  exact absurd this (by rw [show (-1 : Int32).toInt = -1 from rfl]; omega)
/-- the place of f -/
def plF (f : Nat) : List Nat → Nat → Int32
  | [], _ => -1
  | x :: t, i => if x = f then nI i else plF f t (i + 1)
theorem plF_no {f : Nat} : ∀ {t : List Nat} {i : Nat}, f ∉ t → plF f t i = -1
  | [], _, _ => rfl
  | x :: t, i, h => by
    rw [plF, if_neg (fun e => h (by rw [e]; exact List.mem_cons_self)), plF_no (fun e => h (List.mem_cons_of_mem _ e))]
theorem plF_yes {f : Nat} : ∀ {t : List Nat} {i : Nat}, f ∈ t → ∃ k, plF f t i = nI (i + k) ∧ t[k]? = some f
  | x :: t, i, h => by
    rw [plF]
    by_cases e : x = f
    · exact ⟨0, by rw [if_pos e]; rfl, by rw [e]; rfl⟩
    · rcases List.mem_cons.mp h with e' | h
      · exact absurd e'.symm e
      · obtain ⟨k, h1, h2⟩ := plF_yes (i := i + 1) h
        exact ⟨k + 1, by rw [if_neg e, h1]; congr 1; omega, h2⟩
theorem c_placeL {fu n : Nat} {li : Tab} {sa : Nat → Int32} {fl : List Nat} {f : Nat} (h : LC li sa fl) (hn : LN fl n) (hf : f < 1000) : ∀ (t : List Nat) (k i : Nat), fl.drop i = t → i ≤ fl.length → t.length < k → fX1_placeOf_L2 fu li (nI f) k (nI i) = some (plF f t i)
  | [], k + 1, i, hd, hi, hk => by
    rw [fX1_placeOf_L2]
    simp only [h.cnt, Option.bind_some, if_pos (nle (dr_nil hd) (by have := h.le; omega)), plF]
  | x :: t, k + 1, i, hd, hi, hk => by
    obtain ⟨h1, h2, h3⟩ := dr_cons hd
    have hx := hn.2 x (List.mem_of_getElem? h1)
    have a0 : fX4_at li (nI i) 0 = some (nI x) := h.at0 h1
    have ih := c_placeL (fu := fu) h hn hf t k (i + 1) h2 h3 (by simpa using hk)
    rw [fX1_placeOf_L2]
    simp only [h.cnt, Option.bind_some, if_neg (nge h3 (by have := h.le; omega)), a0, nS, ih, plF]
    by_cases e : x = f
    · rw [if_pos (by rw [e]), if_pos e]
    · rw [if_neg (fun q => e ((nI_inj (by have := hn.1; omega) (by omega)).mp q)), if_neg e]
theorem c_place {fu n : Nat} {li : Tab} {sa : Nat → Int32} {fl : List Nat} {f : Nat} (h : LC li sa fl) (hn : LN fl n) (hf : f < 1000) (hfu : 30 < fu) : fX1_placeOf fu li (nI f) = some (plF f fl 0) := c_placeL h hn hf fl fu 0 rfl (Nat.zero_le _) (by have := h.le; omega)
theorem gL {sa : Nat → Int32} {k : Nat} {α : Type} {x : Option α} (hk : k ≤ 10) : (if ¬ (nI (72 + k) < 0 ∨ 378 ≤ (nI (72 + k)).toNatClampNeg) then x else none) = x := gd (72 + k) rfl (by omega) (by decide)
theorem m_placeL {fu n : Nat} {sa : Nat → Int32} {fl : List Nat} {f : Nat} (h : LM sa fl) (hn : LN fl n) (hf : f < 1000) : ∀ (t : List Nat) (k i : Nat), fl.drop i = t → i ≤ fl.length → t.length < k → fX6_placeOf_L2 fu sa (nI f) k (nI i) = some (plF f t i)
  | [], k + 1, i, hd, hi, hk => by
    rw [fX6_placeOf_L2]
    simp only [q6, g6, if_true, h.1, if_pos (nle (dr_nil hd) (by have := h.2.1; omega)), plF]
  | x :: t, k + 1, i, hd, hi, hk => by
    obtain ⟨h1, h2, h3⟩ := dr_cons hd
    have hx := hn.2 x (List.mem_of_getElem? h1)
    have ih := m_placeL (fu := fu) h hn hf t k (i + 1) h2 h3 (by simpa using hk)
    have hle := h.2.1
    rw [fX6_placeOf_L2]
    simp only [q6, g6, if_true, h.1, if_neg (nge h3 (by omega)), ofL]
    rw [gd (72 + i) rfl (by omega) (by decide), nI_clamp (show 72 + i < 2 ^ 31 by omega), h.2.2 i x h1, nS, ih, plF]
    by_cases e : x = f
    · rw [if_pos (by rw [e]), if_pos e]
    · rw [if_neg (fun q => e ((nI_inj (by have := hn.1; omega) (by omega)).mp q)), if_neg e]
theorem m_place {fu n : Nat} {sa : Nat → Int32} {fl : List Nat} {f : Nat} (h : LM sa fl) (hn : LN fl n) (hf : f < 1000) (hfu : 30 < fu) : fX6_placeOf fu sa (nI f) = some (plF f fl 0) := m_placeL h hn hf fl fu 0 rfl (Nat.zero_le _) (by have := h.2.1; omega)
/-- who stands -/
def stF (sa : Nat → Int32) (f : Nat) : Bool := decide (¬ sa (12 + 6 * f + 2) ≤ 0)
theorem c_stands {ft : Tab} {sa : Nat → Int32} {n f : Nat} (h : FC ft sa n) (hf : f < n) : fX1_stands ft (nI f) = some (stF sa f) := by
  rw [fX1_stands, show fX4_at ft (nI f) (2 : Int32) = _ from h.at hf (show 2 < 4 by decide)]
  show (if sa (12 + 6 * f + 2) ≤ 0 then some false else some true) = _
  unfold stF
  by_cases h : sa (12 + 6 * f + 2) ≤ 0
  · rw [if_pos h]; simp [h]
  · rw [if_neg h]; simp [h]
theorem m_stands' (sa : Nat → Int32) {i : Nat} (hi : i < 10) : fX6_stands sa (nI i) = some (stF sa i) := m_stands sa hi
/-- the first one that waits -/
def fwF (sa : Nat → Int32) : List Nat → Int32
  | [] => -1
  | f :: t => if sa (12 + 6 * f + 4) = 0 ∧ stF sa f = true then nI f else fwF sa t
theorem c_fwL {fu n : Nat} {ft li : Tab} {sa : Nat → Int32} {fl : List Nat} (hF : FC ft sa n) (h : LC li sa fl) (hn : LN fl n) : ∀ (t : List Nat) (k i : Nat), fl.drop i = t → i ≤ fl.length → t.length < k → fX1_firstWaiting_L2 fu ft li k (nI i) = some (fwF sa t)
  | [], k + 1, i, hd, hi, hk => by
    rw [fX1_firstWaiting_L2]
    simp only [h.cnt, Option.bind_some, if_pos (nle (dr_nil hd) (by have := h.le; omega)), fwF]
  | x :: t, k + 1, i, hd, hi, hk => by
    obtain ⟨h1, h2, h3⟩ := dr_cons hd
    have hx := hn.2 x (List.mem_of_getElem? h1)
    have a0 : fX4_at li (nI i) 0 = some (nI x) := h.at0 h1
    have a1 : fX4_at li (nI i) 1 = some (sa (12 + 6 * x + 4)) := h.at1 h1
    have ih := c_fwL (fu := fu) hF h hn t k (i + 1) h2 h3 (by simpa using hk)
    rw [fX1_firstWaiting_L2]
    simp only [h.cnt, Option.bind_some, if_neg (nge h3 (by have := h.le; omega)), a0, a1, c_stands hF hx, nS, ih, fwF]
    by_cases e : sa (12 + 6 * x + 4) = 0
    · cases hs : stF sa x <;> simp [e, bI]
    · simp [e]
theorem c_fw {fu n : Nat} {ft li : Tab} {sa : Nat → Int32} {fl : List Nat} (hF : FC ft sa n) (h : LC li sa fl) (hn : LN fl n) (hfu : 30 < fu) : fX1_firstWaiting fu ft li = some (fwF sa fl) := c_fwL hF h hn fl fu 0 rfl (Nat.zero_le _) (by have := h.le; omega)
theorem m_fwL {fu n : Nat} {sa : Nat → Int32} {fl : List Nat} (h : LM sa fl) (hn : LN fl n) : ∀ (t : List Nat) (k i : Nat), fl.drop i = t → i ≤ fl.length → t.length < k → fX6_firstWaiting_L2 fu sa k (nI i) = some (fwF sa t)
  | [], k + 1, i, hd, hi, hk => by
    rw [fX6_firstWaiting_L2]
    simp only [q6, g6, if_true, h.1, if_pos (nle (dr_nil hd) (by have := h.2.1; omega)), fwF]
  | x :: t, k + 1, i, hd, hi, hk => by
    obtain ⟨h1, h2, h3⟩ := dr_cons hd
    have hx := hn.2 x (List.mem_of_getElem? h1)
    have hle := h.2.1
    have hx10 : x < 10 := by have := hn.1; omega
    have ih := m_fwL (fu := fu) h hn t k (i + 1) h2 h3 (by simpa using hk)
    have a1 : fX6_of sa (nI x) 4 = some (sa (12 + 6 * x + 4)) := m_of sa hx10 (by decide)
    rw [fX6_firstWaiting_L2]
    simp only [q6, g6, if_true, h.1, if_neg (nge h3 (by omega)), ofL]
    rw [gd (72 + i) rfl (by omega) (by decide), nI_clamp (show 72 + i < 2 ^ 31 by omega), h.2.2 i x h1]
    simp only [a1, m_stands' sa hx10, Option.bind_some, nS, ih, fwF]
    by_cases e : sa (12 + 6 * x + 4) = 0
    · cases hs : stF sa x <;> simp [e, bI]
    · simp [e]
theorem m_fw {fu n : Nat} {sa : Nat → Int32} {fl : List Nat} (h : LM sa fl) (hn : LN fl n) (hfu : 30 < fu) : fX6_firstWaiting fu sa = some (fwF sa fl) := m_fwL h hn fl fu 0 rfl (Nat.zero_le _) (by have := h.2.1; omega)
theorem fwF_cases (sa : Nat → Int32) : ∀ fl : List Nat, fwF sa fl = -1 ∨ ∃ f, f ∈ fl ∧ fwF sa fl = nI f ∧ sa (12 + 6 * f + 4) = 0 ∧ stF sa f = true
  | [] => Or.inl rfl
  | x :: t => by
    rw [fwF]
    by_cases h : sa (12 + 6 * x + 4) = 0 ∧ stF sa x = true
    · rw [if_pos h]; exact Or.inr ⟨x, List.mem_cons_self, rfl, h⟩
    · rw [if_neg h]
      rcases fwF_cases sa t with e | ⟨f, h1, h2⟩
      · exact Or.inl e
      · exact Or.inr ⟨f, List.mem_cons_of_mem _ h1, h2⟩
/-- the present speed -/
def spF (sa : Nat → Int32) (es : List Row) (f : Nat) : Int32 := if (1 : Int32) ≤ sa (12 + 6 * f) + psumF (nI f) 1 es 0 - psumF (nI f) 2 es 0 then sa (12 + 6 * f) + psumF (nI f) 1 es 0 - psumF (nI f) 2 es 0 else 1
theorem c_speed {fu n : Nat} {ft er : Tab} {sa : Nat → Int32} {es : List Row} {f : Nat} (hF : FC ft sa n) (hE : EC er es) (hf : f < n) (hfu : 30 < fu) : fX1_presentSpeed fu ft er (nI f) = some (spF sa es f) := by
  have a0 : fX4_at ft (nI f) 0 = some (sa (12 + 6 * f)) := hF.at hf (show 0 < 4 by decide)
  rw [fX1_presentSpeed]
  simp only [c_psum _ _ hE hfu, a0, Option.bind_some, spF]
  congr 1
  generalize sa (12 + 6 * f) + psumF (nI f) 1 es 0 - psumF (nI f) 2 es 0 = z
  by_cases h1 : (1 : Int32) < z
  · rw [if_pos h1, if_pos (by rw [Int32.lt_iff_toInt_lt] at h1; rw [Int32.le_iff_toInt_le]; omega)]
  · rw [if_neg h1]
    by_cases h2 : (1 : Int32) ≤ z
    · rw [if_pos h2]
      apply Int32.toInt_inj.mp
      rw [Int32.lt_iff_toInt_lt] at h1; rw [Int32.le_iff_toInt_le] at h2; omega
    · rw [if_neg h2]
theorem m_speed {fu : Nat} {sa : Nat → Int32} {es : List Row} {f : Nat} (hE : EM sa es) (hf : f < 10) (hfu : 30 < fu) : fX6_speedOf fu sa (nI f) = some (spF sa es f) := by
  have a0 : fX6_of sa (nI f) 0 = some (sa (12 + 6 * f)) := m_of sa hf (show 0 < 6 by decide)
  rw [fX6_speedOf]
  simp only [m_psum _ _ hE hfu, a0, Option.bind_some, spF]
  split <;> rfl
