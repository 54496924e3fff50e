def poisF (f b : Int32) : List Row → Option Row
  | [] => none
  | r :: t => if ¬ gD r 7 ≤ b ∧ gD r 3 = f ∧ gD r 0 = 0 then some r else poisF f b t
def bOk (es : List Row) : Prop := es.Pairwise (fun a b => gD a 7 < gD b 7)
def pwOk (es : List Row) : Prop := ∀ r ∈ es, ∃ p : Nat, p ≤ 20 ∧ gD r 1 = nI p
theorem le_lt32 {a b c : Int32} (h : a ≤ b) (g : b < c) : ¬ c ≤ a := by
  rw [Int32.le_iff_toInt_le] at h ⊢
  rw [Int32.lt_iff_toInt_lt] at g
  omega
theorem nle_tr {a b c : Int32} (h : ¬ a ≤ b) (g : a < c) : ¬ c ≤ b := by
  rw [Int32.le_iff_toInt_le] at h ⊢
  rw [Int32.lt_iff_toInt_lt] at g
  omega
theorem nle_lt {a b : Int32} (g : a < b) : ¬ b ≤ a := by
  rw [Int32.le_iff_toInt_le]
  rw [Int32.lt_iff_toInt_lt] at g
  omega
theorem poisF_mem {f b : Int32} : ∀ {t : List Row} {r : Row}, poisF f b t = some r → r ∈ t ∧ ¬ gD r 7 ≤ b ∧ gD r 3 = f ∧ gD r 0 = 0
  | x :: t, r, h => by
    rw [poisF] at h
    split at h
    · rename_i hc
      cases h
      exact ⟨List.mem_cons_self, hc⟩
    · obtain ⟨h1, h2⟩ := poisF_mem h
      exact ⟨List.mem_cons_of_mem _ h1, h2⟩
theorem poisF_none {f b : Int32} : ∀ {t : List Row}, (∀ r ∈ t, ¬ (¬ gD r 7 ≤ b ∧ gD r 3 = f ∧ gD r 0 = 0)) → poisF f b t = none
  | [], _ => rfl
  | r :: t, h => by
    rw [poisF, if_neg (h r List.mem_cons_self)]
    exact poisF_none (fun x hx => h x (List.mem_cons_of_mem _ hx))
theorem c_pbaL {fu : Nat} {er : Tab} {es : List Row} {f b : Int32} (h : EC er es) : ∀ (t : List Row) (k i : Nat), es.drop i = t → i ≤ es.length → t.length < k → ∃ x, fX0_poisonBornAfter_L2 fu er f b k (nI i) = some x ∧ ((poisF f b t = none ∧ x = -1) ∨ ∃ j r, poisF f b t = some r ∧ es[j]? = some r ∧ x = nI j)
  | [], k + 1, i, hd, hi, hk => by
    refine ⟨-1, ?_, Or.inl ⟨rfl, rfl⟩⟩
    rw [fX0_poisonBornAfter_L2]
    simp only [h.cnt, Option.bind_some, if_pos (nle (dr_nil hd) (by have := h.le; omega))]
  | r :: t, k + 1, i, hd, hi, hk => by
    obtain ⟨h1, h2, h3⟩ := dr_cons hd
    have a7 : fX4_at er (nI i) 7 = some (gD r 7) := h.at h1 (by decide)
    have a3 : fX4_at er (nI i) 3 = some (gD r 3) := h.at h1 (by decide)
    have a0 : fX4_at er (nI i) 0 = some (gD r 0) := h.at h1 (by decide)
    obtain ⟨x, i1, i2⟩ := c_pbaL (fu := fu) (f := f) (b := b) h t k (i + 1) h2 h3 (by simpa using hk)
    rw [fX0_poisonBornAfter_L2]
    simp only [fX0_poisonBornAfter_J32, h.cnt, Option.bind_some, if_neg (nge h3 (by have := h.le; omega)), a7, a3, a0, nS, i1, poisF, eq_false bI_t, eq_true bI_ff, if_true, if_false]
    by_cases e7 : gD r 7 ≤ b
    · refine ⟨x, by rw [if_pos e7], ?_⟩
      rw [if_neg (fun q => q.1 e7)]; exact i2
    · by_cases e3 : gD r 3 = f
      · by_cases e0 : gD r 0 = 0
        · refine ⟨nI i, by rw [if_neg e7, if_pos e3, if_pos e0], Or.inr ⟨i, r, by rw [if_pos ⟨e7, e3, e0⟩], h1, rfl⟩⟩
        · refine ⟨x, by rw [if_neg e7, if_pos e3, if_neg e0], ?_⟩
          rw [if_neg (fun q => e0 q.2.2)]; exact i2
      · refine ⟨x, by rw [if_neg e7, if_neg e3], ?_⟩
        rw [if_neg (fun q => e3 q.2.1)]; exact i2
theorem c_pba {fu : Nat} {er : Tab} {es : List Row} (f b : Int32) (h : EC er es) (hf : 30 < fu) : ∃ x, fX0_poisonBornAfter fu er f b = some x ∧ ((poisF f b es = none ∧ x = -1) ∨ ∃ j r, poisF f b es = some r ∧ es[j]? = some r ∧ x = nI j) := c_pbaL h es fu 0 rfl (Nat.zero_le _) (by have := h.le; omega)
def cntB (b : Int32) (es : List Row) : Nat := (es.filter (fun r => decide (¬ gD r 7 ≤ b))).length
theorem i32_ntr {a b c : Int32} (h : b ≤ c) (e : ¬ a ≤ c) : ¬ a ≤ b := fun q => e (by rw [Int32.le_iff_toInt_le] at h q ⊢; omega)
theorem cntB_le {b c : Int32} (h : b ≤ c) (es : List Row) : cntB c es ≤ cntB b es := by
  induction es with
  | nil => simp [cntB]
  | cons r t ih =>
    unfold cntB at ih ⊢
    rw [List.filter_cons, List.filter_cons]
    by_cases e : gD r 7 ≤ c
    · by_cases e2 : gD r 7 ≤ b
      · simpa [e, e2] using ih
      · simp [e, e2]; exact Nat.le_succ_of_le (by simpa using ih)
    · have e2 : ¬ gD r 7 ≤ b := i32_ntr h e
      simpa [e, e2] using ih
theorem cntB_lt {b : Int32} {r : Row} (hr : ¬ gD r 7 ≤ b) : ∀ {es : List Row}, r ∈ es → cntB (gD r 7) es < cntB b es
  | x :: t, h => by
    have hbr : b ≤ gD r 7 := by rw [Int32.le_iff_toInt_le] at hr ⊢; omega
    rcases List.mem_cons.mp h with e | h
    · subst e
      have ih := cntB_le hbr t
      unfold cntB at ih ⊢
      rw [List.filter_cons, List.filter_cons]
      have e1 : gD r 7 ≤ gD r 7 := by rw [Int32.le_iff_toInt_le]; exact Int.le_refl _
      simp only [e1, hr, not_true_eq_false, decide_false, Bool.false_eq_true, if_false, not_false_eq_true, decide_true, if_true, List.length_cons]
      exact Nat.lt_succ_of_le ih
    · have ih := cntB_lt hr h
      unfold cntB at ih ⊢
      rw [List.filter_cons, List.filter_cons]
      by_cases e : gD x 7 ≤ gD r 7
      · by_cases e2 : gD x 7 ≤ b
        · simpa [e, e2] using ih
        · simp [e, e2]; exact Nat.lt_succ_of_lt (by simpa using ih)
      · have e2 : ¬ gD x 7 ≤ b := by
          rw [Int32.le_iff_toInt_le] at hbr e ⊢; omega
        simpa [e, e2] using ih
theorem cntB_sub {b : Int32} {es es' : List Row} (h : es'.Sublist es) : cntB b es' ≤ cntB b es := (h.filter _).length_le
theorem stopF_sub (f : Int32) (es : List Row) : (stopF f es).Sublist es := by
  rcases heldF_cases f es 0 with ⟨-, h⟩ | ⟨j, -, -, h⟩
  · rw [h]; exact List.Sublist.refl _
  · rw [h]; exact List.eraseIdx_sublist _ _
theorem hurtE_sub (sh : Int32) (es : List Row) (i lf w : Nat) : (hurtE sh es i lf w).Sublist es := by
  unfold hurtE
  split
  · exact List.filter_sublist
  · split
    · exact List.Sublist.refl _
    · exact stopF_sub _ _
theorem poisF_fallen {f b : Int32} {es : List Row} : poisF f b (es.filter (keepF f)) = none := by
  apply poisF_none
  intro r hr hc
  have hk := (List.mem_filter.mp hr).2
  simp only [keepF, hc.2.1, decide_true, Bool.true_or, Bool.not_true] at hk
  cases hk
theorem c_poi_end {fu : Nat} {sh f b : Int32} {ft er : Tab} {es : List Row} {k v3 : Nat} (hE : EC er es) (hn : poisF f b es = none) (hf : 30 < fu) (hk : 0 < k) (hv : v3 ≤ 30) : fX1_sufferPoison_L4 fu sh f k ft er b (nI v3) = some (ft, er) := by
  obtain ⟨k, rfl⟩ : ∃ k', k = k' + 1 := ⟨k - 1, by omega⟩
  rw [fX1_sufferPoison_L4]
  by_cases q : v3 = 30
  · rw [if_pos (show (30 : Int32) ≤ nI v3 from nI_le (a := 30) (by omega) (by omega))]
  · rw [if_neg (show ¬ (30 : Int32) ≤ nI v3 from nI_ge (b := 30) (by omega) (by omega))]
    obtain ⟨x, h1, h2⟩ := c_pba f b hE hf
    rcases h2 with ⟨-, e⟩ | ⟨j, r, e, -⟩
    · simp only [h1, Option.bind_some, if_pos e]
    · rw [hn] at e; cases e
def LC (li : Tab) (sa : Nat → Int32) (fl : List Nat) : Prop := TL 2 10 li (fl.map (fun f => [nI f, sa (12 + 6 * f + 4)]))
def LN (fl : List Nat) (n : Nat) : Prop := n ≤ 10 ∧ ∀ f ∈ fl, f < n
theorem d2 : TD 2 10 := ⟨by decide, by decide, by decide⟩
theorem LC.cnt {li : Tab} {sa : Nat → Int32} {fl : List Nat} (h : LC li sa fl) : fX4_count li = some (nI fl.length) := by
  have := t_count h
  rwa [List.length_map] at this
theorem LC.le {li : Tab} {sa : Nat → Int32} {fl : List Nat} (h : LC li sa fl) : fl.length ≤ 10 := by
  have := h.2.2.2.1
  rwa [List.length_map] at this
theorem LC.at0 {li : Tab} {sa : Nat → Int32} {fl : List Nat} {k f : Nat} (h : LC li sa fl) (hk : fl[k]? = some f) : fX4_at li (nI k) 0 = some (nI f) := by
  have hr : (fl.map (fun f => [nI f, sa (12 + 6 * f + 4)]))[k]? = some [nI f, sa (12 + 6 * f + 4)] := by rw [List.getElem?_map, hk]; rfl
  exact t_at h d2 hr (show 0 < 2 by decide)
theorem LC.at1 {li : Tab} {sa : Nat → Int32} {fl : List Nat} {k f : Nat} (h : LC li sa fl) (hk : fl[k]? = some f) : fX4_at li (nI k) 1 = some (sa (12 + 6 * f + 4)) := by
  have hr : (fl.map (fun f => [nI f, sa (12 + 6 * f + 4)]))[k]? = some [nI f, sa (12 + 6 * f + 4)] := by rw [List.getElem?_map, hk]; rfl
  exact t_at h d2 hr (show 1 < 2 by decide)
theorem nI_inj {a b : Nat} (ha : a < 2 ^ 31) (hb : b < 2 ^ 31) : nI a = nI b ↔ a = b := by
  constructor
  · intro e
    have := congrArg Int32.toInt e
    rw [nI_toInt ha, nI_toInt hb] at this
    omega
  · intro e; rw [e]
theorem nI_m1 {a : Nat} (ha : a < 2 ^ 31) : ¬ nI a = -1 := fun q => by
  have := congrArg Int32.toInt q
  rw [nI_toInt ha] at this
  exact absurd this (by rw [show (-1 : Int32).toInt = -1 from rfl]; omega)
/-- the place of f -/
def plF (f : Nat) : List Nat → Nat → Int32
  | [], _ => -1
  | x :: t, i => if x = f then nI i else plF f t (i + 1)
theorem plF_no {f : Nat} : ∀ {t : List Nat} {i : Nat}, f ∉ t → plF f t i = -1
  | [], _, _ => rfl
  | x :: t, i, h => by
    rw [plF, if_neg (fun e => h (by rw [e]; exact List.mem_cons_self)), plF_no (fun e => h (List.mem_cons_of_mem _ e))]
theorem plF_yes {f : Nat} : ∀ {t : List Nat} {i : Nat}, f ∈ t → ∃ k, plF f t i = nI (i + k) ∧ t[k]? = some f
  | x :: t, i, h => by
    rw [plF]
    by_cases e : x = f
    · exact ⟨0, by rw [if_pos e]; rfl, by rw [e]; rfl⟩
    · rcases List.mem_cons.mp h with e' | h
      · exact absurd e'.symm e
      · obtain ⟨k, h1, h2⟩ := plF_yes (i := i + 1) h
        exact ⟨k + 1, by rw [if_neg e, h1]; congr 1; omega, h2⟩
theorem c_placeL {fu n : Nat} {li : Tab} {sa : Nat → Int32} {fl : List Nat} {f : Nat} (h : LC li sa fl) (hn : LN fl n) (hf : f < 1000) : ∀ (t : List Nat) (k i : Nat), fl.drop i = t → i ≤ fl.length → t.length < k → fX1_placeOf_L2 fu li (nI f) k (nI i) = some (plF f t i)
  | [], k + 1, i, hd, hi, hk => by
    rw [fX1_placeOf_L2]
    simp only [h.cnt, Option.bind_some, if_pos (nle (dr_nil hd) (by have := h.le; omega)), plF]
  | x :: t, k + 1, i, hd, hi, hk => by
    obtain ⟨h1, h2, h3⟩ := dr_cons hd
    have hx := hn.2 x (List.mem_of_getElem? h1)
    have a0 : fX4_at li (nI i) 0 = some (nI x) := h.at0 h1
    have ih := c_placeL (fu := fu) h hn hf t k (i + 1) h2 h3 (by simpa using hk)
    rw [fX1_placeOf_L2]
    simp only [h.cnt, Option.bind_some, if_neg (nge h3 (by have := h.le; omega)), a0, nS, ih, plF]
    by_cases e : x = f
    · rw [if_pos (by rw [e]), if_pos e]
    · rw [if_neg (fun q => e ((nI_inj (by have := hn.1; omega) (by omega)).mp q)), if_neg e]
theorem c_place {fu n : Nat} {li : Tab} {sa : Nat → Int32} {fl : List Nat} {f : Nat} (h : LC li sa fl) (hn : LN fl n) (hf : f < 1000) (hfu : 30 < fu) : fX1_placeOf fu li (nI f) = some (plF f fl 0) := c_placeL h hn hf fl fu 0 rfl (Nat.zero_le _) (by have := h.le; omega)
/-- who stands -/
def stF (sa : Nat → Int32) (f : Nat) : Bool := decide (¬ sa (12 + 6 * f + 2) ≤ 0)
theorem c_stands {ft : Tab} {sa : Nat → Int32} {n f : Nat} (h : FC ft sa n) (hf : f < n) : fX1_stands ft (nI f) = some (stF sa f) := by
  rw [fX1_stands, show fX4_at ft (nI f) (2 : Int32) = _ from h.at hf (show 2 < 4 by decide)]
  show (if sa (12 + 6 * f + 2) ≤ 0 then some false else some true) = _
  unfold stF
  by_cases h : sa (12 + 6 * f + 2) ≤ 0
  · rw [if_pos h]; simp [h]
  · rw [if_neg h]; simp [h]
/-- the first one that waits -/
def fwF (sa : Nat → Int32) : List Nat → Int32
  | [] => -1
  | f :: t => if sa (12 + 6 * f + 4) = 0 ∧ stF sa f = true then nI f else fwF sa t
theorem c_fwL {fu n : Nat} {ft li : Tab} {sa : Nat → Int32} {fl : List Nat} (hF : FC ft sa n) (h : LC li sa fl) (hn : LN fl n) : ∀ (t : List Nat) (k i : Nat), fl.drop i = t → i ≤ fl.length → t.length < k → fX1_firstWaiting_L2 fu ft li k (nI i) = some (fwF sa t)
  | [], k + 1, i, hd, hi, hk => by
    rw [fX1_firstWaiting_L2]
    simp only [h.cnt, Option.bind_some, if_pos (nle (dr_nil hd) (by have := h.le; omega)), fwF]
  | x :: t, k + 1, i, hd, hi, hk => by
    obtain ⟨h1, h2, h3⟩ := dr_cons hd
    have hx := hn.2 x (List.mem_of_getElem? h1)
    have a0 : fX4_at li (nI i) 0 = some (nI x) := h.at0 h1
    have a1 : fX4_at li (nI i) 1 = some (sa (12 + 6 * x + 4)) := h.at1 h1
    have ih := c_fwL (fu := fu) hF h hn t k (i + 1) h2 h3 (by simpa using hk)
    rw [fX1_firstWaiting_L2]
    simp only [h.cnt, Option.bind_some, if_neg (nge h3 (by have := h.le; omega)), a0, a1, c_stands hF hx, nS, ih, fwF]
    by_cases e : sa (12 + 6 * x + 4) = 0
    · cases hs : stF sa x <;> simp [e, bI]
    · simp [e]
theorem c_fw {fu n : Nat} {ft li : Tab} {sa : Nat → Int32} {fl : List Nat} (hF : FC ft sa n) (h : LC li sa fl) (hn : LN fl n) (hfu : 30 < fu) : fX1_firstWaiting fu ft li = some (fwF sa fl) := c_fwL hF h hn fl fu 0 rfl (Nat.zero_le _) (by have := h.le; omega)
theorem fwF_cases (sa : Nat → Int32) : ∀ fl : List Nat, fwF sa fl = -1 ∨ ∃ f, f ∈ fl ∧ fwF sa fl = nI f ∧ sa (12 + 6 * f + 4) = 0 ∧ stF sa f = true
  | [] => Or.inl rfl
  | x :: t => by
    rw [fwF]
    by_cases h : sa (12 + 6 * x + 4) = 0 ∧ stF sa x = true
    · rw [if_pos h]; exact Or.inr ⟨x, List.mem_cons_self, rfl, h⟩
    · rw [if_neg h]
      rcases fwF_cases sa t with e | ⟨f, h1, h2⟩
      · exact Or.inl e
      · exact Or.inr ⟨f, List.mem_cons_of_mem _ h1, h2⟩
/-- the present speed -/
def spF (sa : Nat → Int32) (es : List Row) (f : Nat) : Int32 := if (1 : Int32) ≤ sa (12 + 6 * f) + psumF (nI f) 1 es 0 - psumF (nI f) 2 es 0 then sa (12 + 6 * f) + psumF (nI f) 1 es 0 - psumF (nI f) 2 es 0 else 1
theorem c_speed {fu n : Nat} {ft er : Tab} {sa : Nat → Int32} {es : List Row} {f : Nat} (hF : FC ft sa n) (hE : EC er es) (hf : f < n) (hfu : 30 < fu) : fX1_presentSpeed fu ft er (nI f) = some (spF sa es f) := by
  have a0 : fX4_at ft (nI f) 0 = some (sa (12 + 6 * f)) := hF.at hf (show 0 < 4 by decide)
  rw [fX1_presentSpeed]
  simp only [c_psum _ _ hE hfu, a0, Option.bind_some, spF]
  congr 1
  generalize sa (12 + 6 * f) + psumF (nI f) 1 es 0 - psumF (nI f) 2 es 0 = z
  by_cases h1 : (1 : Int32) < z
  · rw [if_pos h1, if_pos (by rw [Int32.lt_iff_toInt_lt] at h1; rw [Int32.le_iff_toInt_le]; omega)]
  · rw [if_neg h1]
    by_cases h2 : (1 : Int32) ≤ z
    · rw [if_pos h2]
      apply Int32.toInt_inj.mp
      rw [Int32.lt_iff_toInt_lt] at h1; rw [Int32.le_iff_toInt_le] at h2; omega
    · rw [if_neg h2]
theorem ins_map {α β : Type} {g : α → β} : ∀ (l : List α) (p : Nat) (a : α), (l.insertIdx p a).map g = (l.map g).insertIdx p (g a)
  | l, 0, a => by simp
  | [], p + 1, a => by simp
  | x :: t, p + 1, a => by simp [ins_map t p a]
theorem ins_set {α : Type} : ∀ (l : List α) (p : Nat) (a b : α), p ≤ l.length → (l.insertIdx p a).set p b = l.insertIdx p b
  | l, 0, a, b, _ => by simp
  | [], p + 1, a, b, h => by simp at h
  | x :: t, p + 1, a, b, h => by simp [ins_set t p a b (by simpa using h)]
theorem ins_at {α : Type} : ∀ (l : List α) (p : Nat) (a : α), p ≤ l.length → (l.insertIdx p a)[p]? = some a
  | l, 0, a, _ => by simp
  | [], p + 1, a, h => by simp at h
  | x :: t, p + 1, a, h => by simp [ins_at t p a (by simpa using h)]
theorem ins_get {α : Type} : ∀ (l : List α) (p : Nat) (a : α), p ≤ l.length → ∀ k, (l.insertIdx p a)[k]? = if k < p then l[k]? else if k = p then some a else l[k - 1]?
  | l, 0, a, _, k => by
    cases k with
    | zero => simp
    | succ k => simp
  | [], p + 1, a, h, k => by simp at h
  | x :: t, p + 1, a, h, k => by
    cases k with
    | zero => simp
    | succ k =>
      have ih := ins_get t p a (by simpa using h) k
      simp only [List.insertIdx_succ_cons, List.getElem?_cons_succ, ih]
      by_cases h1 : k < p
      · rw [if_pos h1, if_pos (by omega)]
      · rw [if_neg h1, if_neg (show ¬ k + 1 < p + 1 by omega)]
        by_cases h2 : k = p
        · rw [if_pos h2, if_pos (by omega)]
        · rw [if_neg h2, if_neg (by omega)]
          obtain ⟨j, rfl⟩ : ∃ j, k = j + 1 := ⟨k - 1, by omega⟩
          simp
theorem ins_mem {α : Type} {l : List α} {p : Nat} {a x : α} (h : p ≤ l.length) : x ∈ l.insertIdx p a ↔ x = a ∨ x ∈ l := List.mem_insertIdx h
theorem ins_len {α : Type} {l : List α} {p : Nat} {a : α} (h : p ≤ l.length) : (l.insertIdx p a).length = l.length + 1 := List.length_insertIdx_of_le_length h a
/-- where one of speed s goes into the list, below j -/
def insP (sp : Nat → Int32) (s : Int32) (fl : List Nat) : Nat → Nat
  | 0 => 0
  | j + 1 => if s ≤ sp (fl.getD j 0) then j + 1 else insP sp s fl j
theorem insP_le {sp : Nat → Int32} {s : Int32} {fl : List Nat} : ∀ j, insP sp s fl j ≤ j
  | 0 => Nat.le_refl _
  | j + 1 => by
    rw [insP]
    split
    · exact Nat.le_refl _
    · exact Nat.le_succ_of_le (insP_le j)
/-- the order of a round over the first i fighters -/
def rnF (sa : Nat → Int32) (es : List Row) : Nat → List Nat
  | 0 => []
  | i + 1 => if stF sa i = true then (rnF sa es i).insertIdx (insP (spF sa es) (spF sa es i) (rnF sa es i) (rnF sa es i).length) i else rnF sa es i
theorem rnF_lt {sa : Nat → Int32} {es : List Row} : ∀ (i f : Nat), f ∈ rnF sa es i → f < i ∧ stF sa f = true
  | i + 1, f, h => by
    rw [rnF] at h
    split at h
    · rename_i hs
      rcases (ins_mem (insP_le _)).mp h with e | h
      · rw [e]; exact ⟨Nat.lt_succ_self i, hs⟩
      · have := rnF_lt i f h; exact ⟨Nat.lt_succ_of_lt this.1, this.2⟩
    · have := rnF_lt i f h; exact ⟨Nat.lt_succ_of_lt this.1, this.2⟩
theorem rnF_len {sa : Nat → Int32} {es : List Row} : ∀ i, (rnF sa es i).length ≤ i
  | 0 => Nat.le_refl _
  | i + 1 => by
    rw [rnF]
    have := rnF_len (sa := sa) (es := es) i
    split
    · rw [ins_len (insP_le _)]; omega
    · omega
theorem rnF_nodup {sa : Nat → Int32} {es : List Row} : ∀ i, (rnF sa es i).Nodup
  | 0 => List.nodup_nil
  | i + 1 => by
    rw [rnF]
    have ih := rnF_nodup (sa := sa) (es := es) i
    split
    · have hni : i ∉ rnF sa es i := fun h => Nat.lt_irrefl _ (rnF_lt i i h).1
      exact ((List.perm_insertIdx i _ (insP_le _)).nodup_iff).mpr (List.nodup_cons.mpr ⟨hni, ih⟩)
    · exact ih
/-- the class's list in the making: all wait -/
def LZ (li : Tab) (fl : List Nat) : Prop := TL 2 10 li (fl.map (fun f => [nI f, (0 : Int32)]))
theorem LZ.cnt {li : Tab} {fl : List Nat} (h : LZ li fl) : fX4_count li = some (nI fl.length) := by
  have := t_count h
  rwa [List.length_map] at this
theorem LZ.at0 {li : Tab} {fl : List Nat} {k f : Nat} (h : LZ li fl) (hk : fl[k]? = some f) : fX4_at li (nI k) 0 = some (nI f) := by
  have hr : (fl.map (fun f => [nI f, (0 : Int32)]))[k]? = some [nI f, 0] := by rw [List.getElem?_map, hk]; rfl
  exact t_at h d2 hr (show 0 < 2 by decide)
theorem c_enlL {fu n : Nat} {ft er li : Tab} {sa : Nat → Int32} {es : List Row} {fl : List Nat} {s p : Int32} (hF : FC ft sa n) (hE : EC er es) (h : LZ li fl) (hn : LN fl n) (hfu : 30 < fu) : ∀ j k, j ≤ fl.length → j < k → fX1_enlist_L25 fu ft er li p s k (nI j) (nI j + (-1)) = fX1_enlist_J57 fu ft er li p (nI (insP (spF sa es) s fl j))
  | 0, k + 1, hj, hk => by
    rw [fX1_enlist_L25, if_pos (show nI 0 + (-1) < 0 by decide), insP]
  | j + 1, k + 1, hj, hk => by
    have hlt : j < fl.length := hj
    have hg : fl[j]? = some (fl.getD j 0) := by rw [List.getD_eq_getElem?_getD, List.getElem?_eq_getElem hlt]; rfl
    have hf := hn.2 _ (List.mem_of_getElem? hg)
    have hl10 : fl.length ≤ 10 := by have := h.2.2.2.1; rwa [List.length_map] at this
    rw [fX1_enlist_L25, nP, if_neg (nI_pos (by omega))]
    simp only [h.at0 hg, c_speed hF hE hf hfu, Option.bind_some, insP]
    by_cases e : s ≤ spF sa es (fl.getD j 0)
    · rw [if_pos e, if_pos e]
    · rw [if_neg e, if_neg e]
      exact c_enlL hF hE h hn hfu j k (by omega) (by omega)
theorem c_enlist {fu n i : Nat} {ft er li : Tab} {sa : Nat → Int32} {es : List Row} {fl : List Nat} (hF : FC ft sa n) (hE : EC er es) (h : LZ li fl) (hn : LN fl n) (hi : i < n) (hl : fl.length < 10) (hfu : 30 < fu) :
    ∃ li', fX1_enlist fu ft er li (nI i) = some li' ∧ LZ li' (fl.insertIdx (insP (spF sa es) (spF sa es i) fl fl.length) i) := by
  have hp := insP_le (sp := spF sa es) (s := spF sa es i) (fl := fl) fl.length
  generalize hpe : insP (spF sa es) (spF sa es i) fl fl.length = p at hp
  have hl2 : p ≤ (fl.map (fun f => [nI f, (0 : Int32)])).length := by rw [List.length_map]; exact hp
  obtain ⟨t1, a1, a2⟩ := t_insert (fu := fu) h d2 hl2 (by rw [List.length_map]; exact hl) (by omega)
  obtain ⟨t2, b1, b2⟩ := t_put (v := nI i) a2 d2 (ins_at _ p _ hl2) (show 0 < 2 by decide)
  obtain ⟨t3, c1, c2⟩ := t_put (v := 0) b2 d2 (by rw [List.getElem?_set, if_pos rfl, if_pos (by rw [ins_len hl2]; omega)]) (show 1 < 2 by decide)
  have b1 : fX4_put t1 (nI p) 0 (nI i) = some t2 := b1
  have c1 : fX4_put t2 (nI p) 1 0 = some t3 := c1
  refine ⟨t3, ?_, ?_⟩
  · rw [fX1_enlist, c_speed hF hE hi hfu]
    simp only [h.cnt, Option.bind_some]
    rw [show nI fl.length - 1 = nI fl.length + (-1) from Int32.sub_eq_add_neg _ _, c_enlL hF hE h hn hfu _ _ (Nat.le_refl _) (by omega), hpe, fX1_enlist_J57]
    simp only [a1, b1, c1, Option.bind_some]
  · show TL 2 10 t3 _
    rw [ins_map]
    rw [List.set_set, ins_set _ _ _ _ hl2] at c2
    exact c2
theorem c_roundL {fu n : Nat} {ft er : Tab} {sa : Nat → Int32} {es : List Row} {rd : Int32} (hF : FC ft sa n) (hE : EC er es) (hfu : 30 < fu) : ∀ (d i k : Nat) (li : Tab), i + d = n → d < k → LZ li (rnF sa es i) → ∃ li', fX1_beginRound_L19 fu ft er rd k li (nI i) = some (li', rd) ∧ LZ li' (rnF sa es n)
  | 0, i, k + 1, li, hd, hk, h => by
    have e : i = n := by omega
    subst e
    refine ⟨li, ?_, h⟩
    rw [fX1_beginRound_L19]
    simp only [hF.cnt, Option.bind_some, if_pos (nle (Nat.le_refl i) (by have := hF.2; omega))]
  | d + 1, i, k + 1, li, hd, hk, h => by
    have hi : i < n := by omega
    have h10 := hF.2
    rw [fX1_beginRound_L19]
    simp only [hF.cnt, Option.bind_some, if_neg (nge hi (by omega)), c_stands hF hi, nS]
    by_cases hs : stF sa i = true
    · have hlen := rnF_len (sa := sa) (es := es) i
      obtain ⟨l1, e1, e2⟩ := c_enlist hF hE h ⟨h10, fun f hf => by have := (rnF_lt i f hf).1; omega⟩ hi (by omega) hfu
      obtain ⟨li', i1, i2⟩ := c_roundL (rd := rd) hF hE hfu d (i + 1) k l1 (by omega) (by omega) (by rw [rnF, if_pos hs]; exact e2)
      refine ⟨li', ?_, i2⟩
      rw [hs, if_neg bI_t, e1]
      exact i1
    · have hs' : stF sa i = false := by simpa using hs
      obtain ⟨li', i1, i2⟩ := c_roundL (rd := rd) hF hE hfu d (i + 1) k li (by omega) (by omega) (by rw [rnF, if_neg hs]; exact h)
      refine ⟨li', ?_, i2⟩
      rw [hs', if_pos bI_ff]
      exact i1
theorem c_round {fu n : Nat} {ft er li : Tab} {sa : Nat → Int32} {es : List Row} {rd : Int32} {rs : List Row} (hF : FC ft sa n) (hE : EC er es) (hl : TL 2 10 li rs) (hfu : 30 < fu) : ∃ li', fX1_beginRound fu ft er li rd = some (li', rd + 1) ∧ LZ li' (rnF sa es n) := by
  obtain ⟨t, a1, a2⟩ := t_clear hl
  obtain ⟨li', i1, i2⟩ := c_roundL (rd := rd + 1) hF hE hfu n 0 fu t (by omega) (by have := hF.2; omega) a2
  refine ⟨li', ?_, i2⟩
  rw [fX1_beginRound, a1]
  exact i1
theorem spF_cong {sa sa' : Nat → Int32} {es : List Row} {f : Nat} (h : sa' (12 + 6 * f) = sa (12 + 6 * f)) : spF sa' es f = spF sa es f := by unfold spF; rw [h]
theorem LC.cong {li : Tab} {sa sa' : Nat → Int32} {fl : List Nat} (h : LC li sa fl) (hs : ∀ f, f ∈ fl → sa' (12 + 6 * f + 4) = sa (12 + 6 * f + 4)) : LC li sa' fl := by
  unfold LC
  rw [List.map_congr_left (g := fun f => [nI f, sa (12 + 6 * f + 4)]) (fun f hf => by rw [hs f hf])]
  exact h
/-- a state in the list is put -/
theorem LC.put {li : Tab} {sa : Nat → Int32} {fl : List Nat} {f k : Nat} {v : Int32} (h : LC li sa fl) (hk : fl[k]? = some f) (hnd : fl.Nodup) : ∃ li', fX4_put li (nI k) 1 v = some li' ∧ LC li' (upd sa (12 + 6 * f + 4) v) fl := by
  have hr : (fl.map (fun f => [nI f, sa (12 + 6 * f + 4)]))[k]? = some [nI f, sa (12 + 6 * f + 4)] := by rw [List.getElem?_map, hk]; rfl
  obtain ⟨T', g1, g2⟩ := t_put (v := v) h d2 hr (show 1 < 2 by decide)
  refine ⟨T', g1, ?_⟩
  have e : fl.map (fun x => [nI x, upd sa (12 + 6 * f + 4) v (12 + 6 * x + 4)]) = (fl.map (fun f => [nI f, sa (12 + 6 * f + 4)])).set k ([nI f, sa (12 + 6 * f + 4)].set 1 v) := by
    apply List.ext_getElem?
    intro j
    rw [List.getElem?_set, List.getElem?_map, List.getElem?_map]
    by_cases hj : k = j
    · subst hj
      rw [if_pos rfl, List.length_map, if_pos (tl_lt hk), hk]
      simp [pk_us]
    · rw [if_neg hj]
      cases hx : fl[j]? with
      | none => rfl
      | some x =>
        have hne : x ≠ f := fun e => by
          rw [e] at hx
          exact hj ((List.getElem?_inj (tl_lt hk) hnd).mp (hk.trans hx.symm))
        simp only [Option.map_some]
        rw [pk_un (by omega)]
  unfold LC
  rw [e]; exact g2
theorem stF_nI {sa : Nat → Int32} {f lf : Nat} (h : sa (12 + 6 * f + 2) = nI lf) (hl : lf ≤ 1000) : stF sa f = decide (0 < lf) := by
  unfold stF
  rw [h]
  by_cases z : 0 < lf
  · rw [decide_eq_true z]; exact decide_eq_true (fun q => by have := (nle0 hl).mp q; omega)
  · rw [decide_eq_false z]; exact decide_eq_false (fun q => q ((nle0 hl).mpr (by omega)))
