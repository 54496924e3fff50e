/-! a new round -/
theorem ins_map {α β : Type} {g : α → β} : ∀ (l : List α) (p : Nat) (a : α), (l.insertIdx p a).map g = (l.map g).insertIdx p (g a)
  | l, 0, a => by simp
  | [], p + 1, a => by simp
  | x :: t, p + 1, a => by simp [ins_map t p a]
theorem ins_set {α : Type} : ∀ (l : List α) (p : Nat) (a b : α), p ≤ l.length → (l.insertIdx p a).set p b = l.insertIdx p b
  | l, 0, a, b, _ => by simp
  | [], p + 1, a, b, h => by simp at h
  | x :: t, p + 1, a, b, h => by simp [ins_set t p a b (by simpa using h)]
theorem ins_at {α : Type} : ∀ (l : List α) (p : Nat) (a : α), p ≤ l.length → (l.insertIdx p a)[p]? = some a
  | l, 0, a, _ => by simp
  | [], p + 1, a, h => by simp at h
  | x :: t, p + 1, a, h => by simp [ins_at t p a (by simpa using h)]
theorem ins_get {α : Type} : ∀ (l : List α) (p : Nat) (a : α), p ≤ l.length → ∀ k, (l.insertIdx p a)[k]? = if k < p then l[k]? else if k = p then some a else l[k - 1]?
  | l, 0, a, _, k => by
    cases k with
    | zero => simp
    | succ k => simp
  | [], p + 1, a, h, k => by simp at h
  | x :: t, p + 1, a, h, k => by
    cases k with
    | zero => simp
    | succ k =>
      have ih := ins_get t p a (by simpa using h) k
      simp only [List.insertIdx_succ_cons, List.getElem?_cons_succ, ih]
      by_cases h1 : k < p
      · rw [if_pos h1, if_pos (by omega)]
      · rw [if_neg h1, if_neg (show ¬ k + 1 < p + 1 by omega)]
        by_cases h2 : k = p
        · rw [if_pos h2, if_pos (by omega)]
        · rw [if_neg h2, if_neg (by omega)]
          obtain ⟨j, rfl⟩ : ∃ j, k = j + 1 := ⟨k - 1, by omega⟩
          simp
theorem ins_mem {α : Type} {l : List α} {p : Nat} {a x : α} (h : p ≤ l.length) : x ∈ l.insertIdx p a ↔ x = a ∨ x ∈ l := List.mem_insertIdx h
theorem ins_len {α : Type} {l : List α} {p : Nat} {a : α} (h : p ≤ l.length) : (l.insertIdx p a).length = l.length + 1 := List.length_insertIdx_of_le_length h a
/-- where one of speed s goes into the list, below j -/
def insP (sp : Nat → Int32) (s : Int32) (fl : List Nat) : Nat → Nat
  | 0 => 0
  | j + 1 => if s ≤ sp (fl.getD j 0) then j + 1 else insP sp s fl j
theorem insP_le {sp : Nat → Int32} {s : Int32} {fl : List Nat} : ∀ j, insP sp s fl j ≤ j
  | 0 => Nat.le_refl _
  | j + 1 => by
    rw [insP]
    split
    · exact Nat.le_refl _
    · exact Nat.le_succ_of_le (insP_le j)
/-- the order of a round over the first i fighters -/
def rnF (sa : Nat → Int32) (es : List Row) : Nat → List Nat
  | 0 => []
  | i + 1 => if stF sa i = true then (rnF sa es i).insertIdx (insP (spF sa es) (spF sa es i) (rnF sa es i) (rnF sa es i).length) i else rnF sa es i
theorem rnF_lt {sa : Nat → Int32} {es : List Row} : ∀ (i f : Nat), f ∈ rnF sa es i → f < i ∧ stF sa f = true
  | i + 1, f, h => by
    rw [rnF] at h
    split at h
    · rename_i hs
      rcases (ins_mem (insP_le _)).mp h with e | h
      · rw [e]; exact ⟨Nat.lt_succ_self i, hs⟩
      · have := rnF_lt i f h; exact ⟨Nat.lt_succ_of_lt this.1, this.2⟩
    · have := rnF_lt i f h; exact ⟨Nat.lt_succ_of_lt this.1, this.2⟩
theorem rnF_len {sa : Nat → Int32} {es : List Row} : ∀ i, (rnF sa es i).length ≤ i
  | 0 => Nat.le_refl _
  | i + 1 => by
    rw [rnF]
    have := rnF_len (sa := sa) (es := es) i
    split
    · rw [ins_len (insP_le _)]; omega
    · omega
theorem rnF_nodup {sa : Nat → Int32} {es : List Row} : ∀ i, (rnF sa es i).Nodup
  | 0 => List.nodup_nil
  | i + 1 => by
    rw [rnF]
    have ih := rnF_nodup (sa := sa) (es := es) i
    split
    · have hni : i ∉ rnF sa es i := fun h => Nat.lt_irrefl _ (rnF_lt i i h).1
      exact ((List.perm_insertIdx i _ (insP_le _)).nodup_iff).mpr (List.nodup_cons.mpr ⟨hni, ih⟩)
    · exact ih
/-- the class's list in the making: all wait -/
def LZ (li : Tab) (fl : List Nat) : Prop := TL 2 10 li (fl.map (fun f => [nI f, (0 : Int32)]))
theorem LZ.cnt {li : Tab} {fl : List Nat} (h : LZ li fl) : fX4_count li = some (nI fl.length) := by
  have := t_count h
  rwa [List.length_map] at this
theorem LZ.at0 {li : Tab} {fl : List Nat} {k f : Nat} (h : LZ li fl) (hk : fl[k]? = some f) : fX4_at li (nI k) 0 = some (nI f) := by
  have hr : (fl.map (fun f => [nI f, (0 : Int32)]))[k]? = some [nI f, 0] := by rw [List.getElem?_map, hk]; rfl
  exact t_at h d2 hr (show 0 < 2 by decide)
theorem c_enlL {fu n : Nat} {ft er li : Tab} {sa : Nat → Int32} {es : List Row} {fl : List Nat} {s p : Int32} (hF : FC ft sa n) (hE : EC er es) (h : LZ li fl) (hn : LN fl n) (hfu : 30 < fu) : ∀ j k, j ≤ fl.length → j < k → fX1_enlist_L25 fu ft er p k li s (nI j) (nI j + (-1)) = fX1_enlist_J57 fu ft er p li (nI (insP (spF sa es) s fl j))
  | 0, k + 1, hj, hk => by
    rw [fX1_enlist_L25, if_pos (show nI 0 + (-1) < 0 by decide), insP]
  | j + 1, k + 1, hj, hk => by
    have hlt : j < fl.length := hj
    have hg : fl[j]? = some (fl.getD j 0) := by rw [List.getD_eq_getElem?_getD, List.getElem?_eq_getElem hlt]; rfl
    have hf := hn.2 _ (List.mem_of_getElem? hg)
    have hl10 : fl.length ≤ 10 := by have := h.2.2.2.1; rwa [List.length_map] at this
    rw [fX1_enlist_L25, nP, if_neg (nI_pos (by omega))]
    simp only [h.at0 hg, c_speed hF hE hf hfu, Option.bind_some, insP]
    by_cases e : s ≤ spF sa es (fl.getD j 0)
    · rw [if_pos e, if_pos e]
    · rw [if_neg e, if_neg e]
      exact c_enlL hF hE h hn hfu j k (by omega) (by omega)
theorem c_enlist {fu n i : Nat} {ft er li : Tab} {sa : Nat → Int32} {es : List Row} {fl : List Nat} (hF : FC ft sa n) (hE : EC er es) (h : LZ li fl) (hn : LN fl n) (hi : i < n) (hl : fl.length < 10) (hfu : 30 < fu) :
    ∃ li', fX1_enlist fu ft er li (nI i) = some li' ∧ LZ li' (fl.insertIdx (insP (spF sa es) (spF sa es i) fl fl.length) i) := by
  have hp := insP_le (sp := spF sa es) (s := spF sa es i) (fl := fl) fl.length
  generalize hpe : insP (spF sa es) (spF sa es i) fl fl.length = p at hp
  have hl2 : p ≤ (fl.map (fun f => [nI f, (0 : Int32)])).length := by rw [List.length_map]; exact hp
  obtain ⟨t1, a1, a2⟩ := t_insert (fu := fu) h d2 hl2 (by rw [List.length_map]; exact hl) (by omega)
  obtain ⟨t2, b1, b2⟩ := t_put (v := nI i) a2 d2 (ins_at _ p _ hl2) (show 0 < 2 by decide)
  obtain ⟨t3, c1, c2⟩ := t_put (v := 0) b2 d2 (by rw [List.getElem?_set, if_pos rfl, if_pos (by rw [ins_len hl2]; omega)]) (show 1 < 2 by decide)
  have b1 : fX4_put t1 (nI p) 0 (nI i) = some t2 := b1
  have c1 : fX4_put t2 (nI p) 1 0 = some t3 := c1
  refine ⟨t3, ?_, ?_⟩
  · rw [fX1_enlist, c_speed hF hE hi hfu]
    simp only [h.cnt, Option.bind_some]
    rw [show nI fl.length - 1 = nI fl.length + (-1) from Int32.sub_eq_add_neg _ _, c_enlL hF hE h hn hfu _ _ (Nat.le_refl _) (by omega), hpe, fX1_enlist_J57]
    simp only [a1, b1, c1, Option.bind_some]
  · show TL 2 10 t3 _
    rw [ins_map]
    rw [List.set_set, ins_set _ _ _ _ hl2] at c2
    exact c2
theorem c_roundL {fu n : Nat} {ft er : Tab} {sa : Nat → Int32} {es : List Row} {rd : Int32} (hF : FC ft sa n) (hE : EC er es) (hfu : 30 < fu) : ∀ (d i k : Nat) (li : Tab), i + d = n → d < k → LZ li (rnF sa es i) → ∃ li', fX1_beginRound_L19 fu ft er k li rd (nI i) = some (li', rd) ∧ LZ li' (rnF sa es n)
  | 0, i, k + 1, li, hd, hk, h => by
    have e : i = n := by omega
    subst e
    refine ⟨li, ?_, h⟩
    rw [fX1_beginRound_L19]
    simp only [hF.cnt, Option.bind_some, if_pos (nle (Nat.le_refl i) (by have := hF.2; omega))]
  | d + 1, i, k + 1, li, hd, hk, h => by
    have hi : i < n := by omega
    have h10 := hF.2
    rw [fX1_beginRound_L19]
    simp only [hF.cnt, Option.bind_some, if_neg (nge hi (by omega)), c_stands hF hi, nS]
    by_cases hs : stF sa i = true
    · have hlen := rnF_len (sa := sa) (es := es) i
      obtain ⟨l1, e1, e2⟩ := c_enlist hF hE h ⟨h10, fun f hf => by have := (rnF_lt i f hf).1; omega⟩ hi (by omega) hfu
      obtain ⟨li', i1, i2⟩ := c_roundL (rd := rd) hF hE hfu d (i + 1) k l1 (by omega) (by omega) (by rw [rnF, if_pos hs]; exact e2)
      refine ⟨li', ?_, i2⟩
      rw [hs, if_neg bI_t, e1]
      exact i1
    · have hs' : stF sa i = false := by simpa using hs
      obtain ⟨li', i1, i2⟩ := c_roundL (rd := rd) hF hE hfu d (i + 1) k li (by omega) (by omega) (by rw [rnF, if_neg hs]; exact h)
      refine ⟨li', ?_, i2⟩
      rw [hs', if_pos bI_ff]
      exact i1
theorem c_round {fu n : Nat} {ft er li : Tab} {sa : Nat → Int32} {es : List Row} {rd : Int32} {rs : List Row} (hF : FC ft sa n) (hE : EC er es) (hl : TL 2 10 li rs) (hfu : 30 < fu) : ∃ li', fX1_beginRound fu ft er li rd = some (li', rd + 1) ∧ LZ li' (rnF sa es n) := by
  obtain ⟨t, a1, a2⟩ := t_clear hl
  obtain ⟨li', i1, i2⟩ := c_roundL (rd := rd + 1) hF hE hfu n 0 fu t (by omega) (by have := hF.2; omega) a2
  refine ⟨li', ?_, i2⟩
  rw [fX1_beginRound, a1]
  exact i1
theorem spF_cong {sa sa' : Nat → Int32} {es : List Row} {f : Nat} (h : sa' (12 + 6 * f) = sa (12 + 6 * f)) : spF sa' es f = spF sa es f := by unfold spF; rw [h]
/-- the reference makes room -/
theorem m_shift {fu n i : Nat} {es : List Row} {sp : Nat → Int32} {fl : List Nat} (hn : LN fl n) (hl : fl.length < 10) (hi : i < 10) (hfu : 30 < fu) : ∀ (j k : Nat) (sa : Nat → Int32), j ≤ fl.length → j < k → EM sa es → (∀ f, f < 10 → spF sa es f = sp f) → (∀ q, q < j → sa (72 + q) = nI (fl.getD q 0)) →
    ∃ sa', fX6_newRound_L60 fu k sa (nI i) (nI j) = some (sa', nI i, nI (insP sp (sp i) fl j)) ∧ ∀ q, sa' q = if 72 + insP sp (sp i) fl j < q ∧ q ≤ 72 + j then sa (q - 1) else sa q
  | 0, k + 1, sa, hj, hk, hE, hs, hq => by
    refine ⟨sa, ?_, fun q => by rw [if_neg (by rw [insP]; omega)]⟩
    rw [fX6_newRound_L60, if_pos (show nI 0 ≤ 0 by decide), insP]
  | j + 1, k + 1, sa, hj, hk, hE, hs, hq => by
    have hlt : j < fl.length := hj
    have hg : fl[j]? = some (fl.getD j 0) := by rw [List.getD_eq_getElem?_getD, List.getElem?_eq_getElem hlt]; rfl
    have hf : fl.getD j 0 < 10 := by have := hn.2 _ (List.mem_of_getElem? hg); have := hn.1; omega
    have e1 : (72 : Int32) + nI (j + 1) - 1 = nI (72 + j) := by rw [ofL]; exact nI_pred _
    have e2 : (72 : Int32) + nI (j + 1) = nI (72 + j + 1) := ofL (j + 1)
    rw [fX6_newRound_L60, if_neg (nI_nle (by omega) (by omega)), e1, e2, gd (72 + j) rfl (by omega) (by decide), nI_clamp (show 72 + j < 2 ^ 31 by omega), hq j (Nat.lt_succ_self j)]
    simp only [m_speed hE hf hfu, m_speed hE hi hfu, hs _ hf, hs _ hi, Option.bind_some]
    by_cases e : sp i ≤ sp (fl.getD j 0)
    · have ei : insP sp (sp i) fl (j + 1) = j + 1 := by rw [insP, if_pos e]
      rw [if_pos e, ei]
      exact ⟨sa, rfl, fun q => by rw [if_neg (by omega)]⟩
    · have ei : insP sp (sp i) fl (j + 1) = insP sp (sp i) fl j := by rw [insP, if_neg e]
      rw [if_neg e, ei, gk (show 72 + j < 378 by omega) (by decide), gd (72 + j + 1) rfl (by omega) (by decide), nI_clamp (show 72 + j + 1 < 2 ^ 31 by omega), nP]
      obtain ⟨sa', i1, i2⟩ := m_shift (sp := sp) hn hl hi hfu j k (upd sa (72 + j + 1) (nI (fl.getD j 0))) (by omega) (by omega) (hE.cong (pk_un (by omega)) (fun q h1 h2 => pk_un (by omega))) (fun f hf9 => (spF_cong (pk_un (by omega))).trans (hs f hf9)) (fun q hq9 => by rw [pk_un (by omega)]; exact hq q (by omega))
      refine ⟨sa', i1, fun q => ?_⟩
      have hp := insP_le (sp := sp) (s := sp i) (fl := fl) j
      rw [i2 q]
      by_cases h1 : 72 + insP sp (sp i) fl j < q ∧ q ≤ 72 + j
      · rw [if_pos h1, if_pos (by omega), pk_un (by omega)]
      · rw [if_neg h1]
        by_cases h2 : q = 72 + j + 1
        · subst h2
          rw [pk_us, if_pos (by omega), show 72 + j + 1 - 1 = 72 + j by omega, hq j (Nat.lt_succ_self j)]
        · rw [pk_un h2, if_neg (by omega)]
/-- the reference's round in the making: the first i fighters are done -/
def RM (s0 sa : Nat → Int32) (es : List Row) (i : Nat) : Prop := LM sa (rnF s0 es i) ∧ (∀ f, f < i → sa (12 + 6 * f + 4) = if f ∈ rnF s0 es i then 0 else -1) ∧ (∀ f, f < i → sa (12 + 6 * f + 5) = 0) ∧ ∀ q, q ≠ 6 → (q < 72 ∨ 82 ≤ q) → (∀ f, f < i → q ≠ 12 + 6 * f + 4 ∧ q ≠ 12 + 6 * f + 5) → sa q = s0 q
theorem m_roundL {fu n : Nat} {s0 : Nat → Int32} {es : List Row} (h0 : s0 0 = nI n) (hn : n ≤ 10) (hE : EM s0 es) (hfu : 30 < fu) : ∀ (d i k : Nat) (sa : Nat → Int32), i + d = n → d < k → RM s0 sa es i → ∃ sa', fX6_newRound_L20 fu k sa (nI i) = some sa' ∧ RM s0 sa' es n
  | 0, i, k + 1, sa, hd, hk, h => by
    have e : i = n := by omega
    subst e
    refine ⟨sa, ?_, h⟩
    rw [fX6_newRound_L20]
    simp only [q0, g0, if_true, h.2.2.2 0 (by decide) (by decide) (fun f _ => by omega), h0, if_pos (nle (Nat.le_refl i) (by omega))]
  | d + 1, i, k + 1, sa, hd, hk, h => by
    have hi : i < n := by omega
    have hlen := rnF_len (sa := s0) (es := es) i
    obtain ⟨r1, r2, r3, r4⟩ := h
    obtain ⟨m1, m2, m3⟩ := r1
    have u1 : fX6_set sa (nI i) 4 (-1) = some (upd sa (12 + 6 * i + 4) (-1)) := m_set sa _ (by omega) (show 4 < 6 by decide)
    have u2 : fX6_set (upd sa (12 + 6 * i + 4) (-1)) (nI i) 5 0 = some (upd (upd sa (12 + 6 * i + 4) (-1)) (12 + 6 * i + 5) 0) := m_set _ _ (by omega) (show 5 < 6 by decide)
    generalize hx2 : upd (upd sa (12 + 6 * i + 4) (-1)) (12 + 6 * i + 5) 0 = x2 at u2
    have v : ∀ q, q ≠ 12 + 6 * i + 4 → q ≠ 12 + 6 * i + 5 → x2 q = sa q := fun q a b => by rw [← hx2, pk_un b, pk_un a]
    have v4 : x2 (12 + 6 * i + 4) = -1 := by rw [← hx2, pk_un (by omega), pk_us]
    have v5 : x2 (12 + 6 * i + 5) = 0 := by rw [← hx2, pk_us]
    have hst : stF x2 i = stF s0 i := by unfold stF; rw [v _ (by omega) (by omega), r4 _ (by omega) (by omega) (fun f hf => by omega)]
    have e0 : sa 0 = nI n := by rw [r4 0 (by decide) (by decide) (fun f _ => by omega), h0]
    rw [fX6_newRound_L20]
    simp only [q0, g0, if_true, e0, if_neg (nge hi (by omega)), u1, u2, m_stands' x2 (show i < 10 by omega), hst, Option.bind_some, nS, q6, g6]
    by_cases hs : stF s0 i = true
    · rw [hs, if_neg bI_t]
      have e6 : x2 6 = nI (rnF s0 es i).length := by rw [v 6 (by omega) (by omega), m1]
      have hE2 : EM x2 es := hE.cong (by rw [v 1 (by omega) (by omega), r4 1 (by decide) (by decide) (fun f _ => by omega)]) (fun q h1 h2 => by rw [v q (by omega) (by omega), r4 q (by omega) (by omega) (fun f hf => by omega)])
      have hsp : ∀ f, f < 10 → spF x2 es f = spF s0 es f := fun f hf => spF_cong (by rw [v _ (by omega) (by omega), r4 _ (by omega) (by omega) (fun f' hf' => by omega)])
      have hLN : LN (rnF s0 es i) n := ⟨hn, fun f hf => by have := (rnF_lt i f hf).1; omega⟩
      obtain ⟨y, y1, y2⟩ := m_shift (fu := fu) (i := i) (sp := spF s0 es) hLN (by omega) (by omega) hfu (rnF s0 es i).length fu x2 (Nat.le_refl _) (by omega) hE2 hsp (fun q hq => by
        rw [v _ (by omega) (by omega)]
        exact m3 q _ (by rw [List.getD_eq_getElem?_getD, List.getElem?_eq_getElem hq]; rfl))
      have hp := insP_le (sp := spF s0 es) (s := spF s0 es i) (fl := rnF s0 es i) (rnF s0 es i).length
      have hrn : rnF s0 es (i + 1) = (rnF s0 es i).insertIdx (insP (spF s0 es) (spF s0 es i) (rnF s0 es i) (rnF s0 es i).length) i := by rw [rnF, if_pos hs]
      generalize hpe : insP (spF s0 es) (spF s0 es i) (rnF s0 es i) (rnF s0 es i).length = p at y1 y2 hp hrn
      rw [e6, y1]
      simp only [Option.bind_some, ofL]
      rw [gd (72 + p) rfl (by omega) (by decide), nI_clamp (show 72 + p < 2 ^ 31 by omega)]
      have y6 : upd y (72 + p) (nI i) 6 = nI (rnF s0 es i).length := by rw [pk_un (by omega), y2, if_neg (by omega), e6]
      rw [y6, nS]
      have u3 : fX6_set (upd (upd y (72 + p) (nI i)) 6 (nI ((rnF s0 es i).length + 1))) (nI i) 4 0 = some (upd (upd (upd y (72 + p) (nI i)) 6 (nI ((rnF s0 es i).length + 1))) (12 + 6 * i + 4) 0) := m_set _ _ (by omega) (show 4 < 6 by decide)
      rw [u3]
      simp only [Option.bind_some, nS]
      generalize hz : upd (upd (upd y (72 + p) (nI i)) 6 (nI ((rnF s0 es i).length + 1))) (12 + 6 * i + 4) 0 = z
      have z0 : ∀ q, q ≠ 6 → (q < 72 ∨ 82 ≤ q) → q ≠ 12 + 6 * i + 4 → z q = x2 q := fun q a b c => by
        rw [← hz, pk_un c, pk_un a, pk_un (by omega), y2, if_neg (by omega)]
      have z6 : z 6 = nI ((rnF s0 es i).length + 1) := by rw [← hz, pk_un (by omega), pk_us]
      have z4 : z (12 + 6 * i + 4) = 0 := by rw [← hz, pk_us]
      have zl : ∀ q, q < 10 → z (72 + q) = if q = p then nI i else if p < q ∧ q ≤ (rnF s0 es i).length then sa (72 + q - 1) else sa (72 + q) := fun q hq => by
        rw [← hz, pk_un (by omega), pk_un (by omega)]
        by_cases hqp : q = p
        · rw [hqp, pk_us, if_pos rfl]
        · rw [pk_un (by omega), if_neg hqp, y2]
          by_cases hr : p < q ∧ q ≤ (rnF s0 es i).length
          · rw [if_pos hr, if_pos (by omega), v _ (by omega) (by omega)]
          · rw [if_neg hr, if_neg (by omega), v _ (by omega) (by omega)]
      refine m_roundL h0 hn hE hfu d (i + 1) k z (by omega) (by omega) ⟨⟨?_, ?_, ?_⟩, ?_, ?_, ?_⟩
      · rw [z6, hrn, ins_len hp]
      · rw [hrn, ins_len hp]; omega
      · intro q f hq
        rw [hrn, ins_get _ _ _ hp] at hq
        have hq10 : q < 10 := by
          rcases Nat.lt_or_ge q 10 with a | a
          · exact a
          · rw [if_neg (by omega), if_neg (by omega), List.getElem?_eq_none (by omega)] at hq; cases hq
        rw [zl q hq10]
        by_cases hqp : q = p
        · rw [if_neg (by omega), if_pos hqp] at hq
          cases hq
          rw [if_pos hqp]
        · rw [if_neg hqp]
          by_cases hlt : q < p
          · rw [if_pos hlt] at hq
            rw [if_neg (by omega)]
            exact m3 q f hq
          · rw [if_neg hlt, if_neg hqp] at hq
            have hql := tl_lt hq
            rw [if_pos (by omega), show 72 + q - 1 = 72 + (q - 1) by omega]
            exact m3 (q - 1) f hq
      · intro f hf
        rw [hrn]
        by_cases hfi : f = i
        · subst hfi
          rw [z4, if_pos ((ins_mem hp).mpr (Or.inl rfl))]
        · rw [z0 _ (by omega) (by omega) (by omega), v _ (by omega) (by omega), r2 f (by omega)]
          by_cases hm : f ∈ rnF s0 es i
          · rw [if_pos hm, if_pos ((ins_mem hp).mpr (Or.inr hm))]
          · rw [if_neg hm, if_neg (fun q => by rcases (ins_mem hp).mp q with e | e; exact hfi e; exact hm e)]
      · intro f hf
        by_cases hfi : f = i
        · subst hfi
          rw [z0 _ (by omega) (by omega) (by omega), v5]
        · rw [z0 _ (by omega) (by omega) (by omega), v _ (by omega) (by omega), r3 f (by omega)]
      · intro q a b c
        have ci := c i (Nat.lt_succ_self i)
        rw [z0 q a b ci.1, v q ci.1 ci.2]
        exact r4 q a b (fun f hf => c f (Nat.lt_succ_of_lt hf))
    · have hs' : stF s0 i = false := by simpa using hs
      have hrn : rnF s0 es (i + 1) = rnF s0 es i := by rw [rnF, if_neg hs]
      rw [hs', if_pos bI_ff]
      refine m_roundL h0 hn hE hfu d (i + 1) k x2 (by omega) (by omega) ⟨⟨?_, ?_, ?_⟩, ?_, ?_, ?_⟩
      · rw [hrn, v 6 (by omega) (by omega)]; exact m1
      · rw [hrn]; exact m2
      · intro q f hq
        rw [hrn] at hq
        have hql := tl_lt hq
        rw [v _ (by omega) (by omega)]
        exact m3 q f hq
      · intro f hf
        rw [hrn]
        by_cases hfi : f = i
        · subst hfi
          rw [v4, if_neg (fun q => Nat.lt_irrefl _ (rnF_lt _ _ q).1)]
        · rw [v _ (by omega) (by omega), r2 f (by omega)]
      · intro f hf
        by_cases hfi : f = i
        · subst hfi; exact v5
        · rw [v _ (by omega) (by omega), r3 f (by omega)]
      · intro q a b c
        have ci := c i (Nat.lt_succ_self i)
        rw [v q ci.1 ci.2]
        exact r4 q a b (fun f hf => c f (Nat.lt_succ_of_lt hf))
theorem m_round {fu n : Nat} {sa : Nat → Int32} {es : List Row} (h0 : sa 0 = nI n) (hn : n ≤ 10) (hE : EM sa es) (hfu : 30 < fu) : ∃ sa', fX6_newRound fu sa = some sa' ∧ LM sa' (rnF sa es n) ∧ (∀ f, f < n → sa' (12 + 6 * f + 4) = if f ∈ rnF sa es n then 0 else -1) ∧ (∀ f, f < n → sa' (12 + 6 * f + 5) = 0) ∧ sa' 3 = sa 3 + 1 ∧ ∀ q, q ≠ 3 → q ≠ 6 → (q < 72 ∨ 82 ≤ q) → (∀ f, f < n → q ≠ 12 + 6 * f + 4 ∧ q ≠ 12 + 6 * f + 5) → sa' q = sa q := by
  generalize hs : upd (upd sa 3 (sa 3 + 1)) 6 0 = s0
  have w : ∀ q, q ≠ 3 → q ≠ 6 → s0 q = sa q := fun q a b => by rw [← hs, pk_un b, pk_un a]
  have hEs : EM s0 es := hE.cong (w 1 (by decide) (by decide)) (fun q h1 h2 => w q (by omega) (by omega))
  have hst : ∀ f, stF s0 f = stF sa f := fun f => by unfold stF; rw [w _ (by omega) (by omega)]
  have hsp : spF s0 es = spF sa es := funext fun f => spF_cong (w _ (by omega) (by omega))
  have hrn : ∀ i, rnF s0 es i = rnF sa es i := by
    intro i
    induction i with
    | zero => rfl
    | succ i ih => rw [rnF, rnF, hst, hsp, ih]
  obtain ⟨sa', i1, i2, i3, i4, i5⟩ := m_roundL (fu := fu) (s0 := s0) (by rw [w 0 (by decide) (by decide)]; exact h0) hn hEs hfu n 0 fu s0 (by omega) (by omega) ⟨⟨by rw [← hs, pk_us]; rfl, Nat.zero_le _, fun k f hk => by cases hk⟩, fun f hf => by omega, fun f hf => by omega, fun q _ _ _ => rfl⟩
  rw [hrn] at i2
  refine ⟨sa', ?_, i2, fun f hf => by rw [i3 f hf, hrn], i4, ?_, fun q a b c d => by rw [i5 q b c d, w q a b]⟩
  · rw [fX6_newRound]
    simp only [q3, g3, q6, g6, if_true]
    rw [hs]
    exact i1
  · rw [i5 3 (by decide) (by decide) (fun f _ => by omega), ← hs, pk_un (by decide), pk_us]
