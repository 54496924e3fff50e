/-! the script text is read, on both sides -/
def hereF (bs : List Int32) (i : Nat) : Int32 := (bs[i]?).getD (-1)
theorem hereF_lt {bs : List Int32} {i : Nat} (h : hereF bs i ≠ -1) : i < bs.length := by
  rcases Nat.lt_or_ge i bs.length with q | q
  · exact q
  · unfold hereF at h
    rw [List.getElem?_eq_none q] at h
    exact absurd rfl h
theorem hereF_end {bs : List Int32} {i : Nat} (h : bs.length ≤ i) : hereF bs i = -1 := by
  unfold hereF
  rw [List.getElem?_eq_none h]
  rfl
theorem hereF_at {bs : List Int32} {i : Nat} (h : i < bs.length) : bs[i]? = some (hereF bs i) := by
  unfold hereF
  rw [List.getElem?_eq_getElem h]
  rfl
theorem t_clearZ {c mx : Nat} {T : Tab} (h : TZ c mx T) : ∃ T', fX4_clear T = some T' ∧ TL c mx T' [] :=
  ⟨(T.1, T.2.1, T.2.2.1, (0 : Int32)), by rw [fX4_clear], h.1, h.2, rfl, Nat.zero_le _, fun i r hr => by simp at hr⟩
section RD
variable {fu : Nat} {tx : Tab} {mt : Nat → Int32} {bs : List Int32}
/-- the text on both sides -/
def TT (tx : Tab) (mt : Nat → Int32) (bs : List Int32) : Prop := TL 1 120 tx (bs.map (fun b => [b])) ∧ (∀ (i : Nat) (b : Int32), bs[i]? = some b → mt i = b) ∧ ∀ b, b ∈ bs → ∃ j, j < 128 ∧ b = nI j
theorem TT.len (h : TT tx mt bs) : bs.length ≤ 120 := by
  have := h.1.2.2.2.1
  rwa [List.length_map] at this
theorem TT.cnt (h : TT tx mt bs) : fX4_count tx = some (nI bs.length) := by
  have := t_count h.1
  rwa [List.length_map] at this
theorem TT.at (h : TT tx mt bs) {i : Nat} (hi : i < bs.length) : fX4_at tx (nI i) 0 = some (hereF bs i) := by
  have hr : (bs.map (fun b => [b]))[i]? = some [hereF bs i] := by rw [List.getElem?_map, hereF_at hi]; rfl
  exact t_at h.1 d1 hr (show 0 < 1 by decide)
theorem m_here (h : TT tx mt bs) {i : Nat} (hi : i ≤ bs.length) : fX6_here mt (nI bs.length) (nI i) = some (hereF bs i) := by
  have hl := h.len
  rw [fX6_here]
  rcases Nat.lt_or_ge i bs.length with q | q
  · rw [if_neg (nI_ge q (by omega)), gd i rfl (by omega) (by decide), nI_clamp (by omega), h.2.1 i _ (hereF_at q)]
  · rw [if_pos (nI_le q (by omega)), hereF_end q]
theorem m_isD (h : TT tx mt bs) {i : Nat} (hi : i ≤ bs.length) : fX6_isDigit mt (nI bs.length) (nI i) = some (inB (hereF bs i) 48 57) := by
  rw [fX6_isDigit, m_here h hi]
  simp only [Option.bind_some, m_in]
theorem m_tT (i : Nat) : fX6_takes (nI i) true = some (true, nI (i + 1)) := by
  rw [fX6_takes, if_neg bI_t, nS]
theorem m_tF (i : Nat) : fX6_takes (nI i) false = some (false, nI i) := by
  rw [fX6_takes, if_pos bI_ff, Int32.add_zero]
theorem c_isD (b : Int32) : fX3_isDigit b = some (inB b 48 57) := by
  rw [fX3_isDigit, inB]; split
  · rfl
  · split <;> rfl
theorem dig_of {b : Int32} (h : inB b 48 57 = true) : ∃ d, d ≤ 9 ∧ b = nI (48 + d) ∧ b - 48 = nI d := by
  obtain ⟨j, j1, j2, rfl⟩ := inB_r (a := 48) (b := 57) h (by decide) (by decide)
  refine ⟨j - 48, by omega, by rw [show 48 + (j - 48) = j by omega], ?_⟩
  exact pk_sub (b := 48) j1
theorem dig_ne {b : Int32} (h : inB b 48 57 = true) : b ≠ -1 := by
  obtain ⟨d, d1, rfl, -⟩ := dig_of h
  exact nI_m1 (by omega)
/-- the class: a byte that can stand there -/
theorem c_ok (h : TT tx mt bs) {k i : Nat} {cm cm' : Tab} {w w' : Int32} (hi : i < bs.length) (hw : fX3_wantBehind w (hereF bs i) = some w') (hne : w' ≠ -1) (hn : fX3_note fu cm w (hereF bs i) = some cm') : fX3_read_L11 fu tx (k + 1) cm w (nI i) = fX3_read_L11 fu tx k cm' w' (nI (i + 1)) := by
  have hl := h.len
  rw [fX3_read_L11, h.cnt]
  simp only [Option.bind_some, if_neg (nge hi (by omega)), h.at hi, hw, if_neg hne, hn, nS]
/-- a byte that can't, or the end -/
theorem c_bad (h : TT tx mt bs) {k i : Nat} {cm : Tab} {w : Int32} (hi : i ≤ bs.length) (hw : fX3_wantBehind w (hereF bs i) = some (-1)) (h0 : w ≠ 0 ∨ i < bs.length) : fX3_read_L11 fu tx (k + 1) cm w (nI i) = some (nI i, cm) := by
  have hl := h.len
  rw [fX3_read_L11, h.cnt]
  simp only [Option.bind_some]
  rcases Nat.lt_or_ge i bs.length with q | q
  · simp only [if_neg (nge q (by omega)), h.at q, hw, Option.bind_some, if_true]
  · have e : i = bs.length := by omega
    have hw0 : w ≠ 0 := by
      rcases h0 with z | z
      · exact z
      · omega
    rw [if_pos (nle q (by omega)), if_neg hw0, e]
theorem c_end (h : TT tx mt bs) {k : Nat} {cm : Tab} : fX3_read_L11 fu tx (k + 1) cm 0 (nI bs.length) = some (-1, cm) := by
  have hl := h.len
  rw [fX3_read_L11, h.cnt]
  simp only [Option.bind_some, if_pos (nle (Nat.le_refl bs.length) (by omega)), if_true]
/-! what a byte writes into the commands -/
theorem n_let {cm : Tab} {rows : List Row} (b : Int32) (h : TL 3 60 cm rows) (hr : rows.length < 60) (hfu : 2000 < fu) : ∃ cm', fX3_note fu cm 0 b = some cm' ∧ TL 3 60 cm' (rows ++ [[b, 0, 0]]) := by
  obtain ⟨t, a1, a2⟩ := t_push (fu := fu) h d3 hr (by omega)
  obtain ⟨t', b1, b2⟩ := t_ptop (v := b) a2 d3 (show 0 < 3 by decide)
  have b1 : fX4_put t (nI rows.length) 0 b = some t' := b1
  have hc : fX4_count t = some (nI (rows.length + 1)) := by rw [t_count a2]; simp
  refine ⟨t', ?_, b2⟩
  rw [fX3_note, if_pos rfl, t_count h]
  simp only [Option.bind_some, a1]
  rw [fX3_note_J18, hc]
  simp only [Option.bind_some, if_true, nI_pred, b1]
theorem n_fig {cm : Tab} {rows : List Row} {l f p : Int32} (w b : Int32) (hw : w = 1 ∨ w = 2) (h : TL 3 60 cm (rows ++ [[l, f, p]])) : ∃ cm', fX3_note fu cm w b = some cm' ∧ TL 3 60 cm' (rows ++ [[l, b - 48, p]]) := by
  obtain ⟨t', b1, b2⟩ := t_ptop (v := b - 48) h d3 (show 1 < 3 by decide)
  have b1 : fX4_put cm (nI rows.length) 1 (b - 48) = some t' := b1
  have hc : fX4_count cm = some (nI (rows.length + 1)) := by rw [t_count h]; simp
  refine ⟨t', ?_, b2⟩
  rcases hw with rfl | rfl
  · rw [fX3_note, if_neg (by decide), fX3_note_J18, hc]
    simp only [Option.bind_some]
    rw [if_neg (by decide), if_pos trivial, fX3_note_J55, nI_pred, b1]
    rfl
  · rw [fX3_note, if_neg (by decide), fX3_note_J18, hc]
    simp only [Option.bind_some]
    rw [if_neg (by decide), if_neg (by decide), if_pos trivial, fX3_note_J55, nI_pred, b1]
    rfl
theorem n_no {cm : Tab} {rows : List Row} (w b : Int32) (h0 : w ≠ 0) (h1 : w ≠ 1) (h2 : w ≠ 2) (hb : inB b 48 57 = false) (h : TL 3 60 cm rows) : fX3_note fu cm w b = some cm := by
  rw [fX3_note, if_neg h0, fX3_note_J18, t_count h]
  simp only [Option.bind_some]
  rw [if_neg h0, if_neg h1, if_neg h2, c_isD, hb]
  simp only [Option.bind_some, bIf, if_true]
theorem n_pow {cm : Tab} {rows : List Row} {l f p : Int32} (w b : Int32) (h0 : w ≠ 0) (h1 : w ≠ 1) (h2 : w ≠ 2) (hb : inB b 48 57 = true) (h : TL 3 60 cm (rows ++ [[l, f, p]])) : ∃ cm', fX3_note fu cm w b = some cm' ∧ TL 3 60 cm' (rows ++ [[l, f, ((10 : Int32) * p + b) - 48]]) := by
  obtain ⟨t', b1, b2⟩ := t_ptop (v := ((10 : Int32) * p + b) - 48) h d3 (show 2 < 3 by decide)
  have b1 : fX4_put cm (nI rows.length) 2 (((10 : Int32) * p + b) - 48) = some t' := b1
  have hc : fX4_count cm = some (nI (rows.length + 1)) := by rw [t_count h]; simp
  have ha : fX4_at cm (nI rows.length) 2 = some p := t_at h d3 (show (rows ++ [[l, f, p]])[rows.length]? = some [l, f, p] by simp) (show 2 < 3 by decide)
  refine ⟨t', ?_, b2⟩
  rw [fX3_note, if_neg h0, fX3_note_J18, hc]
  simp only [Option.bind_some]
  rw [if_neg h0, if_neg h1, if_neg h2, c_isD, hb]
  simp only [Option.bind_some, bIt, if_false, nI_pred, ha, b1]
/-! what can stand where -/
theorem wb1 (b : Int32) : fX3_wantBehind 1 b = some (if inB b 48 57 = true then 6 else -1) := by
  rw [fX3_wantBehind, if_neg (by decide), if_pos rfl, c_isD]
  cases inB b 48 57 <;> simp only [Option.bind_some, bIf, bIt, if_true, if_false, bft, btt]
theorem wb2 (b : Int32) : fX3_wantBehind 2 b = some (if inB b 48 57 = true then 3 else -1) := by
  rw [fX3_wantBehind, if_neg (by decide), if_neg (by decide), if_pos rfl, c_isD]
  cases inB b 48 57 <;> simp only [Option.bind_some, bIf, bIt, if_true, if_false, bft, btt]
theorem wb3 (b : Int32) : fX3_wantBehind 3 b = some (if b = 44 then 4 else -1) := by
  rw [fX3_wantBehind, if_neg (by decide), if_neg (by decide), if_neg (by decide), if_pos rfl]
  split <;> rfl
theorem wb4 (b : Int32) : fX3_wantBehind 4 b = some (if inB b 48 57 = true then 5 else -1) := by
  rw [fX3_wantBehind, if_neg (by decide), if_neg (by decide), if_neg (by decide), if_neg (by decide), if_pos rfl, c_isD]
  cases inB b 48 57 <;> simp only [Option.bind_some, bIf, bIt, if_true, if_false, bft, btt]
theorem wb5 (b : Int32) : fX3_wantBehind 5 b = some (if inB b 48 57 = true then 6 else if b = 59 then 0 else -1) := by
  rw [fX3_wantBehind, if_neg (by decide), if_neg (by decide), if_neg (by decide), if_neg (by decide), if_neg (by decide), if_pos rfl, c_isD, fX3_wantBehindEnd]
  cases inB b 48 57
  · simp only [Option.bind_some, bIf, if_true, bft, if_false]
    split <;> rfl
  · simp only [Option.bind_some, bIt, if_true, btt, if_false]
theorem wb6 (b : Int32) : fX3_wantBehind 6 b = some (if b = 59 then 0 else -1) := by
  rw [fX3_wantBehind, if_neg (by decide), if_neg (by decide), if_neg (by decide), if_neg (by decide), if_neg (by decide), if_neg (by decide), fX3_wantBehindEnd]
  split <;> rfl
/-- the letters -/
def plainL (b : Int32) : Prop := b = 110 ∨ b = 101 ∨ b = 100 ∨ b = 114
def actL (b : Int32) : Prop := b = 115 ∨ b = 104
theorem wb0_p {b : Int32} (h : plainL b) : fX3_wantBehind 0 b = some 6 := by
  rcases h with rfl | rfl | rfl | rfl <;> rfl
theorem wb0_c : fX3_wantBehind 0 99 = some 1 := rfl
theorem wb0_a {b : Int32} (h : actL b) : fX3_wantBehind 0 b = some 2 := by
  rcases h with rfl | rfl <;> rfl
theorem wb0_n {b : Int32} (h1 : ¬ plainL b) (h2 : ¬ actL b) (h3 : b ≠ 99) : fX3_wantBehind 0 b = some (-1) := by
  have a1 : b ≠ 110 := fun q => h1 (Or.inl q)
  have a2 : b ≠ 101 := fun q => h1 (Or.inr (Or.inl q))
  have a3 : b ≠ 100 := fun q => h1 (Or.inr (Or.inr (Or.inl q)))
  have a4 : b ≠ 114 := fun q => h1 (Or.inr (Or.inr (Or.inr q)))
  have a5 : b ≠ 115 := fun q => h2 (Or.inl q)
  have a6 : b ≠ 104 := fun q => h2 (Or.inr q)
  rw [fX3_wantBehind, if_pos rfl, fX3_wantBehindLetter, if_neg h3, if_neg a3, if_neg a2]
  simp only [if_neg a6, if_neg a1, if_neg a4, if_neg a5, ite_self, Option.bind_some]
end RD
