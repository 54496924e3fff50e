/-! a command is read, on both sides -/
def RF (row : Row) (dg pw : Int32) : Prop := plainL (gD row 0) ∨ (gD row 0 = 99 ∧ gD row 1 = dg ∧ ∃ d, d ≤ 9 ∧ dg = nI d) ∨ (actL (gD row 0) ∧ gD row 1 = dg ∧ gD row 2 = pw ∧ ∃ d, d ≤ 9 ∧ dg = nI d)
section CM
variable {fu : Nat} {tx : Tab} {mt : Nat → Int32} {bs : List Int32}
theorem m_rp {ln nx b c0 d0 p0 : Int32} (h : fX6_here mt ln nx = some b) (hb : plainL b) : fX6_readsCommand mt ln nx c0 d0 p0 = fX6_readsCommand_J97 mt ln nx b d0 p0 true false true := by
  rcases hb with rfl | rfl | rfl | rfl <;> (rw [fX6_readsCommand, h]; rfl)
theorem m_ra {ln nx b c0 d0 p0 : Int32} (h : fX6_here mt ln nx = some b) (hb : actL b) : fX6_readsCommand mt ln nx c0 d0 p0 = fX6_readsCommand_J97 mt ln nx b d0 p0 false true true := by
  rcases hb with rfl | rfl <;> (rw [fX6_readsCommand, h]; rfl)
theorem m_rc {ln nx c0 d0 p0 : Int32} (h : fX6_here mt ln nx = some 99) : fX6_readsCommand mt ln nx c0 d0 p0 = fX6_readsCommand_J97 mt ln nx 99 d0 p0 false false true := by
  rw [fX6_readsCommand, h]; rfl
theorem m_rn {ln nx b c0 d0 p0 : Int32} (h : fX6_here mt ln nx = some b) (h1 : ¬ plainL b) (h2 : ¬ actL b) (h3 : b ≠ 99) : fX6_readsCommand mt ln nx c0 d0 p0 = fX6_readsCommand_J97 mt ln nx b d0 p0 false false false := by
  have a1 : b ≠ 110 := fun q => h1 (Or.inl q)
  have a2 : b ≠ 101 := fun q => h1 (Or.inr (Or.inl q))
  have a3 : b ≠ 100 := fun q => h1 (Or.inr (Or.inr (Or.inl q)))
  have a4 : b ≠ 114 := fun q => h1 (Or.inr (Or.inr (Or.inr q)))
  have a5 : b ≠ 115 := fun q => h2 (Or.inl q)
  have a6 : b ≠ 104 := fun q => h2 (Or.inr q)
  rw [fX6_readsCommand, h]
  simp only [Option.bind_some]
  rw [if_neg a1, if_neg a2, if_neg a3, if_neg a4, fX6_readsCommand_J49, if_neg a5, if_neg a6, fX6_readsCommand_J73, if_pos bI_ff, if_pos bI_ff, if_neg h3]
/-- the semicolon -/
theorem m_semi (h : TT tx mt bs) {j : Nat} (hj : j ≤ bs.length) (cd dg pw : Int32) : fX6_readsCommand_J132 mt (nI bs.length) (nI j) cd dg pw true = some (if hereF bs j = 59 then (true, nI (j + 1), cd, dg, pw) else (false, nI j, cd, dg, pw)) := by
  rw [fX6_readsCommand_J132, if_neg bI_t, m_here h hj]
  simp only [Option.bind_some]
  by_cases e : hereF bs j = 59
  · rw [if_pos e, if_pos e, m_tT]
    simp only [Option.bind_some, bIt, if_false]
  · rw [if_neg e, if_neg e, m_tF]
    simp only [Option.bind_some, bIf, if_true]
theorem m_no (j : Nat) (ln cd dg pw : Int32) : fX6_readsCommand_J131 mt ln (nI j) cd dg pw = some (false, nI j, cd, dg, pw) := by
  rw [fX6_readsCommand_J131, fX6_readsCommand_J132, if_pos bI_ff]
theorem m_dig (h : TT tx mt bs) {j : Nat} (hj : j ≤ bs.length) (dg : Int32) : fX6_readsDigit mt (nI bs.length) (nI j) dg = some (if inB (hereF bs j) 48 57 = true then (true, nI (j + 1), hereF bs j - 48) else (false, nI j, hereF bs j - 48)) := by
  rw [fX6_readsDigit, m_here h hj, m_isD h hj]
  simp only [Option.bind_some]
  cases inB (hereF bs j) 48 57
  · rw [m_tF]; simp only [Option.bind_some, bft, if_false]
  · rw [m_tT]; simp only [Option.bind_some, if_true]
theorem m_powN (h : TT tx mt bs) {j : Nat} (hj : j ≤ bs.length) (pw : Int32) (h1 : hereF bs j ≠ 44) : ∃ p, fX6_readsPower mt (nI bs.length) (nI j) pw = some (false, nI j, p) := by
  rw [fX6_readsPower, m_here h hj]
  simp only [Option.bind_some, if_neg h1]
  rw [fX6_readsPower_J26, m_tF]
  simp only [Option.bind_some, bIf, if_true]
  exact ⟨_, rfl⟩
theorem m_pow0 (h : TT tx mt bs) {j : Nat} (hj : j ≤ bs.length) (pw : Int32) (h1 : hereF bs j = 44) (hj1 : j + 1 ≤ bs.length) (h2 : inB (hereF bs (j + 1)) 48 57 = false) : ∃ p, fX6_readsPower mt (nI bs.length) (nI j) pw = some (false, nI (j + 1), p) := by
  rw [fX6_readsPower, m_here h hj]
  simp only [Option.bind_some, if_pos h1]
  rw [fX6_readsPower_J26, m_tT]
  simp only [Option.bind_some, bIt, if_false, m_here h hj1, m_isD h hj1, h2, m_tF, bIf, if_true]
  exact ⟨_, rfl⟩
theorem m_pow1 (h : TT tx mt bs) {j : Nat} (hj : j ≤ bs.length) (pw : Int32) (h1 : hereF bs j = 44) (hj1 : j + 1 ≤ bs.length) (h2 : inB (hereF bs (j + 1)) 48 57 = true) (hj2 : j + 2 ≤ bs.length) (h3 : inB (hereF bs (j + 2)) 48 57 = false) : fX6_readsPower mt (nI bs.length) (nI j) pw = some (true, nI (j + 2), hereF bs (j + 1) - 48) := by
  rw [fX6_readsPower, m_here h hj]
  simp only [Option.bind_some, if_pos h1]
  rw [fX6_readsPower_J26, m_tT]
  simp only [Option.bind_some, bIt, if_false, m_here h hj1, m_isD h hj1, h2, m_tT, m_isD h hj2, h3, bIf, if_true]
theorem m_pow2 (h : TT tx mt bs) {j : Nat} (hj : j ≤ bs.length) (pw : Int32) (h1 : hereF bs j = 44) (hj1 : j + 1 ≤ bs.length) (h2 : inB (hereF bs (j + 1)) 48 57 = true) (hj2 : j + 2 ≤ bs.length) (h3 : inB (hereF bs (j + 2)) 48 57 = true) : fX6_readsPower mt (nI bs.length) (nI j) pw = some (true, nI (j + 3), (((10 : Int32) * (hereF bs (j + 1) - 48)) + hereF bs (j + 2)) - 48) := by
  rw [fX6_readsPower, m_here h hj]
  simp only [Option.bind_some, if_pos h1]
  rw [fX6_readsPower_J26, m_tT]
  simp only [Option.bind_some, bIt, if_false, m_here h hj1, m_isD h hj1, h2, m_tT, m_isD h hj2, h3, m_here h hj2, nS]
theorem m_97p (h : TT tx mt bs) {i : Nat} (hi : i + 1 ≤ bs.length) (b d p : Int32) : fX6_readsCommand_J97 mt (nI bs.length) (nI i) b d p true false true = some (if hereF bs (i + 1) = 59 then (true, nI (i + 2), b, d, p) else (false, nI (i + 1), b, d, p)) := by
  rw [fX6_readsCommand_J97, m_tT]
  simp only [Option.bind_some, bIt, if_false]
  exact m_semi h hi b d p
theorem m_97c (h : TT tx mt bs) {i : Nat} (hi : i + 1 ≤ bs.length) (b d p : Int32) : fX6_readsCommand_J97 mt (nI bs.length) (nI i) b d p false false true = (if inB (hereF bs (i + 1)) 48 57 = true then fX6_readsCommand_J132 mt (nI bs.length) (nI (i + 2)) b (hereF bs (i + 1) - 48) p true else some (false, nI (i + 1), b, hereF bs (i + 1) - 48, p)) := by
  rw [fX6_readsCommand_J97, m_tT]
  simp only [Option.bind_some, bIt, bIf, if_false, if_true]
  rw [m_dig h hi]
  cases inB (hereF bs (i + 1)) 48 57
  · simp only [Option.bind_some, bft, if_false, bIf, if_true, m_no]
  · simp only [Option.bind_some, if_true, bIt, if_false]
    rfl
theorem m_97a (h : TT tx mt bs) {i : Nat} (hi : i + 1 ≤ bs.length) (b d p : Int32) : fX6_readsCommand_J97 mt (nI bs.length) (nI i) b d p false true true = (if inB (hereF bs (i + 1)) 48 57 = true then (fX6_readsPower mt (nI bs.length) (nI (i + 2)) p).bind fun x7 => if bI x7.1 = 0 then fX6_readsCommand_J131 mt (nI bs.length) x7.2.1 b (hereF bs (i + 1) - 48) x7.2.2 else fX6_readsCommand_J132 mt (nI bs.length) x7.2.1 b (hereF bs (i + 1) - 48) x7.2.2 true else some (false, nI (i + 1), b, hereF bs (i + 1) - 48, p)) := by
  rw [fX6_readsCommand_J97, m_tT]
  simp only [Option.bind_some, bIt, bIf, if_false, if_true]
  rw [m_dig h hi]
  cases inB (hereF bs (i + 1)) 48 57
  · simp only [Option.bind_some, bft, if_false, bIf, if_true, m_no]
  · simp only [Option.bind_some, if_true, bIt, if_false]
    rfl
def RdNo (fu : Nat) (tx : Tab) (rows : List Row) (i j : Nat) : Prop := ∀ k cm, 8 < k → TL 3 60 cm rows → ∃ cm', fX3_read_L11 fu tx k cm 0 (nI i) = some (nI j, cm') ∧ TZ 3 60 cm'
def RdYes (fu : Nat) (tx : Tab) (rows : List Row) (row : Row) (i j : Nat) : Prop := ∀ k cm, TL 3 60 cm rows → ∃ cm', fX3_read_L11 fu tx (k + (j - i)) cm 0 (nI i) = fX3_read_L11 fu tx k cm' 0 (nI j) ∧ TL 3 60 cm' (rows ++ [row])
def MdNo (mt : Nat → Int32) (n i j : Nat) : Prop := ∀ c0 d0 p0, ∃ cd dg pw, fX6_readsCommand mt (nI n) (nI i) c0 d0 p0 = some (false, nI j, cd, dg, pw)
def MdYes (mt : Nat → Int32) (n i j : Nat) (row : Row) : Prop := ∀ c0 d0 p0, ∃ dg pw, fX6_readsCommand mt (nI n) (nI i) c0 d0 p0 = some (true, nI j, gD row 0, dg, pw) ∧ RF row dg pw
theorem d59 : inB 59 48 57 = false := by decide
theorem d44 : inB 44 48 57 = false := by decide
theorem plain_d {b : Int32} (h : plainL b) : b ≠ -1 := by rcases h with rfl | rfl | rfl | rfl <;> decide
theorem act_d {b : Int32} (h : actL b) : b ≠ -1 := by rcases h with rfl | rfl <;> decide
theorem ten0 (b : Int32) : (((10 : Int32) * 0 + b) - 48) = b - 48 := by rw [show (10 : Int32) * 0 = 0 from rfl, Int32.zero_add]
theorem cmd_read (h : TT tx mt bs) {i : Nat} (hi : i < bs.length) {rows : List Row} (hr : 2 * rows.length ≤ i) (hfu : 2000 < fu) :
    (∃ j, j ≤ bs.length ∧ MdNo mt bs.length i j ∧ RdNo fu tx rows i j) ∨ ∃ j row, i + 2 ≤ j ∧ j ≤ bs.length ∧ MdYes mt bs.length i j row ∧ RdYes fu tx rows row i j := by
  have hl := h.len
  have hr60 : rows.length < 60 := by omega
  have e0 := m_here h (Nat.le_of_lt hi)
  generalize hb0 : hereF bs i = b0 at e0
  by_cases hp : plainL b0
  · -- a letter alone
    have M := fun c0 d0 p0 => (m_rp (c0 := c0) (d0 := d0) (p0 := p0) e0 hp).trans (m_97p h (show i + 1 ≤ bs.length from hi) b0 d0 p0)
    have S1 : ∀ k cm, TL 3 60 cm rows → ∃ cm1, fX3_read_L11 fu tx (k + 1) cm 0 (nI i) = fX3_read_L11 fu tx k cm1 6 (nI (i + 1)) ∧ TL 3 60 cm1 (rows ++ [[b0, 0, 0]]) := fun k cm hcm => by
      obtain ⟨cm1, n1, n2⟩ := n_let (fu := fu) b0 hcm hr60 hfu
      exact ⟨cm1, c_ok h hi (by rw [hb0]; exact wb0_p hp) (by decide) (by rw [hb0]; exact n1), n2⟩
    by_cases h1 : hereF bs (i + 1) = 59
    · have hi1 : i + 1 < bs.length := hereF_lt (by rw [h1]; decide)
      refine Or.inr ⟨i + 2, [b0, 0, 0], Nat.le_refl _, hi1, fun c0 d0 p0 => ⟨d0, p0, by rw [M, if_pos h1]; rfl, Or.inl hp⟩, fun k cm hcm => ?_⟩
      obtain ⟨cm1, s1, s2⟩ := S1 (k + 1) cm hcm
      refine ⟨cm1, ?_, s2⟩
      rw [show k + (i + 2 - i) = k + 1 + 1 by omega, s1]
      exact c_ok h hi1 (by rw [h1, wb6, if_pos rfl]) (by decide) (n_no 6 _ (by decide) (by decide) (by decide) (by rw [h1]; exact d59) s2)
    · refine Or.inl ⟨i + 1, hi, fun c0 d0 p0 => ⟨b0, d0, p0, by rw [M, if_neg h1]⟩, fun k cm hk hcm => ?_⟩
      obtain ⟨k, rfl⟩ : ∃ x, k = x + 1 + 1 := ⟨k - 2, by omega⟩
      obtain ⟨cm1, s1, s2⟩ := S1 (k + 1) cm hcm
      refine ⟨cm1, ?_, s2.z⟩
      rw [s1]
      exact c_bad h hi (by rw [wb6, if_neg h1]) (Or.inl (by decide))
  · by_cases hc : b0 = 99
    · -- who comes in
      subst hc
      have M := fun c0 d0 p0 => (m_rc (c0 := c0) (d0 := d0) (p0 := p0) e0).trans (m_97c h (show i + 1 ≤ bs.length from hi) 99 d0 p0)
      have S1 : ∀ k cm, TL 3 60 cm rows → ∃ cm1, fX3_read_L11 fu tx (k + 1) cm 0 (nI i) = fX3_read_L11 fu tx k cm1 1 (nI (i + 1)) ∧ TL 3 60 cm1 (rows ++ [[99, 0, 0]]) := fun k cm hcm => by
        obtain ⟨cm1, n1, n2⟩ := n_let (fu := fu) 99 hcm hr60 hfu
        exact ⟨cm1, c_ok h hi (by rw [hb0]; exact wb0_c) (by decide) (by rw [hb0]; exact n1), n2⟩
      by_cases h1 : inB (hereF bs (i + 1)) 48 57 = true
      · have hi1 : i + 1 < bs.length := hereF_lt (dig_ne h1)
        obtain ⟨d, d1, d2, d3⟩ := dig_of h1
        have S2 : ∀ k cm, TL 3 60 cm rows → ∃ cm2, fX3_read_L11 fu tx (k + 1 + 1) cm 0 (nI i) = fX3_read_L11 fu tx k cm2 6 (nI (i + 2)) ∧ TL 3 60 cm2 (rows ++ [[99, hereF bs (i + 1) - 48, 0]]) := fun k cm hcm => by
          obtain ⟨cm1, s1, s2⟩ := S1 (k + 1) cm hcm
          obtain ⟨cm2, n1, n2⟩ := n_fig (fu := fu) 1 (hereF bs (i + 1)) (Or.inl rfl) s2
          exact ⟨cm2, s1.trans (c_ok h hi1 (by rw [wb1, if_pos h1]) (by decide) n1), n2⟩
        by_cases h2 : hereF bs (i + 2) = 59
        · have hi2 : i + 2 < bs.length := hereF_lt (by rw [h2]; decide)
          refine Or.inr ⟨i + 3, [99, hereF bs (i + 1) - 48, 0], by omega, hi2, fun c0 d0 p0 => ⟨hereF bs (i + 1) - 48, p0, by rw [M, if_pos h1, m_semi h (Nat.le_of_lt hi2), if_pos h2]; rfl, Or.inr (Or.inl ⟨rfl, rfl, d, d1, d3⟩)⟩, fun k cm hcm => ?_⟩
          obtain ⟨cm2, s1, s2⟩ := S2 (k + 1) cm hcm
          refine ⟨cm2, ?_, s2⟩
          rw [show k + (i + 3 - i) = k + 1 + 1 + 1 by omega, s1]
          exact c_ok h hi2 (by rw [h2, wb6, if_pos rfl]) (by decide) (n_no 6 _ (by decide) (by decide) (by decide) (by rw [h2]; exact d59) s2)
        · refine Or.inl ⟨i + 2, hi1, fun c0 d0 p0 => ⟨99, hereF bs (i + 1) - 48, p0, by rw [M, if_pos h1, m_semi h (show i + 2 ≤ bs.length from hi1), if_neg h2]⟩, fun k cm hk hcm => ?_⟩
          obtain ⟨k, rfl⟩ : ∃ x, k = x + 1 + 1 + 1 := ⟨k - 3, by omega⟩
          obtain ⟨cm2, s1, s2⟩ := S2 (k + 1) cm hcm
          refine ⟨cm2, ?_, s2.z⟩
          rw [s1]
          exact c_bad h hi1 (by rw [wb6, if_neg h2]) (Or.inl (by decide))
      · refine Or.inl ⟨i + 1, hi, fun c0 d0 p0 => ⟨99, hereF bs (i + 1) - 48, p0, by rw [M, if_neg h1]⟩, fun k cm hk hcm => ?_⟩
        obtain ⟨k, rfl⟩ : ∃ x, k = x + 1 + 1 := ⟨k - 2, by omega⟩
        obtain ⟨cm1, s1, s2⟩ := S1 (k + 1) cm hcm
        refine ⟨cm1, ?_, s2.z⟩
        rw [s1]
        exact c_bad h hi (by rw [wb1, if_neg h1]) (Or.inl (by decide))
    · by_cases ha : actL b0
      · -- an act
        have M := fun c0 d0 p0 => (m_ra (c0 := c0) (d0 := d0) (p0 := p0) e0 ha).trans (m_97a h (show i + 1 ≤ bs.length from hi) b0 d0 p0)
        have S1 : ∀ k cm, TL 3 60 cm rows → ∃ cm1, fX3_read_L11 fu tx (k + 1) cm 0 (nI i) = fX3_read_L11 fu tx k cm1 2 (nI (i + 1)) ∧ TL 3 60 cm1 (rows ++ [[b0, 0, 0]]) := fun k cm hcm => by
          obtain ⟨cm1, n1, n2⟩ := n_let (fu := fu) b0 hcm hr60 hfu
          exact ⟨cm1, c_ok h hi (by rw [hb0]; exact wb0_a ha) (by decide) (by rw [hb0]; exact n1), n2⟩
        by_cases h1 : inB (hereF bs (i + 1)) 48 57 = true
        · have hi1 : i + 1 < bs.length := hereF_lt (dig_ne h1)
          obtain ⟨d, d1, d2, d3⟩ := dig_of h1
          have S2 : ∀ k cm, TL 3 60 cm rows → ∃ cm2, fX3_read_L11 fu tx (k + 1 + 1) cm 0 (nI i) = fX3_read_L11 fu tx k cm2 3 (nI (i + 2)) ∧ TL 3 60 cm2 (rows ++ [[b0, hereF bs (i + 1) - 48, 0]]) := fun k cm hcm => by
            obtain ⟨cm1, s1, s2⟩ := S1 (k + 1) cm hcm
            obtain ⟨cm2, n1, n2⟩ := n_fig (fu := fu) 2 (hereF bs (i + 1)) (Or.inr rfl) s2
            exact ⟨cm2, s1.trans (c_ok h hi1 (by rw [wb2, if_pos h1]) (by decide) n1), n2⟩
          by_cases h2 : hereF bs (i + 2) = 44
          · have hi2 : i + 2 < bs.length := hereF_lt (by rw [h2]; decide)
            have S3 : ∀ k cm, TL 3 60 cm rows → ∃ cm2, fX3_read_L11 fu tx (k + 1 + 1 + 1) cm 0 (nI i) = fX3_read_L11 fu tx k cm2 4 (nI (i + 3)) ∧ TL 3 60 cm2 (rows ++ [[b0, hereF bs (i + 1) - 48, 0]]) := fun k cm hcm => by
              obtain ⟨cm2, s1, s2⟩ := S2 (k + 1) cm hcm
              exact ⟨cm2, s1.trans (c_ok h hi2 (by rw [h2, wb3, if_pos rfl]) (by decide) (n_no 3 _ (by decide) (by decide) (by decide) (by rw [h2]; exact d44) s2)), s2⟩
            by_cases h3 : inB (hereF bs (i + 3)) 48 57 = true
            · have hi3 : i + 3 < bs.length := hereF_lt (dig_ne h3)
              have S4 : ∀ k cm, TL 3 60 cm rows → ∃ cm2, fX3_read_L11 fu tx (k + 1 + 1 + 1 + 1) cm 0 (nI i) = fX3_read_L11 fu tx k cm2 5 (nI (i + 4)) ∧ TL 3 60 cm2 (rows ++ [[b0, hereF bs (i + 1) - 48, hereF bs (i + 3) - 48]]) := fun k cm hcm => by
                obtain ⟨cm2, s1, s2⟩ := S3 (k + 1) cm hcm
                obtain ⟨cm3, n1, n2⟩ := n_pow (fu := fu) 4 (hereF bs (i + 3)) (by decide) (by decide) (by decide) h3 s2
                rw [ten0] at n2
                exact ⟨cm3, s1.trans (c_ok h hi3 (by rw [wb4, if_pos h3]) (by decide) n1), n2⟩
              by_cases h4 : inB (hereF bs (i + 4)) 48 57 = true
              · have hi4 : i + 4 < bs.length := hereF_lt (dig_ne h4)
                have P := fun p => m_pow2 h (Nat.le_of_lt hi2) p h2 (Nat.le_of_lt hi3) h3 (Nat.le_of_lt hi4) h4
                have S5 : ∀ k cm, TL 3 60 cm rows → ∃ cm2, fX3_read_L11 fu tx (k + 1 + 1 + 1 + 1 + 1) cm 0 (nI i) = fX3_read_L11 fu tx k cm2 6 (nI (i + 5)) ∧ TL 3 60 cm2 (rows ++ [[b0, hereF bs (i + 1) - 48, (((10 : Int32) * (hereF bs (i + 3) - 48)) + hereF bs (i + 4)) - 48]]) := fun k cm hcm => by
                  obtain ⟨cm2, s1, s2⟩ := S4 (k + 1) cm hcm
                  obtain ⟨cm3, n1, n2⟩ := n_pow (fu := fu) 5 (hereF bs (i + 4)) (by decide) (by decide) (by decide) h4 s2
                  exact ⟨cm3, s1.trans (c_ok h hi4 (by rw [wb5, if_pos h4]) (by decide) n1), n2⟩
                by_cases h5 : hereF bs (i + 5) = 59
                · have hi5 : i + 5 < bs.length := hereF_lt (by rw [h5]; decide)
                  refine Or.inr ⟨i + 6, [b0, hereF bs (i + 1) - 48, (((10 : Int32) * (hereF bs (i + 3) - 48)) + hereF bs (i + 4)) - 48], by omega, hi5, fun c0 d0 p0 => ⟨hereF bs (i + 1) - 48, (((10 : Int32) * (hereF bs (i + 3) - 48)) + hereF bs (i + 4)) - 48, ?_, Or.inr (Or.inr ⟨ha, rfl, rfl, d, d1, d3⟩)⟩, fun k cm hcm => ?_⟩
                  · rw [M, if_pos h1, P]
                    simp only [Option.bind_some, bIt, if_false]
                    rw [m_semi h (Nat.le_of_lt hi5), if_pos h5]; rfl
                  · obtain ⟨cm2, s1, s2⟩ := S5 (k + 1) cm hcm
                    refine ⟨cm2, ?_, s2⟩
                    rw [show k + (i + 6 - i) = k + 1 + 1 + 1 + 1 + 1 + 1 by omega, s1]
                    exact c_ok h hi5 (by rw [h5, wb6, if_pos rfl]) (by decide) (n_no 6 _ (by decide) (by decide) (by decide) (by rw [h5]; exact d59) s2)
                · refine Or.inl ⟨i + 5, hi4, fun c0 d0 p0 => ⟨b0, hereF bs (i + 1) - 48, (((10 : Int32) * (hereF bs (i + 3) - 48)) + hereF bs (i + 4)) - 48, ?_⟩, fun k cm hk hcm => ?_⟩
                  · rw [M, if_pos h1, P]
                    simp only [Option.bind_some, bIt, if_false]
                    rw [m_semi h (show i + 5 ≤ bs.length from hi4), if_neg h5]
                  · obtain ⟨k, rfl⟩ : ∃ x, k = x + 1 + 1 + 1 + 1 + 1 + 1 := ⟨k - 6, by omega⟩
                    obtain ⟨cm2, s1, s2⟩ := S5 (k + 1) cm hcm
                    refine ⟨cm2, ?_, s2.z⟩
                    rw [s1]
                    exact c_bad h hi4 (by rw [wb6, if_neg h5]) (Or.inl (by decide))
              · have h4' : inB (hereF bs (i + 4)) 48 57 = false := by cases hx : inB (hereF bs (i + 4)) 48 57 with | false => rfl | true => exact absurd hx h4
                have P := fun p => m_pow1 h (Nat.le_of_lt hi2) p h2 (Nat.le_of_lt hi3) h3 (show i + 2 + 2 ≤ bs.length from hi3) h4'
                by_cases h5 : hereF bs (i + 4) = 59
                · have hi5 : i + 4 < bs.length := hereF_lt (by rw [h5]; decide)
                  refine Or.inr ⟨i + 5, [b0, hereF bs (i + 1) - 48, hereF bs (i + 3) - 48], by omega, hi5, fun c0 d0 p0 => ⟨hereF bs (i + 1) - 48, hereF bs (i + 3) - 48, ?_, Or.inr (Or.inr ⟨ha, rfl, rfl, d, d1, d3⟩)⟩, fun k cm hcm => ?_⟩
                  · rw [M, if_pos h1, P]
                    simp only [Option.bind_some, bIt, if_false]
                    rw [m_semi h (show i + 2 + 2 ≤ bs.length from hi3), if_pos h5]; rfl
                  · obtain ⟨cm2, s1, s2⟩ := S4 (k + 1) cm hcm
                    refine ⟨cm2, ?_, s2⟩
                    rw [show k + (i + 5 - i) = k + 1 + 1 + 1 + 1 + 1 by omega, s1]
                    exact c_ok h hi5 (by rw [h5, wb5, if_neg (by decide), if_pos rfl]) (by decide) (n_no 5 _ (by decide) (by decide) (by decide) (by rw [h5]; exact d59) s2)
                · refine Or.inl ⟨i + 4, hi3, fun c0 d0 p0 => ⟨b0, hereF bs (i + 1) - 48, hereF bs (i + 3) - 48, ?_⟩, fun k cm hk hcm => ?_⟩
                  · rw [M, if_pos h1, P]
                    simp only [Option.bind_some, bIt, if_false]
                    rw [m_semi h (show i + 2 + 2 ≤ bs.length from hi3), if_neg h5]
                  · obtain ⟨k, rfl⟩ : ∃ x, k = x + 1 + 1 + 1 + 1 + 1 := ⟨k - 5, by omega⟩
                    obtain ⟨cm2, s1, s2⟩ := S4 (k + 1) cm hcm
                    refine ⟨cm2, ?_, s2.z⟩
                    rw [s1]
                    exact c_bad h hi3 (by rw [wb5, if_neg h4, if_neg h5]) (Or.inl (by decide))
            · have h3' : inB (hereF bs (i + 3)) 48 57 = false := by cases hx : inB (hereF bs (i + 3)) 48 57 with | false => rfl | true => exact absurd hx h3
              refine Or.inl ⟨i + 3, hi2, fun c0 d0 p0 => ?_, fun k cm hk hcm => ?_⟩
              · obtain ⟨p, P⟩ := m_pow0 h (Nat.le_of_lt hi2) p0 h2 (show i + 2 + 1 ≤ bs.length from hi2) h3'
                refine ⟨b0, hereF bs (i + 1) - 48, p, ?_⟩
                rw [M, if_pos h1, P]
                simp only [Option.bind_some, bIf, if_true, m_no]
              · obtain ⟨k, rfl⟩ : ∃ x, k = x + 1 + 1 + 1 + 1 := ⟨k - 4, by omega⟩
                obtain ⟨cm2, s1, s2⟩ := S3 (k + 1) cm hcm
                refine ⟨cm2, ?_, s2.z⟩
                rw [s1]
                exact c_bad h hi2 (by rw [wb4, if_neg h3]) (Or.inl (by decide))
          · refine Or.inl ⟨i + 2, hi1, fun c0 d0 p0 => ?_, fun k cm hk hcm => ?_⟩
            · obtain ⟨p, P⟩ := m_powN h (show i + 2 ≤ bs.length from hi1) p0 h2
              refine ⟨b0, hereF bs (i + 1) - 48, p, ?_⟩
              rw [M, if_pos h1, P]
              simp only [Option.bind_some, bIf, if_true, m_no]
            · obtain ⟨k, rfl⟩ : ∃ x, k = x + 1 + 1 + 1 := ⟨k - 3, by omega⟩
              obtain ⟨cm2, s1, s2⟩ := S2 (k + 1) cm hcm
              refine ⟨cm2, ?_, s2.z⟩
              rw [s1]
              exact c_bad h hi1 (by rw [wb3, if_neg h2]) (Or.inl (by decide))
        · refine Or.inl ⟨i + 1, hi, fun c0 d0 p0 => ⟨b0, hereF bs (i + 1) - 48, p0, by rw [M, if_neg h1]⟩, fun k cm hk hcm => ?_⟩
          obtain ⟨k, rfl⟩ : ∃ x, k = x + 1 + 1 := ⟨k - 2, by omega⟩
          obtain ⟨cm1, s1, s2⟩ := S1 (k + 1) cm hcm
          refine ⟨cm1, ?_, s2.z⟩
          rw [s1]
          exact c_bad h hi (by rw [wb2, if_neg h1]) (Or.inl (by decide))
      · -- no command begins so
        refine Or.inl ⟨i, Nat.le_of_lt hi, fun c0 d0 p0 => ⟨b0, d0, p0, ?_⟩, fun k cm hk hcm => ?_⟩
        · rw [m_rn e0 hp ha hc, fX6_readsCommand_J97, m_tF]
          simp only [Option.bind_some, bIf, if_true]
        · obtain ⟨k, rfl⟩ : ∃ x, k = x + 1 := ⟨k - 1, by omega⟩
          exact ⟨cm, c_bad h (Nat.le_of_lt hi) (by rw [hb0]; exact wb0_n hp ha hc) (Or.inr hi), hcm.z⟩
end CM
